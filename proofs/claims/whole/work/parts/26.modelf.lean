def s_M_lay (th : Int32) (z : Nat → Nat) (a : Nat → Nat → Int32) (pt : Int32) (od : Int32) (day : Int32) : MS := (if 0 ≤ day then (nI (z 0), th, va_up z 0 ((z 0) + 1), va_up (va_up (va_up (va_up (va_up (va_up (va_up (va_up (va_up (va_up (va_up (va_up a 4 (upd (a 4) (z 0) (pt))) 5 (upd (a 5) (z 0) (od))) 7 (upd (a 7) (z 0) (day))) 6 (upd (a 6) (z 0) (1))) 8 (upd (a 8) (z 0) (0))) 10 (upd (a 10) (z 0) (0))) 11 (upd (a 11) (z 0) (-1))) 12 (upd (a 12) (z 0) (-1))) 13 (upd (a 13) (z 0) (-1))) 14 (upd (a 14) (z 0) (0))) 16 (upd (a 16) (z 0) (0))) 19 (upd (a 19) (z 0) (-1))) else (nI (z 0), th, va_up z 0 ((z 0) + 1), va_up (va_up (va_up (va_up (va_up (va_up (va_up (va_up (va_up (va_up (va_up (va_up a 4 (upd (a 4) (z 0) (pt))) 5 (upd (a 5) (z 0) (od))) 7 (upd (a 7) (z 0) (day))) 6 (upd (a 6) (z 0) (0))) 8 (upd (a 8) (z 0) (0))) 10 (upd (a 10) (z 0) (0))) 11 (upd (a 11) (z 0) (-1))) 12 (upd (a 12) (z 0) (-1))) 13 (upd (a 13) (z 0) (-1))) 14 (upd (a 14) (z 0) (0))) 16 (upd (a 16) (z 0) (0))) 19 (upd (a 19) (z 0) (-1))))
set_option maxHeartbeats 4000000 in
set_option maxRecDepth 100000 in
theorem c_M_lay (l : Launch) (D : va_G) (cs : Nat → ClassId) (bk : Nat → Nat) (sz : Nat) (th : Int32) (z : Nat → Nat) (a : Nat → Nat → Int32) (hz : z 0 < 200) (pt od day : Int32) : Met l y_M_lay w_M_lay ({ frames := 0, cells := 0, slots := 0, locals := 0 }) (va_Pc [.ref (bk (0)), .int (pt), .int (od), .int (day)] (PB D classes (TY cs) 28 bk (MW cs th z a bk) sz)) (va_Qi (Mr cs bk (s_M_lay th z a pt od day)) (Wd D classes (TY cs) (AA 28 bk sz)) (AA 28 bk sz)) 0 0 (AA 28 bk sz) := by
  refine pw_entry (cc := b_M_lay) (maxL := 5) (ret := (some .int)) (by decide +kernel) rfl (Nat.le_of_ble_eq_true rfl) ?_
  intro p_ e_ s m below_ meth_ c_ ls hx hb hr hml hts hown hlocks hin hsz hP hK hD hS hA hN hl
  have hw : ∀ w ∈ WA, w.before _ s = true := fun w h => hts w (List.mem_cons_of_mem _ h)
  have hown : s.vm.findClass "IssueRowsModel" = some m.cls := hown
  have hl : lv_has ls 5 [(0, .ref (bk (0))), (1, .int (pt)), (2, .int (od)), (3, .int (day))] := hl
  refine lv_aload_n hx hb d_M_lay_0 rfl (lv_at hl 0 rfl) ?_
  refine pw_get (ci := 7) (v := .int (nI (z 0))) hx hb hw i_M hown hK hP (0) (by decide) rfl rfl 4 (by decide) (hw _ kF_M_101) rfl d_M_lay_1 ?_
  refine lv_istore (lv' := [(4, .int (nI (z 0))), (0, .ref (bk (0))), (1, .int (pt)), (2, .int (od)), (3, .int (day))]) hx hb d_M_lay_4 hl (by decide) rfl (fun ls hl => ?_)
  refine lv_aload_n hx hb d_M_lay_6 rfl (lv_at hl 1 rfl) ?_
  refine pw_get (ci := 7) (v := .ref (bk (4))) hx hb hw i_M hown hK hP (0) (by decide) rfl rfl 5 (by decide) (hw _ kF_M_19) rfl d_M_lay_7 ?_
  refine lv_iload hx hb d_M_lay_10 (lv_at hl 0 rfl) ?_
  refine lv_iload_n hx hb d_M_lay_12 rfl (lv_at hl 2 rfl) ?_
  refine pw_iast (n := 200) (f := (a 4)) hx hb hK hP hD hS 0 (4) (by decide) rfl rfl (z 0) rfl hz (by decide) d_M_lay_13 (fun cw_1 H locs ecw_1 hP hD hS => ?_)
  obtain rfl : cw_1 = MW cs th z (va_up a 4 (upd (a 4) (z 0) (pt))) bk := by rw [ecw_1]; exact MW_arr 4 (by decide) (upd (a 4) (z 0) (pt))
  refine lv_aload_n hx hb d_M_lay_14 rfl (lv_at hl 1 rfl) ?_
  refine pw_get (ci := 7) (v := .ref (bk (5))) hx hb hw i_M hown hK hP (0) (by decide) rfl rfl 6 (by decide) (hw _ kF_M_22) rfl d_M_lay_15 ?_
  refine lv_iload hx hb d_M_lay_18 (lv_at hl 0 rfl) ?_
  refine lv_iload_n hx hb d_M_lay_20 rfl (lv_at hl 3 rfl) ?_
  refine pw_iast (n := 200) (f := (a 5)) hx hb hK hP hD hS 0 (5) (by decide) rfl rfl (z 0) rfl hz (by decide) d_M_lay_21 (fun cw_2 H locs ecw_2 hP hD hS => ?_)
  obtain rfl : cw_2 = MW cs th z (va_up (va_up a 4 (upd (a 4) (z 0) (pt))) 5 (upd (a 5) (z 0) (od))) bk := by rw [ecw_2]; exact MW_arr 5 (by decide) (upd (a 5) (z 0) (od))
  refine lv_aload_n hx hb d_M_lay_22 rfl (lv_at hl 1 rfl) ?_
  refine pw_get (ci := 7) (v := .ref (bk (7))) hx hb hw i_M hown hK hP (0) (by decide) rfl rfl 8 (by decide) (hw _ kF_M_28) rfl d_M_lay_23 ?_
  refine lv_iload hx hb d_M_lay_26 (lv_at hl 0 rfl) ?_
  refine lv_iload_n hx hb d_M_lay_28 rfl (lv_at hl 4 rfl) ?_
  refine pw_iast (n := 200) (f := (a 7)) hx hb hK hP hD hS 0 (7) (by decide) rfl rfl (z 0) rfl hz (by decide) d_M_lay_29 (fun cw_3 H locs ecw_3 hP hD hS => ?_)
  obtain rfl : cw_3 = MW cs th z (va_up (va_up (va_up a 4 (upd (a 4) (z 0) (pt))) 5 (upd (a 5) (z 0) (od))) 7 (upd (a 7) (z 0) (day))) bk := by rw [ecw_3]; exact MW_arr 7 (by decide) (upd (a 7) (z 0) (day))
  refine lv_aload_n hx hb d_M_lay_30 rfl (lv_at hl 1 rfl) ?_
  refine pw_get (ci := 7) (v := .ref (bk (6))) hx hb hw i_M hown hK hP (0) (by decide) rfl rfl 7 (by decide) (hw _ kF_M_25) rfl d_M_lay_31 ?_
  refine lv_iload hx hb d_M_lay_34 (lv_at hl 0 rfl) ?_
  refine lv_iload_n hx hb d_M_lay_36 rfl (lv_at hl 4 rfl) ?_
  refine lv_if_ge (tgt := 44) hx hb d_M_lay_37 (by decide) (fun c_4 => ?_) (fun c_4 => ?_)
  · have c_4 : 0 ≤ day := c_4
    refine lv_iconst (v := 1) hx hb d_M_lay_44 (by decide) ?_
    refine pw_iast (n := 200) (f := (a 6)) hx hb hK hP hD hS 0 (6) (by decide) rfl rfl (z 0) rfl hz (by decide) d_M_lay_45 (fun cw_5 H locs ecw_5 hP hD hS => ?_)
    obtain rfl : cw_5 = MW cs th z (va_up (va_up (va_up (va_up a 4 (upd (a 4) (z 0) (pt))) 5 (upd (a 5) (z 0) (od))) 7 (upd (a 7) (z 0) (day))) 6 (upd (a 6) (z 0) (1))) bk := by rw [ecw_5]; exact MW_arr 6 (by decide) (upd (a 6) (z 0) (1))
    refine lv_aload_n hx hb d_M_lay_46 rfl (lv_at hl 1 rfl) ?_
    refine pw_get (ci := 7) (v := .ref (bk (8))) hx hb hw i_M hown hK hP (0) (by decide) rfl rfl 9 (by decide) (hw _ kF_M_31) rfl d_M_lay_47 ?_
    refine lv_iload hx hb d_M_lay_50 (lv_at hl 0 rfl) ?_
    refine lv_iconst (v := 0) hx hb d_M_lay_52 (by decide) ?_
    refine pw_iast (n := 200) (f := (a 8)) hx hb hK hP hD hS 0 (8) (by decide) rfl rfl (z 0) rfl hz (by decide) d_M_lay_53 (fun cw_6 H locs ecw_6 hP hD hS => ?_)
    obtain rfl : cw_6 = MW cs th z (va_up (va_up (va_up (va_up (va_up a 4 (upd (a 4) (z 0) (pt))) 5 (upd (a 5) (z 0) (od))) 7 (upd (a 7) (z 0) (day))) 6 (upd (a 6) (z 0) (1))) 8 (upd (a 8) (z 0) (0))) bk := by rw [ecw_6]; exact MW_arr 8 (by decide) (upd (a 8) (z 0) (0))
    refine lv_aload_n hx hb d_M_lay_54 rfl (lv_at hl 1 rfl) ?_
    refine pw_get (ci := 7) (v := .ref (bk (10))) hx hb hw i_M hown hK hP (0) (by decide) rfl rfl 11 (by decide) (hw _ kF_M_37) rfl d_M_lay_55 ?_
    refine lv_iload hx hb d_M_lay_58 (lv_at hl 0 rfl) ?_
    refine lv_iconst (v := 0) hx hb d_M_lay_60 (by decide) ?_
    refine pw_iast (n := 200) (f := (a 10)) hx hb hK hP hD hS 0 (10) (by decide) rfl rfl (z 0) rfl hz (by decide) d_M_lay_61 (fun cw_7 H locs ecw_7 hP hD hS => ?_)
    obtain rfl : cw_7 = MW cs th z (va_up (va_up (va_up (va_up (va_up (va_up a 4 (upd (a 4) (z 0) (pt))) 5 (upd (a 5) (z 0) (od))) 7 (upd (a 7) (z 0) (day))) 6 (upd (a 6) (z 0) (1))) 8 (upd (a 8) (z 0) (0))) 10 (upd (a 10) (z 0) (0))) bk := by rw [ecw_7]; exact MW_arr 10 (by decide) (upd (a 10) (z 0) (0))
    refine lv_aload_n hx hb d_M_lay_62 rfl (lv_at hl 1 rfl) ?_
    refine pw_get (ci := 7) (v := .ref (bk (11))) hx hb hw i_M hown hK hP (0) (by decide) rfl rfl 12 (by decide) (hw _ kF_M_40) rfl d_M_lay_63 ?_
    refine lv_iload hx hb d_M_lay_66 (lv_at hl 0 rfl) ?_
    refine lv_iconst (v := -1) hx hb d_M_lay_68 (by decide) ?_
    refine pw_iast (n := 200) (f := (a 11)) hx hb hK hP hD hS 0 (11) (by decide) rfl rfl (z 0) rfl hz (by decide) d_M_lay_69 (fun cw_8 H locs ecw_8 hP hD hS => ?_)
    obtain rfl : cw_8 = MW cs th z (va_up (va_up (va_up (va_up (va_up (va_up (va_up a 4 (upd (a 4) (z 0) (pt))) 5 (upd (a 5) (z 0) (od))) 7 (upd (a 7) (z 0) (day))) 6 (upd (a 6) (z 0) (1))) 8 (upd (a 8) (z 0) (0))) 10 (upd (a 10) (z 0) (0))) 11 (upd (a 11) (z 0) (-1))) bk := by rw [ecw_8]; exact MW_arr 11 (by decide) (upd (a 11) (z 0) (-1))
    refine lv_aload_n hx hb d_M_lay_70 rfl (lv_at hl 1 rfl) ?_
    refine pw_get (ci := 7) (v := .ref (bk (12))) hx hb hw i_M hown hK hP (0) (by decide) rfl rfl 13 (by decide) (hw _ kF_M_43) rfl d_M_lay_71 ?_
    refine lv_iload hx hb d_M_lay_74 (lv_at hl 0 rfl) ?_
    refine lv_iconst (v := -1) hx hb d_M_lay_76 (by decide) ?_
    refine pw_iast (n := 200) (f := (a 12)) hx hb hK hP hD hS 0 (12) (by decide) rfl rfl (z 0) rfl hz (by decide) d_M_lay_77 (fun cw_9 H locs ecw_9 hP hD hS => ?_)
    obtain rfl : cw_9 = MW cs th z (va_up (va_up (va_up (va_up (va_up (va_up (va_up (va_up a 4 (upd (a 4) (z 0) (pt))) 5 (upd (a 5) (z 0) (od))) 7 (upd (a 7) (z 0) (day))) 6 (upd (a 6) (z 0) (1))) 8 (upd (a 8) (z 0) (0))) 10 (upd (a 10) (z 0) (0))) 11 (upd (a 11) (z 0) (-1))) 12 (upd (a 12) (z 0) (-1))) bk := by rw [ecw_9]; exact MW_arr 12 (by decide) (upd (a 12) (z 0) (-1))
    refine lv_aload_n hx hb d_M_lay_78 rfl (lv_at hl 1 rfl) ?_
    refine pw_get (ci := 7) (v := .ref (bk (13))) hx hb hw i_M hown hK hP (0) (by decide) rfl rfl 14 (by decide) (hw _ kF_M_46) rfl d_M_lay_79 ?_
    refine lv_iload hx hb d_M_lay_82 (lv_at hl 0 rfl) ?_
    refine lv_iconst (v := -1) hx hb d_M_lay_84 (by decide) ?_
    refine pw_iast (n := 200) (f := (a 13)) hx hb hK hP hD hS 0 (13) (by decide) rfl rfl (z 0) rfl hz (by decide) d_M_lay_85 (fun cw_10 H locs ecw_10 hP hD hS => ?_)
    obtain rfl : cw_10 = MW cs th z (va_up (va_up (va_up (va_up (va_up (va_up (va_up (va_up (va_up a 4 (upd (a 4) (z 0) (pt))) 5 (upd (a 5) (z 0) (od))) 7 (upd (a 7) (z 0) (day))) 6 (upd (a 6) (z 0) (1))) 8 (upd (a 8) (z 0) (0))) 10 (upd (a 10) (z 0) (0))) 11 (upd (a 11) (z 0) (-1))) 12 (upd (a 12) (z 0) (-1))) 13 (upd (a 13) (z 0) (-1))) bk := by rw [ecw_10]; exact MW_arr 13 (by decide) (upd (a 13) (z 0) (-1))
    refine lv_aload_n hx hb d_M_lay_86 rfl (lv_at hl 1 rfl) ?_
    refine pw_get (ci := 7) (v := .ref (bk (14))) hx hb hw i_M hown hK hP (0) (by decide) rfl rfl 15 (by decide) (hw _ kF_M_49) rfl d_M_lay_87 ?_
    refine lv_iload hx hb d_M_lay_90 (lv_at hl 0 rfl) ?_
    refine lv_iconst (v := 0) hx hb d_M_lay_92 (by decide) ?_
    refine pw_iast (n := 200) (f := (a 14)) hx hb hK hP hD hS 0 (14) (by decide) rfl rfl (z 0) rfl hz (by decide) d_M_lay_93 (fun cw_11 H locs ecw_11 hP hD hS => ?_)
    obtain rfl : cw_11 = MW cs th z (va_up (va_up (va_up (va_up (va_up (va_up (va_up (va_up (va_up (va_up a 4 (upd (a 4) (z 0) (pt))) 5 (upd (a 5) (z 0) (od))) 7 (upd (a 7) (z 0) (day))) 6 (upd (a 6) (z 0) (1))) 8 (upd (a 8) (z 0) (0))) 10 (upd (a 10) (z 0) (0))) 11 (upd (a 11) (z 0) (-1))) 12 (upd (a 12) (z 0) (-1))) 13 (upd (a 13) (z 0) (-1))) 14 (upd (a 14) (z 0) (0))) bk := by rw [ecw_11]; exact MW_arr 14 (by decide) (upd (a 14) (z 0) (0))
    refine lv_aload_n hx hb d_M_lay_94 rfl (lv_at hl 1 rfl) ?_
    refine pw_get (ci := 7) (v := .ref (bk (16))) hx hb hw i_M hown hK hP (0) (by decide) rfl rfl 17 (by decide) (hw _ kF_M_56) rfl d_M_lay_95 ?_
    refine lv_iload hx hb d_M_lay_98 (lv_at hl 0 rfl) ?_
    refine lv_iconst (v := 0) hx hb d_M_lay_100 (by decide) ?_
    refine pw_iast (n := 200) (f := (a 16)) hx hb hK hP hD hS 0 (16) (by decide) rfl rfl (z 0) rfl hz (by decide) d_M_lay_101 (fun cw_12 H locs ecw_12 hP hD hS => ?_)
    obtain rfl : cw_12 = MW cs th z (va_up (va_up (va_up (va_up (va_up (va_up (va_up (va_up (va_up (va_up (va_up a 4 (upd (a 4) (z 0) (pt))) 5 (upd (a 5) (z 0) (od))) 7 (upd (a 7) (z 0) (day))) 6 (upd (a 6) (z 0) (1))) 8 (upd (a 8) (z 0) (0))) 10 (upd (a 10) (z 0) (0))) 11 (upd (a 11) (z 0) (-1))) 12 (upd (a 12) (z 0) (-1))) 13 (upd (a 13) (z 0) (-1))) 14 (upd (a 14) (z 0) (0))) 16 (upd (a 16) (z 0) (0))) bk := by rw [ecw_12]; exact MW_arr 16 (by decide) (upd (a 16) (z 0) (0))
    refine lv_aload_n hx hb d_M_lay_102 rfl (lv_at hl 1 rfl) ?_
    refine pw_get (ci := 7) (v := .ref (bk (19))) hx hb hw i_M hown hK hP (0) (by decide) rfl rfl 20 (by decide) (hw _ kF_M_65) rfl d_M_lay_103 ?_
    refine lv_iload hx hb d_M_lay_106 (lv_at hl 0 rfl) ?_
    refine lv_iconst (v := -1) hx hb d_M_lay_108 (by decide) ?_
    refine pw_iast (n := 200) (f := (a 19)) hx hb hK hP hD hS 0 (19) (by decide) rfl rfl (z 0) rfl hz (by decide) d_M_lay_109 (fun cw_13 H locs ecw_13 hP hD hS => ?_)
    obtain rfl : cw_13 = MW cs th z (va_up (va_up (va_up (va_up (va_up (va_up (va_up (va_up (va_up (va_up (va_up (va_up a 4 (upd (a 4) (z 0) (pt))) 5 (upd (a 5) (z 0) (od))) 7 (upd (a 7) (z 0) (day))) 6 (upd (a 6) (z 0) (1))) 8 (upd (a 8) (z 0) (0))) 10 (upd (a 10) (z 0) (0))) 11 (upd (a 11) (z 0) (-1))) 12 (upd (a 12) (z 0) (-1))) 13 (upd (a 13) (z 0) (-1))) 14 (upd (a 14) (z 0) (0))) 16 (upd (a 16) (z 0) (0))) 19 (upd (a 19) (z 0) (-1))) bk := by rw [ecw_13]; exact MW_arr 19 (by decide) (upd (a 19) (z 0) (-1))
    refine lv_aload_n hx hb d_M_lay_110 rfl (lv_at hl 1 rfl) ?_
    refine lv_dup hx hb d_M_lay_111 rfl ?_
    refine pw_get (ci := 7) (v := .int (nI (z 0))) hx hb hw i_M hown hK hP (0) (by decide) rfl rfl 4 (by decide) (hw _ kF_M_101) rfl d_M_lay_112 ?_
    refine lv_iconst (v := 1) hx hb d_M_lay_115 (by decide) ?_
    refine lv_iadd hx hb d_M_lay_116 ?_
    rw [show (nI (z 0)) + 1 = nI ((z 0) + 1) from nI_1 _]
    refine pw_put (ci := 7) (v := .int (nI ((z 0) + 1))) (ty := .int) (fs' := [.int (th), .ref (bk (1)), .ref (bk (2)), .ref (bk (3)), .int (nI ((z 0) + 1)), .ref (bk (4)), .ref (bk (5)), .ref (bk (6)), .ref (bk (7)), .ref (bk (8)), .ref (bk (9)), .ref (bk (10)), .ref (bk (11)), .ref (bk (12)), .ref (bk (13)), .ref (bk (14)), .ref (bk (15)), .ref (bk (16)), .ref (bk (17)), .ref (bk (18)), .ref (bk (19)), .ref (bk (20)), .int (nI (z 1)), .ref (bk (21)), .ref (bk (22)), .int (nI (z 2)), .int (nI (z 3)), .ref (bk (23)), .ref (bk (24)), .ref (bk (25)), .int (nI (z 4)), .ref (bk (26)), .ref (bk (27))]) hx hb hw i_M t_M t_M_ok n_M hown hK hP hD hS (0) (by decide) rfl rfl 4 (by decide) (hw _ kF_M_101) rfl (t_M_ok 4 (by decide)) rfl rfl (Nat.le_of_ble_eq_true rfl) rfl d_M_lay_117 (fun cw_14 H locs ecw_14 hP hD hS => ?_)
    obtain rfl : cw_14 = MW cs th (va_up z 0 ((z 0) + 1)) (va_up (va_up (va_up (va_up (va_up (va_up (va_up (va_up (va_up (va_up (va_up (va_up a 4 (upd (a 4) (z 0) (pt))) 5 (upd (a 5) (z 0) (od))) 7 (upd (a 7) (z 0) (day))) 6 (upd (a 6) (z 0) (1))) 8 (upd (a 8) (z 0) (0))) 10 (upd (a 10) (z 0) (0))) 11 (upd (a 11) (z 0) (-1))) 12 (upd (a 12) (z 0) (-1))) 13 (upd (a 13) (z 0) (-1))) 14 (upd (a 14) (z 0) (0))) 16 (upd (a 16) (z 0) (0))) 19 (upd (a 19) (z 0) (-1))) bk := by rw [ecw_14]; exact MW_obj th (va_up z 0 ((z 0) + 1))
    refine lv_iload hx hb d_M_lay_120 (lv_at hl 0 rfl) ?_
    exact W.iret (v := nI (z 0)) hx hb hr (fun t ht hW => ⟨⟨nI (z 0), (28, bk, MW cs th (va_up z 0 ((z 0) + 1)) (va_up (va_up (va_up (va_up (va_up (va_up (va_up (va_up (va_up (va_up (va_up (va_up a 4 (upd (a 4) (z 0) (pt))) 5 (upd (a 5) (z 0) (od))) 7 (upd (a 7) (z 0) (day))) 6 (upd (a 6) (z 0) (1))) 8 (upd (a 8) (z 0) (0))) 10 (upd (a 10) (z 0) (0))) 11 (upd (a 11) (z 0) (-1))) 12 (upd (a 12) (z 0) (-1))) 13 (upd (a 13) (z 0) (-1))) 14 (upd (a 14) (z 0) (0))) 16 (upd (a 16) (z 0) (0))) 19 (upd (a 19) (z 0) (-1))) bk), rfl, Mr_of (by rw [s_M_lay, if_pos c_4]), by rw [ht]; exact hP, va_K.moved hW.alike hK, hD⟩, hS.F ht⟩) hS.2.2 d_M_lay_122
  · have c_4 : ¬ 0 ≤ day := c_4
    refine lv_iconst (v := 0) hx hb d_M_lay_40 (by decide) ?_
    refine lv_goto (tgt := 45) hx hb d_M_lay_41 (by decide) ?_
    refine pw_iast (n := 200) (f := (a 6)) hx hb hK hP hD hS 0 (6) (by decide) rfl rfl (z 0) rfl hz (by decide) d_M_lay_45 (fun cw_15 H locs ecw_15 hP hD hS => ?_)
    obtain rfl : cw_15 = MW cs th z (va_up (va_up (va_up (va_up a 4 (upd (a 4) (z 0) (pt))) 5 (upd (a 5) (z 0) (od))) 7 (upd (a 7) (z 0) (day))) 6 (upd (a 6) (z 0) (0))) bk := by rw [ecw_15]; exact MW_arr 6 (by decide) (upd (a 6) (z 0) (0))
    refine lv_aload_n hx hb d_M_lay_46 rfl (lv_at hl 1 rfl) ?_
    refine pw_get (ci := 7) (v := .ref (bk (8))) hx hb hw i_M hown hK hP (0) (by decide) rfl rfl 9 (by decide) (hw _ kF_M_31) rfl d_M_lay_47 ?_
    refine lv_iload hx hb d_M_lay_50 (lv_at hl 0 rfl) ?_
    refine lv_iconst (v := 0) hx hb d_M_lay_52 (by decide) ?_
    refine pw_iast (n := 200) (f := (a 8)) hx hb hK hP hD hS 0 (8) (by decide) rfl rfl (z 0) rfl hz (by decide) d_M_lay_53 (fun cw_16 H locs ecw_16 hP hD hS => ?_)
    obtain rfl : cw_16 = MW cs th z (va_up (va_up (va_up (va_up (va_up a 4 (upd (a 4) (z 0) (pt))) 5 (upd (a 5) (z 0) (od))) 7 (upd (a 7) (z 0) (day))) 6 (upd (a 6) (z 0) (0))) 8 (upd (a 8) (z 0) (0))) bk := by rw [ecw_16]; exact MW_arr 8 (by decide) (upd (a 8) (z 0) (0))
    refine lv_aload_n hx hb d_M_lay_54 rfl (lv_at hl 1 rfl) ?_
    refine pw_get (ci := 7) (v := .ref (bk (10))) hx hb hw i_M hown hK hP (0) (by decide) rfl rfl 11 (by decide) (hw _ kF_M_37) rfl d_M_lay_55 ?_
    refine lv_iload hx hb d_M_lay_58 (lv_at hl 0 rfl) ?_
    refine lv_iconst (v := 0) hx hb d_M_lay_60 (by decide) ?_
    refine pw_iast (n := 200) (f := (a 10)) hx hb hK hP hD hS 0 (10) (by decide) rfl rfl (z 0) rfl hz (by decide) d_M_lay_61 (fun cw_17 H locs ecw_17 hP hD hS => ?_)
    obtain rfl : cw_17 = MW cs th z (va_up (va_up (va_up (va_up (va_up (va_up a 4 (upd (a 4) (z 0) (pt))) 5 (upd (a 5) (z 0) (od))) 7 (upd (a 7) (z 0) (day))) 6 (upd (a 6) (z 0) (0))) 8 (upd (a 8) (z 0) (0))) 10 (upd (a 10) (z 0) (0))) bk := by rw [ecw_17]; exact MW_arr 10 (by decide) (upd (a 10) (z 0) (0))
    refine lv_aload_n hx hb d_M_lay_62 rfl (lv_at hl 1 rfl) ?_
    refine pw_get (ci := 7) (v := .ref (bk (11))) hx hb hw i_M hown hK hP (0) (by decide) rfl rfl 12 (by decide) (hw _ kF_M_40) rfl d_M_lay_63 ?_
    refine lv_iload hx hb d_M_lay_66 (lv_at hl 0 rfl) ?_
    refine lv_iconst (v := -1) hx hb d_M_lay_68 (by decide) ?_
    refine pw_iast (n := 200) (f := (a 11)) hx hb hK hP hD hS 0 (11) (by decide) rfl rfl (z 0) rfl hz (by decide) d_M_lay_69 (fun cw_18 H locs ecw_18 hP hD hS => ?_)
    obtain rfl : cw_18 = MW cs th z (va_up (va_up (va_up (va_up (va_up (va_up (va_up a 4 (upd (a 4) (z 0) (pt))) 5 (upd (a 5) (z 0) (od))) 7 (upd (a 7) (z 0) (day))) 6 (upd (a 6) (z 0) (0))) 8 (upd (a 8) (z 0) (0))) 10 (upd (a 10) (z 0) (0))) 11 (upd (a 11) (z 0) (-1))) bk := by rw [ecw_18]; exact MW_arr 11 (by decide) (upd (a 11) (z 0) (-1))
    refine lv_aload_n hx hb d_M_lay_70 rfl (lv_at hl 1 rfl) ?_
    refine pw_get (ci := 7) (v := .ref (bk (12))) hx hb hw i_M hown hK hP (0) (by decide) rfl rfl 13 (by decide) (hw _ kF_M_43) rfl d_M_lay_71 ?_
    refine lv_iload hx hb d_M_lay_74 (lv_at hl 0 rfl) ?_
    refine lv_iconst (v := -1) hx hb d_M_lay_76 (by decide) ?_
    refine pw_iast (n := 200) (f := (a 12)) hx hb hK hP hD hS 0 (12) (by decide) rfl rfl (z 0) rfl hz (by decide) d_M_lay_77 (fun cw_19 H locs ecw_19 hP hD hS => ?_)
    obtain rfl : cw_19 = MW cs th z (va_up (va_up (va_up (va_up (va_up (va_up (va_up (va_up a 4 (upd (a 4) (z 0) (pt))) 5 (upd (a 5) (z 0) (od))) 7 (upd (a 7) (z 0) (day))) 6 (upd (a 6) (z 0) (0))) 8 (upd (a 8) (z 0) (0))) 10 (upd (a 10) (z 0) (0))) 11 (upd (a 11) (z 0) (-1))) 12 (upd (a 12) (z 0) (-1))) bk := by rw [ecw_19]; exact MW_arr 12 (by decide) (upd (a 12) (z 0) (-1))
    refine lv_aload_n hx hb d_M_lay_78 rfl (lv_at hl 1 rfl) ?_
    refine pw_get (ci := 7) (v := .ref (bk (13))) hx hb hw i_M hown hK hP (0) (by decide) rfl rfl 14 (by decide) (hw _ kF_M_46) rfl d_M_lay_79 ?_
    refine lv_iload hx hb d_M_lay_82 (lv_at hl 0 rfl) ?_
    refine lv_iconst (v := -1) hx hb d_M_lay_84 (by decide) ?_
    refine pw_iast (n := 200) (f := (a 13)) hx hb hK hP hD hS 0 (13) (by decide) rfl rfl (z 0) rfl hz (by decide) d_M_lay_85 (fun cw_20 H locs ecw_20 hP hD hS => ?_)
    obtain rfl : cw_20 = MW cs th z (va_up (va_up (va_up (va_up (va_up (va_up (va_up (va_up (va_up a 4 (upd (a 4) (z 0) (pt))) 5 (upd (a 5) (z 0) (od))) 7 (upd (a 7) (z 0) (day))) 6 (upd (a 6) (z 0) (0))) 8 (upd (a 8) (z 0) (0))) 10 (upd (a 10) (z 0) (0))) 11 (upd (a 11) (z 0) (-1))) 12 (upd (a 12) (z 0) (-1))) 13 (upd (a 13) (z 0) (-1))) bk := by rw [ecw_20]; exact MW_arr 13 (by decide) (upd (a 13) (z 0) (-1))
    refine lv_aload_n hx hb d_M_lay_86 rfl (lv_at hl 1 rfl) ?_
    refine pw_get (ci := 7) (v := .ref (bk (14))) hx hb hw i_M hown hK hP (0) (by decide) rfl rfl 15 (by decide) (hw _ kF_M_49) rfl d_M_lay_87 ?_
    refine lv_iload hx hb d_M_lay_90 (lv_at hl 0 rfl) ?_
    refine lv_iconst (v := 0) hx hb d_M_lay_92 (by decide) ?_
    refine pw_iast (n := 200) (f := (a 14)) hx hb hK hP hD hS 0 (14) (by decide) rfl rfl (z 0) rfl hz (by decide) d_M_lay_93 (fun cw_21 H locs ecw_21 hP hD hS => ?_)
    obtain rfl : cw_21 = MW cs th z (va_up (va_up (va_up (va_up (va_up (va_up (va_up (va_up (va_up (va_up a 4 (upd (a 4) (z 0) (pt))) 5 (upd (a 5) (z 0) (od))) 7 (upd (a 7) (z 0) (day))) 6 (upd (a 6) (z 0) (0))) 8 (upd (a 8) (z 0) (0))) 10 (upd (a 10) (z 0) (0))) 11 (upd (a 11) (z 0) (-1))) 12 (upd (a 12) (z 0) (-1))) 13 (upd (a 13) (z 0) (-1))) 14 (upd (a 14) (z 0) (0))) bk := by rw [ecw_21]; exact MW_arr 14 (by decide) (upd (a 14) (z 0) (0))
    refine lv_aload_n hx hb d_M_lay_94 rfl (lv_at hl 1 rfl) ?_
    refine pw_get (ci := 7) (v := .ref (bk (16))) hx hb hw i_M hown hK hP (0) (by decide) rfl rfl 17 (by decide) (hw _ kF_M_56) rfl d_M_lay_95 ?_
    refine lv_iload hx hb d_M_lay_98 (lv_at hl 0 rfl) ?_
    refine lv_iconst (v := 0) hx hb d_M_lay_100 (by decide) ?_
    refine pw_iast (n := 200) (f := (a 16)) hx hb hK hP hD hS 0 (16) (by decide) rfl rfl (z 0) rfl hz (by decide) d_M_lay_101 (fun cw_22 H locs ecw_22 hP hD hS => ?_)
    obtain rfl : cw_22 = MW cs th z (va_up (va_up (va_up (va_up (va_up (va_up (va_up (va_up (va_up (va_up (va_up a 4 (upd (a 4) (z 0) (pt))) 5 (upd (a 5) (z 0) (od))) 7 (upd (a 7) (z 0) (day))) 6 (upd (a 6) (z 0) (0))) 8 (upd (a 8) (z 0) (0))) 10 (upd (a 10) (z 0) (0))) 11 (upd (a 11) (z 0) (-1))) 12 (upd (a 12) (z 0) (-1))) 13 (upd (a 13) (z 0) (-1))) 14 (upd (a 14) (z 0) (0))) 16 (upd (a 16) (z 0) (0))) bk := by rw [ecw_22]; exact MW_arr 16 (by decide) (upd (a 16) (z 0) (0))
    refine lv_aload_n hx hb d_M_lay_102 rfl (lv_at hl 1 rfl) ?_
    refine pw_get (ci := 7) (v := .ref (bk (19))) hx hb hw i_M hown hK hP (0) (by decide) rfl rfl 20 (by decide) (hw _ kF_M_65) rfl d_M_lay_103 ?_
    refine lv_iload hx hb d_M_lay_106 (lv_at hl 0 rfl) ?_
    refine lv_iconst (v := -1) hx hb d_M_lay_108 (by decide) ?_
    refine pw_iast (n := 200) (f := (a 19)) hx hb hK hP hD hS 0 (19) (by decide) rfl rfl (z 0) rfl hz (by decide) d_M_lay_109 (fun cw_23 H locs ecw_23 hP hD hS => ?_)
    obtain rfl : cw_23 = MW cs th z (va_up (va_up (va_up (va_up (va_up (va_up (va_up (va_up (va_up (va_up (va_up (va_up a 4 (upd (a 4) (z 0) (pt))) 5 (upd (a 5) (z 0) (od))) 7 (upd (a 7) (z 0) (day))) 6 (upd (a 6) (z 0) (0))) 8 (upd (a 8) (z 0) (0))) 10 (upd (a 10) (z 0) (0))) 11 (upd (a 11) (z 0) (-1))) 12 (upd (a 12) (z 0) (-1))) 13 (upd (a 13) (z 0) (-1))) 14 (upd (a 14) (z 0) (0))) 16 (upd (a 16) (z 0) (0))) 19 (upd (a 19) (z 0) (-1))) bk := by rw [ecw_23]; exact MW_arr 19 (by decide) (upd (a 19) (z 0) (-1))
    refine lv_aload_n hx hb d_M_lay_110 rfl (lv_at hl 1 rfl) ?_
    refine lv_dup hx hb d_M_lay_111 rfl ?_
    refine pw_get (ci := 7) (v := .int (nI (z 0))) hx hb hw i_M hown hK hP (0) (by decide) rfl rfl 4 (by decide) (hw _ kF_M_101) rfl d_M_lay_112 ?_
    refine lv_iconst (v := 1) hx hb d_M_lay_115 (by decide) ?_
    refine lv_iadd hx hb d_M_lay_116 ?_
    rw [show (nI (z 0)) + 1 = nI ((z 0) + 1) from nI_1 _]
    refine pw_put (ci := 7) (v := .int (nI ((z 0) + 1))) (ty := .int) (fs' := [.int (th), .ref (bk (1)), .ref (bk (2)), .ref (bk (3)), .int (nI ((z 0) + 1)), .ref (bk (4)), .ref (bk (5)), .ref (bk (6)), .ref (bk (7)), .ref (bk (8)), .ref (bk (9)), .ref (bk (10)), .ref (bk (11)), .ref (bk (12)), .ref (bk (13)), .ref (bk (14)), .ref (bk (15)), .ref (bk (16)), .ref (bk (17)), .ref (bk (18)), .ref (bk (19)), .ref (bk (20)), .int (nI (z 1)), .ref (bk (21)), .ref (bk (22)), .int (nI (z 2)), .int (nI (z 3)), .ref (bk (23)), .ref (bk (24)), .ref (bk (25)), .int (nI (z 4)), .ref (bk (26)), .ref (bk (27))]) hx hb hw i_M t_M t_M_ok n_M hown hK hP hD hS (0) (by decide) rfl rfl 4 (by decide) (hw _ kF_M_101) rfl (t_M_ok 4 (by decide)) rfl rfl (Nat.le_of_ble_eq_true rfl) rfl d_M_lay_117 (fun cw_24 H locs ecw_24 hP hD hS => ?_)
    obtain rfl : cw_24 = MW cs th (va_up z 0 ((z 0) + 1)) (va_up (va_up (va_up (va_up (va_up (va_up (va_up (va_up (va_up (va_up (va_up (va_up a 4 (upd (a 4) (z 0) (pt))) 5 (upd (a 5) (z 0) (od))) 7 (upd (a 7) (z 0) (day))) 6 (upd (a 6) (z 0) (0))) 8 (upd (a 8) (z 0) (0))) 10 (upd (a 10) (z 0) (0))) 11 (upd (a 11) (z 0) (-1))) 12 (upd (a 12) (z 0) (-1))) 13 (upd (a 13) (z 0) (-1))) 14 (upd (a 14) (z 0) (0))) 16 (upd (a 16) (z 0) (0))) 19 (upd (a 19) (z 0) (-1))) bk := by rw [ecw_24]; exact MW_obj th (va_up z 0 ((z 0) + 1))
    refine lv_iload hx hb d_M_lay_120 (lv_at hl 0 rfl) ?_
    exact W.iret (v := nI (z 0)) hx hb hr (fun t ht hW => ⟨⟨nI (z 0), (28, bk, MW cs th (va_up z 0 ((z 0) + 1)) (va_up (va_up (va_up (va_up (va_up (va_up (va_up (va_up (va_up (va_up (va_up (va_up a 4 (upd (a 4) (z 0) (pt))) 5 (upd (a 5) (z 0) (od))) 7 (upd (a 7) (z 0) (day))) 6 (upd (a 6) (z 0) (0))) 8 (upd (a 8) (z 0) (0))) 10 (upd (a 10) (z 0) (0))) 11 (upd (a 11) (z 0) (-1))) 12 (upd (a 12) (z 0) (-1))) 13 (upd (a 13) (z 0) (-1))) 14 (upd (a 14) (z 0) (0))) 16 (upd (a 16) (z 0) (0))) 19 (upd (a 19) (z 0) (-1))) bk), rfl, Mr_of (by rw [s_M_lay, if_neg c_4]), by rw [ht]; exact hP, va_K.moved hW.alike hK, hD⟩, hS.F ht⟩) hS.2.2 d_M_lay_122
theorem lay_eq {th : Int32} {z : Nat → Nat} {a : Nat → Nat → Int32} {pt od day : Int32} : s_M_lay th z a pt od day = (nI (z 0), th, va_up z 0 ((z 0) + 1), va_up (va_up (va_up (va_up (va_up (va_up (va_up (va_up (va_up (va_up (va_up (va_up a 4 (upd (a 4) (z 0) (pt))) 5 (upd (a 5) (z 0) (od))) 7 (upd (a 7) (z 0) (day))) 6 (upd (a 6) (z 0) (if 0 ≤ day then 1 else 0))) 8 (upd (a 8) (z 0) (0))) 10 (upd (a 10) (z 0) (0))) 11 (upd (a 11) (z 0) (-1))) 12 (upd (a 12) (z 0) (-1))) 13 (upd (a 13) (z 0) (-1))) 14 (upd (a 14) (z 0) (0))) 16 (upd (a 16) (z 0) (0))) 19 (upd (a 19) (z 0) (-1))) := by
  unfold s_M_lay
  by_cases h : 0 ≤ day
  · simp only [if_pos h]
  · simp only [if_neg h]
def s_M_replace_out (th : Int32) (z : Nat → Nat) (a : Nat → Nat → Int32) (x : Int32) (day : Int32) : MS := (-1, 0, z, a)
set_option maxHeartbeats 4000000 in
set_option maxRecDepth 100000 in
theorem c_M_replace_out (l : Launch) (D : va_G) (cs : Nat → ClassId) (bk : Nat → Nat) (sz : Nat) (th : Int32) (z : Nat → Nat) (a : Nat → Nat → Int32) (hz : z 0 ≤ 200) (x : Int32) (ho : ¬ (0 ≤ x ∧ x < nI (z 0))) (day : Int32) : Met l y_M_replace w_M_replace ({ frames := 2, cells := 0, slots := 0, locals := 43 }) (va_Pc [.ref (bk (0)), .int (x), .int (day)] (PB D classes (TY cs) 28 bk (MW cs th z a bk) sz)) (va_Qi (Mr cs bk (s_M_replace_out th z a x day)) (Wd D classes (TY cs) (AA 28 bk sz)) (AA 28 bk sz)) 0 0 (AA 28 bk sz) := by
  refine pw_entry (cc := b_M_replace) (maxL := 4) (ret := (some .int)) (by decide +kernel) rfl (Nat.le_of_ble_eq_true rfl) ?_
  intro p_ e_ s m below_ meth_ c_ ls hx hb hr hml hts hown hlocks hin hsz hP hK hD hS hA hN hl
  have hw : ∀ w ∈ WA, w.before _ s = true := fun w h => hts w (List.mem_cons_of_mem _ h)
  have hown : s.vm.findClass "IssueRowsModel" = some m.cls := hown
  have hl : lv_has ls 4 [(0, .ref (bk (0))), (1, .int (x)), (2, .int (day))] := hl
  refine lv_aload_n hx hb d_M_replace_0 rfl (lv_at hl 0 rfl) ?_
  refine lv_iconst (v := 0) hx hb d_M_replace_1 (by decide) ?_
  refine pw_put (ci := 7) (v := .int (0)) (ty := .int) (fs' := [.int (0), .ref (bk (1)), .ref (bk (2)), .ref (bk (3)), .int (nI (z 0)), .ref (bk (4)), .ref (bk (5)), .ref (bk (6)), .ref (bk (7)), .ref (bk (8)), .ref (bk (9)), .ref (bk (10)), .ref (bk (11)), .ref (bk (12)), .ref (bk (13)), .ref (bk (14)), .ref (bk (15)), .ref (bk (16)), .ref (bk (17)), .ref (bk (18)), .ref (bk (19)), .ref (bk (20)), .int (nI (z 1)), .ref (bk (21)), .ref (bk (22)), .int (nI (z 2)), .int (nI (z 3)), .ref (bk (23)), .ref (bk (24)), .ref (bk (25)), .int (nI (z 4)), .ref (bk (26)), .ref (bk (27))]) hx hb hw i_M t_M t_M_ok n_M hown hK hP hD hS (0) (by decide) rfl rfl 0 (by decide) (hw _ kF_M_92) rfl (t_M_ok 0 (by decide)) rfl rfl (Nat.le_of_ble_eq_true rfl) rfl d_M_replace_2 (fun cw_1 H locs ecw_1 hP hD hS => ?_)
  obtain rfl : cw_1 = MW cs 0 z a bk := by rw [ecw_1]; exact MW_obj 0 z
  refine lv_aload_n hx hb d_M_replace_5 rfl (lv_at hl 0 rfl) ?_
  refine lv_iload_n hx hb d_M_replace_6 rfl (lv_at hl 1 rfl) ?_
  refine pw_callSi (va_runV (As := [.int (x)]) (rest := []) ⟨hx, hb, hml, hown, hw⟩ (c_M_isIssue l D cs bk H.size 0 z a hz x) (cw_V 1 hw kM_M_115 kI_M_isIssue kV_M_isIssue kZ_M kC_M_isIssue rfl rfl ⟨rfl, by decide, by decide, by decide +kernel⟩ ⟨Nat.le_of_ble_eq_true rfl, Nat.le_of_ble_eq_true rfl⟩) (pw_preV hN hK hP hD (0) (by decide) rfl rfl) rfl rfl hl.1 rfl (lv_room (Nat.le_of_ble_eq_true rfl)) d_M_replace_7 ⟨Nat.le_of_ble_eq_true rfl, Nat.le_of_ble_eq_true rfl⟩) (fun r_2 hr_2 => ?_)
  have hr_2 : r_2 = bI (0 ≤ x ∧ x < nI (z 0)) := hr_2
  subst hr_2
  refine pw_ifne (tgt := 15) hx hb d_M_replace_10 (by decide) (fun c_3 => ?_) (fun c_3 => ?_)
  · have c_3 : 0 ≤ x ∧ x < nI (z 0) := c_3
    exact absurd c_3 ho
  · have c_3 : ¬ (0 ≤ x ∧ x < nI (z 0)) := c_3
    refine lv_iconst (v := -1) hx hb d_M_replace_13 (by decide) ?_
    exact W.iret (v := -1) hx hb hr (fun t ht hW => ⟨⟨-1, (28, bk, MW cs 0 z a bk), rfl, Mr_of (by rw [s_M_replace_out]), by rw [ht]; exact hP, va_K.moved hW.alike hK, hD⟩, hS.F ht⟩) hS.2.2 d_M_replace_14
def s_M_replace (th : Int32) (z : Nat → Nat) (a : Nat → Nat → Int32) (j : Nat) (day : Int32) : MS := (if 0 ≤ day ∧ day ≤ 1000000 then (if ((a 6) (j)) = 3 then (if 0 ≤ a 19 j ∧ a 19 j < a 16 j then (-3, 0, z, a) else (if (nI (z 0)) = 200 then (-4, 0, z, a) else (nI (z 0), 0, va_up z 0 ((z 0) + 1), va_up (va_up (va_up (va_up (va_up (va_up (va_up (va_up (va_up (va_up (va_up (va_up (va_up (va_up (va_up (va_up (va_up (va_up a 4 (upd (a 4) (z 0) ((a 4) (j)))) 5 (upd (a 5) (z 0) ((a 5) (j)))) 7 (upd (a 7) (z 0) ((a 7) (j)))) 6 (upd (a 6) (z 0) (if 0 ≤ ((a 7) (j)) then 1 else 0))) 8 (upd (a 8) (z 0) (0))) 10 (upd (a 10) (z 0) (0))) 11 (upd (a 11) (z 0) (-1))) 12 (upd (a 12) (z 0) (-1))) 13 (upd (a 13) (z 0) (-1))) 14 (upd (a 14) (z 0) (0))) 16 (upd (a 16) (z 0) (0))) 19 (upd (a 19) (z 0) (-1))) 6 (upd (upd (a 6) (z 0) (if 0 ≤ ((a 7) (j)) then 1 else 0)) (z 0) (3))) 10 (upd (upd (a 10) (z 0) (0)) (z 0) (1))) 11 (upd (upd (a 11) (z 0) (-1)) (z 0) (day))) 15 (upd (a 15) (z 0) (1))) 6 (upd (upd (upd (a 6) (z 0) (if 0 ≤ ((a 7) (j)) then 1 else 0)) (z 0) (3)) (j) (6))) 13 (upd (upd (a 13) (z 0) (-1)) (j) (nI (z 0)))))) else (if ((a 6) (j)) = 4 then (if 0 ≤ a 19 j ∧ a 19 j < a 16 j then (-3, 0, z, a) else (if (nI (z 0)) = 200 then (-4, 0, z, a) else (nI (z 0), 0, va_up z 0 ((z 0) + 1), va_up (va_up (va_up (va_up (va_up (va_up (va_up (va_up (va_up (va_up (va_up (va_up (va_up (va_up (va_up (va_up (va_up (va_up a 4 (upd (a 4) (z 0) ((a 4) (j)))) 5 (upd (a 5) (z 0) ((a 5) (j)))) 7 (upd (a 7) (z 0) ((a 7) (j)))) 6 (upd (a 6) (z 0) (if 0 ≤ ((a 7) (j)) then 1 else 0))) 8 (upd (a 8) (z 0) (0))) 10 (upd (a 10) (z 0) (0))) 11 (upd (a 11) (z 0) (-1))) 12 (upd (a 12) (z 0) (-1))) 13 (upd (a 13) (z 0) (-1))) 14 (upd (a 14) (z 0) (0))) 16 (upd (a 16) (z 0) (0))) 19 (upd (a 19) (z 0) (-1))) 6 (upd (upd (a 6) (z 0) (if 0 ≤ ((a 7) (j)) then 1 else 0)) (z 0) (3))) 10 (upd (upd (a 10) (z 0) (0)) (z 0) (1))) 11 (upd (upd (a 11) (z 0) (-1)) (z 0) (day))) 15 (upd (a 15) (z 0) (1))) 6 (upd (upd (upd (a 6) (z 0) (if 0 ≤ ((a 7) (j)) then 1 else 0)) (z 0) (3)) (j) (6))) 13 (upd (upd (a 13) (z 0) (-1)) (j) (nI (z 0)))))) else (-3, 0, z, a))) else (-2, 0, z, a))
set_option maxHeartbeats 4000000 in
set_option maxRecDepth 100000 in
theorem c_M_replace (l : Launch) (D : va_G) (cs : Nat → ClassId) (bk : Nat → Nat) (sz : Nat) (th : Int32) (z : Nat → Nat) (a : Nat → Nat → Int32) (hz : z 0 ≤ 200) (j : Nat) (hj : j < z 0) (day : Int32) : Met l y_M_replace w_M_replace ({ frames := 2, cells := 0, slots := 0, locals := 43 }) (va_Pc [.ref (bk (0)), .int (nI j), .int (day)] (PB D classes (TY cs) 28 bk (MW cs th z a bk) sz)) (va_Qi (Mr cs bk (s_M_replace th z a j day)) (Wd D classes (TY cs) (AA 28 bk sz)) (AA 28 bk sz)) 0 0 (AA 28 bk sz) := by
  refine pw_entry (cc := b_M_replace) (maxL := 4) (ret := (some .int)) (by decide +kernel) rfl (Nat.le_of_ble_eq_true rfl) ?_
  intro p_ e_ s m below_ meth_ c_ ls hx hb hr hml hts hown hlocks hin hsz hP hK hD hS hA hN hl
  have hw : ∀ w ∈ WA, w.before _ s = true := fun w h => hts w (List.mem_cons_of_mem _ h)
  have hown : s.vm.findClass "IssueRowsModel" = some m.cls := hown
  have hl : lv_has ls 4 [(0, .ref (bk (0))), (1, .int (nI j)), (2, .int (day))] := hl
  refine lv_aload_n hx hb d_M_replace_0 rfl (lv_at hl 0 rfl) ?_
  refine lv_iconst (v := 0) hx hb d_M_replace_1 (by decide) ?_
  refine pw_put (ci := 7) (v := .int (0)) (ty := .int) (fs' := [.int (0), .ref (bk (1)), .ref (bk (2)), .ref (bk (3)), .int (nI (z 0)), .ref (bk (4)), .ref (bk (5)), .ref (bk (6)), .ref (bk (7)), .ref (bk (8)), .ref (bk (9)), .ref (bk (10)), .ref (bk (11)), .ref (bk (12)), .ref (bk (13)), .ref (bk (14)), .ref (bk (15)), .ref (bk (16)), .ref (bk (17)), .ref (bk (18)), .ref (bk (19)), .ref (bk (20)), .int (nI (z 1)), .ref (bk (21)), .ref (bk (22)), .int (nI (z 2)), .int (nI (z 3)), .ref (bk (23)), .ref (bk (24)), .ref (bk (25)), .int (nI (z 4)), .ref (bk (26)), .ref (bk (27))]) hx hb hw i_M t_M t_M_ok n_M hown hK hP hD hS (0) (by decide) rfl rfl 0 (by decide) (hw _ kF_M_92) rfl (t_M_ok 0 (by decide)) rfl rfl (Nat.le_of_ble_eq_true rfl) rfl d_M_replace_2 (fun cw_1 H locs ecw_1 hP hD hS => ?_)
  obtain rfl : cw_1 = MW cs 0 z a bk := by rw [ecw_1]; exact MW_obj 0 z
  refine lv_aload_n hx hb d_M_replace_5 rfl (lv_at hl 0 rfl) ?_
  refine lv_iload_n hx hb d_M_replace_6 rfl (lv_at hl 1 rfl) ?_
  refine pw_callSi (va_runV (As := [.int (nI j)]) (rest := []) ⟨hx, hb, hml, hown, hw⟩ (c_M_isIssue l D cs bk H.size 0 z a hz (nI j)) (cw_V 1 hw kM_M_115 kI_M_isIssue kV_M_isIssue kZ_M kC_M_isIssue rfl rfl ⟨rfl, by decide, by decide, by decide +kernel⟩ ⟨Nat.le_of_ble_eq_true rfl, Nat.le_of_ble_eq_true rfl⟩) (pw_preV hN hK hP hD (0) (by decide) rfl rfl) rfl rfl hl.1 rfl (lv_room (Nat.le_of_ble_eq_true rfl)) d_M_replace_7 ⟨Nat.le_of_ble_eq_true rfl, Nat.le_of_ble_eq_true rfl⟩) (fun r_2 hr_2 => ?_)
  have hr_2 : r_2 = bI (0 ≤ (nI j) ∧ (nI j) < nI (z 0)) := hr_2
  subst hr_2
  refine pw_ifne (tgt := 15) hx hb d_M_replace_10 (by decide) (fun c_3 => ?_) (fun c_3 => ?_)
  · have c_3 : 0 ≤ (nI j) ∧ (nI j) < nI (z 0) := c_3
    refine lv_iload_n hx hb d_M_replace_15 rfl (lv_at hl 2 rfl) ?_
    refine pw_callSi (va_runS (As := [.int (day)]) (rest := []) ⟨hx, hb, hml, hown, hw⟩ (c_M_isDay l D cs bk H.size 0 z a day) (cw_S 1 hw kM_M_107 kS_M_isDay kZ_M kC_M_isDay rfl rfl ⟨rfl, by decide, by decide, by decide +kernel⟩ ⟨Nat.le_of_ble_eq_true rfl, Nat.le_of_ble_eq_true rfl⟩) (pw_preS hN hK hP hD) rfl rfl hl.1 rfl (lv_room (Nat.le_of_ble_eq_true rfl)) d_M_replace_16 ⟨Nat.le_of_ble_eq_true rfl, Nat.le_of_ble_eq_true rfl⟩) (fun r_4 hr_4 => ?_)
    have hr_4 : r_4 = bI (0 ≤ day ∧ day ≤ 1000000) := hr_4
    subst hr_4
    refine pw_ifne (tgt := 25) hx hb d_M_replace_19 (by decide) (fun c_5 => ?_) (fun c_5 => ?_)
    · have c_5 : 0 ≤ day ∧ day ≤ 1000000 := c_5
      refine lv_aload_n hx hb d_M_replace_25 rfl (lv_at hl 0 rfl) ?_
      refine pw_get (ci := 7) (v := .ref (bk (6))) hx hb hw i_M hown hK hP (0) (by decide) rfl rfl 7 (by decide) (hw _ kF_M_25) rfl d_M_replace_26 ?_
      refine lv_iload_n hx hb d_M_replace_29 rfl (lv_at hl 1 rfl) ?_
      refine pw_iald (n := 200) (f := (a 6)) hx hb hK hP 0 (6) (by decide) rfl rfl (j) rfl (by omega) (by decide) d_M_replace_30 ?_
      refine lv_iconst (v := 3) hx hb d_M_replace_31 (by decide) ?_
      refine lv_icmp_eq (tgt := 45) hx hb d_M_replace_32 (by decide) (fun c_6 => ?_) (fun c_6 => ?_)
      · have c_6 : ((a 6) (j)) = 3 := c_6
        refine lv_aload_n hx hb d_M_replace_45 rfl (lv_at hl 0 rfl) ?_
        refine lv_iload_n hx hb d_M_replace_46 rfl (lv_at hl 1 rfl) ?_
        refine pw_callSi (va_runV (As := [.int (nI j)]) (rest := []) ⟨hx, hb, hml, hown, hw⟩ (c_M_isHeld l D cs bk H.size 0 z a j (by omega)) (cw_V 1 hw kM_M_128 kI_M_isHeld kV_M_isHeld kZ_M kC_M_isHeld rfl rfl ⟨rfl, by decide, by decide, by decide +kernel⟩ ⟨Nat.le_of_ble_eq_true rfl, Nat.le_of_ble_eq_true rfl⟩) (pw_preV hN hK hP hD (0) (by decide) rfl rfl) rfl rfl hl.1 rfl (lv_room (Nat.le_of_ble_eq_true rfl)) d_M_replace_47 ⟨Nat.le_of_ble_eq_true rfl, Nat.le_of_ble_eq_true rfl⟩) (fun r_7 hr_7 => ?_)
        have hr_7 : r_7 = bI (0 ≤ a 19 j ∧ a 19 j < a 16 j) := hr_7
        subst hr_7
        refine pw_ifeq (tgt := 56) hx hb d_M_replace_50 (by decide) (fun c_8 => ?_) (fun c_8 => ?_)
        · have c_8 : ¬ (0 ≤ a 19 j ∧ a 19 j < a 16 j) := c_8
          refine lv_aload_n hx hb d_M_replace_56 rfl (lv_at hl 0 rfl) ?_
          refine pw_get (ci := 7) (v := .int (nI (z 0))) hx hb hw i_M hown hK hP (0) (by decide) rfl rfl 4 (by decide) (hw _ kF_M_101) rfl d_M_replace_57 ?_
          refine lv_sipush (v := 200) hx hb d_M_replace_60 (by decide) ?_
          refine lv_icmp_ne (tgt := 69) hx hb d_M_replace_63 (by decide) (fun c_9 => ?_) (fun c_9 => ?_)
          · have c_9 : ¬ (nI (z 0)) = 200 := c_9
            refine lv_aload_n hx hb d_M_replace_69 rfl (lv_at hl 0 rfl) ?_
            refine lv_aload_n hx hb d_M_replace_70 rfl (lv_at hl 0 rfl) ?_
            refine pw_get (ci := 7) (v := .ref (bk (4))) hx hb hw i_M hown hK hP (0) (by decide) rfl rfl 5 (by decide) (hw _ kF_M_19) rfl d_M_replace_71 ?_
            refine lv_iload_n hx hb d_M_replace_74 rfl (lv_at hl 1 rfl) ?_
            refine pw_iald (n := 200) (f := (a 4)) hx hb hK hP 0 (4) (by decide) rfl rfl (j) rfl (by omega) (by decide) d_M_replace_75 ?_
            refine lv_aload_n hx hb d_M_replace_76 rfl (lv_at hl 0 rfl) ?_
            refine pw_get (ci := 7) (v := .ref (bk (5))) hx hb hw i_M hown hK hP (0) (by decide) rfl rfl 6 (by decide) (hw _ kF_M_22) rfl d_M_replace_77 ?_
            refine lv_iload_n hx hb d_M_replace_80 rfl (lv_at hl 1 rfl) ?_
            refine pw_iald (n := 200) (f := (a 5)) hx hb hK hP 0 (5) (by decide) rfl rfl (j) rfl (by omega) (by decide) d_M_replace_81 ?_
            refine lv_aload_n hx hb d_M_replace_82 rfl (lv_at hl 0 rfl) ?_
            refine pw_get (ci := 7) (v := .ref (bk (7))) hx hb hw i_M hown hK hP (0) (by decide) rfl rfl 8 (by decide) (hw _ kF_M_28) rfl d_M_replace_83 ?_
            refine lv_iload_n hx hb d_M_replace_86 rfl (lv_at hl 1 rfl) ?_
            refine pw_iald (n := 200) (f := (a 7)) hx hb hK hP 0 (7) (by decide) rfl rfl (j) rfl (by omega) (by decide) d_M_replace_87 ?_
            refine pm_calli (va_runV (As := [.int ((a 4) (j)), .int ((a 5) (j)), .int ((a 7) (j))]) (rest := []) ⟨hx, hb, hml, hown, hw⟩ (c_M_lay l D cs bk H.size 0 z a (by have h7 := c_9; rw [show (200 : Int32) = nI 200 from rfl, nI_eq (by omega) (by decide)] at h7; omega) ((a 4) (j)) ((a 5) (j)) ((a 7) (j))) (cw_V 3 hw kM_M_111 kI_M_lay kV_M_lay kZ_M kC_M_lay rfl rfl ⟨rfl, by decide, by decide, by decide +kernel⟩ ⟨Nat.le_of_ble_eq_true rfl, Nat.le_of_ble_eq_true rfl⟩) (pw_preV hN hK hP hD (0) (by decide) rfl rfl) rfl rfl hl.1 rfl (lv_room (Nat.le_of_ble_eq_true rfl)) d_M_replace_88 ⟨Nat.le_of_ble_eq_true rfl, Nat.le_of_ble_eq_true rfl⟩) hS (wl_free hD hS hA) (fun H locs hP hD hS => ?_)
            rw [lay_eq] at hP hD ⊢
            have hP : va_P D classes (wl 28 bk (MW cs 0 (va_up z 0 ((z 0) + 1)) (va_up (va_up (va_up (va_up (va_up (va_up (va_up (va_up (va_up (va_up (va_up (va_up a 4 (upd (a 4) (z 0) ((a 4) (j)))) 5 (upd (a 5) (z 0) ((a 5) (j)))) 7 (upd (a 7) (z 0) ((a 7) (j)))) 6 (upd (a 6) (z 0) (if 0 ≤ ((a 7) (j)) then 1 else 0))) 8 (upd (a 8) (z 0) (0))) 10 (upd (a 10) (z 0) (0))) 11 (upd (a 11) (z 0) (-1))) 12 (upd (a 12) (z 0) (-1))) 13 (upd (a 13) (z 0) (-1))) 14 (upd (a 14) (z 0) (0))) 16 (upd (a 16) (z 0) (0))) 19 (upd (a 19) (z 0) (-1))) bk)) H := hP
            have hD : va_D (AA 28 bk sz) (wl 28 bk (MW cs 0 (va_up z 0 ((z 0) + 1)) (va_up (va_up (va_up (va_up (va_up (va_up (va_up (va_up (va_up (va_up (va_up (va_up a 4 (upd (a 4) (z 0) ((a 4) (j)))) 5 (upd (a 5) (z 0) ((a 5) (j)))) 7 (upd (a 7) (z 0) ((a 7) (j)))) 6 (upd (a 6) (z 0) (if 0 ≤ ((a 7) (j)) then 1 else 0))) 8 (upd (a 8) (z 0) (0))) 10 (upd (a 10) (z 0) (0))) 11 (upd (a 11) (z 0) (-1))) 12 (upd (a 12) (z 0) (-1))) 13 (upd (a 13) (z 0) (-1))) 14 (upd (a 14) (z 0) (0))) 16 (upd (a 16) (z 0) (0))) 19 (upd (a 19) (z 0) (-1))) bk)) := hD
            show W _ _ _ _ _ _ _ _ _ _ _ _ _ _ _ (F0 _ _ _ [.int (nI (z 0))])
            refine lv_istore_n (lv' := [(3, .int (nI (z 0))), (0, .ref (bk (0))), (1, .int (nI j)), (2, .int (day))]) hx hb d_M_replace_91 rfl hl (by decide) rfl (fun ls hl => ?_)
            refine lv_aload_n hx hb d_M_replace_92 rfl (lv_at hl 1 rfl) ?_
            refine pw_get (ci := 7) (v := .ref (bk (6))) hx hb hw i_M hown hK hP (0) (by decide) rfl rfl 7 (by decide) (hw _ kF_M_25) rfl d_M_replace_93 ?_
            refine lv_iload_n hx hb d_M_replace_96 rfl (lv_at hl 0 rfl) ?_
            refine lv_iconst (v := 3) hx hb d_M_replace_97 (by decide) ?_
            refine pw_iast (n := 200) (f := (upd (a 6) (z 0) (if 0 ≤ ((a 7) (j)) then 1 else 0))) hx hb hK hP hD hS 0 (6) (by decide) rfl rfl (z 0) rfl (by have h7 := c_9; rw [show (200 : Int32) = nI 200 from rfl, nI_eq (by omega) (by decide)] at h7; omega) (by decide) d_M_replace_98 (fun cw_10 H locs ecw_10 hP hD hS => ?_)
            obtain rfl : cw_10 = MW cs 0 (va_up z 0 ((z 0) + 1)) (va_up (va_up (va_up (va_up (va_up (va_up (va_up (va_up (va_up (va_up (va_up (va_up (va_up a 4 (upd (a 4) (z 0) ((a 4) (j)))) 5 (upd (a 5) (z 0) ((a 5) (j)))) 7 (upd (a 7) (z 0) ((a 7) (j)))) 6 (upd (a 6) (z 0) (if 0 ≤ ((a 7) (j)) then 1 else 0))) 8 (upd (a 8) (z 0) (0))) 10 (upd (a 10) (z 0) (0))) 11 (upd (a 11) (z 0) (-1))) 12 (upd (a 12) (z 0) (-1))) 13 (upd (a 13) (z 0) (-1))) 14 (upd (a 14) (z 0) (0))) 16 (upd (a 16) (z 0) (0))) 19 (upd (a 19) (z 0) (-1))) 6 (upd (upd (a 6) (z 0) (if 0 ≤ ((a 7) (j)) then 1 else 0)) (z 0) (3))) bk := by rw [ecw_10]; exact MW_arr 6 (by decide) (upd (upd (a 6) (z 0) (if 0 ≤ ((a 7) (j)) then 1 else 0)) (z 0) (3))
            refine lv_aload_n hx hb d_M_replace_99 rfl (lv_at hl 1 rfl) ?_
            refine pw_get (ci := 7) (v := .ref (bk (10))) hx hb hw i_M hown hK hP (0) (by decide) rfl rfl 11 (by decide) (hw _ kF_M_37) rfl d_M_replace_100 ?_
            refine lv_iload_n hx hb d_M_replace_103 rfl (lv_at hl 0 rfl) ?_
            refine lv_iconst (v := 1) hx hb d_M_replace_104 (by decide) ?_
            refine pw_iast (n := 200) (f := (upd (a 10) (z 0) (0))) hx hb hK hP hD hS 0 (10) (by decide) rfl rfl (z 0) rfl (by have h7 := c_9; rw [show (200 : Int32) = nI 200 from rfl, nI_eq (by omega) (by decide)] at h7; omega) (by decide) d_M_replace_105 (fun cw_11 H locs ecw_11 hP hD hS => ?_)
            obtain rfl : cw_11 = MW cs 0 (va_up z 0 ((z 0) + 1)) (va_up (va_up (va_up (va_up (va_up (va_up (va_up (va_up (va_up (va_up (va_up (va_up (va_up (va_up a 4 (upd (a 4) (z 0) ((a 4) (j)))) 5 (upd (a 5) (z 0) ((a 5) (j)))) 7 (upd (a 7) (z 0) ((a 7) (j)))) 6 (upd (a 6) (z 0) (if 0 ≤ ((a 7) (j)) then 1 else 0))) 8 (upd (a 8) (z 0) (0))) 10 (upd (a 10) (z 0) (0))) 11 (upd (a 11) (z 0) (-1))) 12 (upd (a 12) (z 0) (-1))) 13 (upd (a 13) (z 0) (-1))) 14 (upd (a 14) (z 0) (0))) 16 (upd (a 16) (z 0) (0))) 19 (upd (a 19) (z 0) (-1))) 6 (upd (upd (a 6) (z 0) (if 0 ≤ ((a 7) (j)) then 1 else 0)) (z 0) (3))) 10 (upd (upd (a 10) (z 0) (0)) (z 0) (1))) bk := by rw [ecw_11]; exact MW_arr 10 (by decide) (upd (upd (a 10) (z 0) (0)) (z 0) (1))
            refine lv_aload_n hx hb d_M_replace_106 rfl (lv_at hl 1 rfl) ?_
            refine pw_get (ci := 7) (v := .ref (bk (11))) hx hb hw i_M hown hK hP (0) (by decide) rfl rfl 12 (by decide) (hw _ kF_M_40) rfl d_M_replace_107 ?_
            refine lv_iload_n hx hb d_M_replace_110 rfl (lv_at hl 0 rfl) ?_
            refine lv_iload_n hx hb d_M_replace_111 rfl (lv_at hl 3 rfl) ?_
            refine pw_iast (n := 200) (f := (upd (a 11) (z 0) (-1))) hx hb hK hP hD hS 0 (11) (by decide) rfl rfl (z 0) rfl (by have h7 := c_9; rw [show (200 : Int32) = nI 200 from rfl, nI_eq (by omega) (by decide)] at h7; omega) (by decide) d_M_replace_112 (fun cw_12 H locs ecw_12 hP hD hS => ?_)
            obtain rfl : cw_12 = MW cs 0 (va_up z 0 ((z 0) + 1)) (va_up (va_up (va_up (va_up (va_up (va_up (va_up (va_up (va_up (va_up (va_up (va_up (va_up (va_up (va_up a 4 (upd (a 4) (z 0) ((a 4) (j)))) 5 (upd (a 5) (z 0) ((a 5) (j)))) 7 (upd (a 7) (z 0) ((a 7) (j)))) 6 (upd (a 6) (z 0) (if 0 ≤ ((a 7) (j)) then 1 else 0))) 8 (upd (a 8) (z 0) (0))) 10 (upd (a 10) (z 0) (0))) 11 (upd (a 11) (z 0) (-1))) 12 (upd (a 12) (z 0) (-1))) 13 (upd (a 13) (z 0) (-1))) 14 (upd (a 14) (z 0) (0))) 16 (upd (a 16) (z 0) (0))) 19 (upd (a 19) (z 0) (-1))) 6 (upd (upd (a 6) (z 0) (if 0 ≤ ((a 7) (j)) then 1 else 0)) (z 0) (3))) 10 (upd (upd (a 10) (z 0) (0)) (z 0) (1))) 11 (upd (upd (a 11) (z 0) (-1)) (z 0) (day))) bk := by rw [ecw_12]; exact MW_arr 11 (by decide) (upd (upd (a 11) (z 0) (-1)) (z 0) (day))
            refine lv_aload_n hx hb d_M_replace_113 rfl (lv_at hl 1 rfl) ?_
            refine pw_get (ci := 7) (v := .ref (bk (15))) hx hb hw i_M hown hK hP (0) (by decide) rfl rfl 16 (by decide) (hw _ kF_M_52) rfl d_M_replace_114 ?_
            refine lv_iload_n hx hb d_M_replace_117 rfl (lv_at hl 0 rfl) ?_
            refine lv_iconst (v := 1) hx hb d_M_replace_118 (by decide) ?_
            refine pw_zast (n := 200) (f := (a 15)) hx hb hK hP hD hS 1 (15) (by decide) rfl rfl (z 0) rfl (by have h7 := c_9; rw [show (200 : Int32) = nI 200 from rfl, nI_eq (by omega) (by decide)] at h7; omega) (by decide) d_M_replace_119 (fun cw_13 H locs ecw_13 hP hD hS => ?_)
            obtain rfl : cw_13 = MW cs 0 (va_up z 0 ((z 0) + 1)) (va_up (va_up (va_up (va_up (va_up (va_up (va_up (va_up (va_up (va_up (va_up (va_up (va_up (va_up (va_up (va_up a 4 (upd (a 4) (z 0) ((a 4) (j)))) 5 (upd (a 5) (z 0) ((a 5) (j)))) 7 (upd (a 7) (z 0) ((a 7) (j)))) 6 (upd (a 6) (z 0) (if 0 ≤ ((a 7) (j)) then 1 else 0))) 8 (upd (a 8) (z 0) (0))) 10 (upd (a 10) (z 0) (0))) 11 (upd (a 11) (z 0) (-1))) 12 (upd (a 12) (z 0) (-1))) 13 (upd (a 13) (z 0) (-1))) 14 (upd (a 14) (z 0) (0))) 16 (upd (a 16) (z 0) (0))) 19 (upd (a 19) (z 0) (-1))) 6 (upd (upd (a 6) (z 0) (if 0 ≤ ((a 7) (j)) then 1 else 0)) (z 0) (3))) 10 (upd (upd (a 10) (z 0) (0)) (z 0) (1))) 11 (upd (upd (a 11) (z 0) (-1)) (z 0) (day))) 15 (upd (a 15) (z 0) (1))) bk := by rw [ecw_13]; exact MW_arr 15 (by decide) (upd (a 15) (z 0) (1))
            refine lv_aload_n hx hb d_M_replace_120 rfl (lv_at hl 1 rfl) ?_
            refine pw_get (ci := 7) (v := .ref (bk (6))) hx hb hw i_M hown hK hP (0) (by decide) rfl rfl 7 (by decide) (hw _ kF_M_25) rfl d_M_replace_121 ?_
            refine lv_iload_n hx hb d_M_replace_124 rfl (lv_at hl 2 rfl) ?_
            refine lv_bipush (v := 6) hx hb d_M_replace_125 (by decide) ?_
            refine pw_iast (n := 200) (f := (upd (upd (a 6) (z 0) (if 0 ≤ ((a 7) (j)) then 1 else 0)) (z 0) (3))) hx hb hK hP hD hS 0 (6) (by decide) rfl rfl (j) rfl (by omega) (by decide) d_M_replace_127 (fun cw_14 H locs ecw_14 hP hD hS => ?_)
            obtain rfl : cw_14 = MW cs 0 (va_up z 0 ((z 0) + 1)) (va_up (va_up (va_up (va_up (va_up (va_up (va_up (va_up (va_up (va_up (va_up (va_up (va_up (va_up (va_up (va_up (va_up a 4 (upd (a 4) (z 0) ((a 4) (j)))) 5 (upd (a 5) (z 0) ((a 5) (j)))) 7 (upd (a 7) (z 0) ((a 7) (j)))) 6 (upd (a 6) (z 0) (if 0 ≤ ((a 7) (j)) then 1 else 0))) 8 (upd (a 8) (z 0) (0))) 10 (upd (a 10) (z 0) (0))) 11 (upd (a 11) (z 0) (-1))) 12 (upd (a 12) (z 0) (-1))) 13 (upd (a 13) (z 0) (-1))) 14 (upd (a 14) (z 0) (0))) 16 (upd (a 16) (z 0) (0))) 19 (upd (a 19) (z 0) (-1))) 6 (upd (upd (a 6) (z 0) (if 0 ≤ ((a 7) (j)) then 1 else 0)) (z 0) (3))) 10 (upd (upd (a 10) (z 0) (0)) (z 0) (1))) 11 (upd (upd (a 11) (z 0) (-1)) (z 0) (day))) 15 (upd (a 15) (z 0) (1))) 6 (upd (upd (upd (a 6) (z 0) (if 0 ≤ ((a 7) (j)) then 1 else 0)) (z 0) (3)) (j) (6))) bk := by rw [ecw_14]; exact MW_arr 6 (by decide) (upd (upd (upd (a 6) (z 0) (if 0 ≤ ((a 7) (j)) then 1 else 0)) (z 0) (3)) (j) (6))
            refine lv_aload_n hx hb d_M_replace_128 rfl (lv_at hl 1 rfl) ?_
            refine pw_get (ci := 7) (v := .ref (bk (13))) hx hb hw i_M hown hK hP (0) (by decide) rfl rfl 14 (by decide) (hw _ kF_M_46) rfl d_M_replace_129 ?_
            refine lv_iload_n hx hb d_M_replace_132 rfl (lv_at hl 2 rfl) ?_
            refine lv_iload_n hx hb d_M_replace_133 rfl (lv_at hl 0 rfl) ?_
            refine pw_iast (n := 200) (f := (upd (a 13) (z 0) (-1))) hx hb hK hP hD hS 0 (13) (by decide) rfl rfl (j) rfl (by omega) (by decide) d_M_replace_134 (fun cw_15 H locs ecw_15 hP hD hS => ?_)
            obtain rfl : cw_15 = MW cs 0 (va_up z 0 ((z 0) + 1)) (va_up (va_up (va_up (va_up (va_up (va_up (va_up (va_up (va_up (va_up (va_up (va_up (va_up (va_up (va_up (va_up (va_up (va_up a 4 (upd (a 4) (z 0) ((a 4) (j)))) 5 (upd (a 5) (z 0) ((a 5) (j)))) 7 (upd (a 7) (z 0) ((a 7) (j)))) 6 (upd (a 6) (z 0) (if 0 ≤ ((a 7) (j)) then 1 else 0))) 8 (upd (a 8) (z 0) (0))) 10 (upd (a 10) (z 0) (0))) 11 (upd (a 11) (z 0) (-1))) 12 (upd (a 12) (z 0) (-1))) 13 (upd (a 13) (z 0) (-1))) 14 (upd (a 14) (z 0) (0))) 16 (upd (a 16) (z 0) (0))) 19 (upd (a 19) (z 0) (-1))) 6 (upd (upd (a 6) (z 0) (if 0 ≤ ((a 7) (j)) then 1 else 0)) (z 0) (3))) 10 (upd (upd (a 10) (z 0) (0)) (z 0) (1))) 11 (upd (upd (a 11) (z 0) (-1)) (z 0) (day))) 15 (upd (a 15) (z 0) (1))) 6 (upd (upd (upd (a 6) (z 0) (if 0 ≤ ((a 7) (j)) then 1 else 0)) (z 0) (3)) (j) (6))) 13 (upd (upd (a 13) (z 0) (-1)) (j) (nI (z 0)))) bk := by rw [ecw_15]; exact MW_arr 13 (by decide) (upd (upd (a 13) (z 0) (-1)) (j) (nI (z 0)))
            refine lv_iload_n hx hb d_M_replace_135 rfl (lv_at hl 0 rfl) ?_
            exact W.iret (v := nI (z 0)) hx hb hr (fun t ht hW => ⟨⟨nI (z 0), (28, bk, MW cs 0 (va_up z 0 ((z 0) + 1)) (va_up (va_up (va_up (va_up (va_up (va_up (va_up (va_up (va_up (va_up (va_up (va_up (va_up (va_up (va_up (va_up (va_up (va_up a 4 (upd (a 4) (z 0) ((a 4) (j)))) 5 (upd (a 5) (z 0) ((a 5) (j)))) 7 (upd (a 7) (z 0) ((a 7) (j)))) 6 (upd (a 6) (z 0) (if 0 ≤ ((a 7) (j)) then 1 else 0))) 8 (upd (a 8) (z 0) (0))) 10 (upd (a 10) (z 0) (0))) 11 (upd (a 11) (z 0) (-1))) 12 (upd (a 12) (z 0) (-1))) 13 (upd (a 13) (z 0) (-1))) 14 (upd (a 14) (z 0) (0))) 16 (upd (a 16) (z 0) (0))) 19 (upd (a 19) (z 0) (-1))) 6 (upd (upd (a 6) (z 0) (if 0 ≤ ((a 7) (j)) then 1 else 0)) (z 0) (3))) 10 (upd (upd (a 10) (z 0) (0)) (z 0) (1))) 11 (upd (upd (a 11) (z 0) (-1)) (z 0) (day))) 15 (upd (a 15) (z 0) (1))) 6 (upd (upd (upd (a 6) (z 0) (if 0 ≤ ((a 7) (j)) then 1 else 0)) (z 0) (3)) (j) (6))) 13 (upd (upd (a 13) (z 0) (-1)) (j) (nI (z 0)))) bk), rfl, Mr_of (by rw [s_M_replace, if_pos c_5, if_pos c_6, if_neg c_8, if_neg c_9]), by rw [ht]; exact hP, va_K.moved hW.alike hK, hD⟩, hS.F ht⟩) hS.2.2 d_M_replace_136
          · have c_9 : (nI (z 0)) = 200 := c_9
            refine lv_bipush (v := -4) hx hb d_M_replace_66 (by decide) ?_
            exact W.iret (v := -4) hx hb hr (fun t ht hW => ⟨⟨-4, (28, bk, MW cs 0 z a bk), rfl, Mr_of (by rw [s_M_replace, if_pos c_5, if_pos c_6, if_neg c_8, if_pos c_9]), by rw [ht]; exact hP, va_K.moved hW.alike hK, hD⟩, hS.F ht⟩) hS.2.2 d_M_replace_68
        · have c_8 : 0 ≤ a 19 j ∧ a 19 j < a 16 j := c_8
          refine lv_bipush (v := -3) hx hb d_M_replace_53 (by decide) ?_
          exact W.iret (v := -3) hx hb hr (fun t ht hW => ⟨⟨-3, (28, bk, MW cs 0 z a bk), rfl, Mr_of (by rw [s_M_replace, if_pos c_5, if_pos c_6, if_pos c_8]), by rw [ht]; exact hP, va_K.moved hW.alike hK, hD⟩, hS.F ht⟩) hS.2.2 d_M_replace_55
      · have c_6 : ¬ ((a 6) (j)) = 3 := c_6
        refine lv_aload_n hx hb d_M_replace_35 rfl (lv_at hl 0 rfl) ?_
        refine pw_get (ci := 7) (v := .ref (bk (6))) hx hb hw i_M hown hK hP (0) (by decide) rfl rfl 7 (by decide) (hw _ kF_M_25) rfl d_M_replace_36 ?_
        refine lv_iload_n hx hb d_M_replace_39 rfl (lv_at hl 1 rfl) ?_
        refine pw_iald (n := 200) (f := (a 6)) hx hb hK hP 0 (6) (by decide) rfl rfl (j) rfl (by omega) (by decide) d_M_replace_40 ?_
        refine lv_iconst (v := 4) hx hb d_M_replace_41 (by decide) ?_
        refine lv_icmp_ne (tgt := 53) hx hb d_M_replace_42 (by decide) (fun c_16 => ?_) (fun c_16 => ?_)
        · have c_16 : ¬ ((a 6) (j)) = 4 := c_16
          refine lv_bipush (v := -3) hx hb d_M_replace_53 (by decide) ?_
          exact W.iret (v := -3) hx hb hr (fun t ht hW => ⟨⟨-3, (28, bk, MW cs 0 z a bk), rfl, Mr_of (by rw [s_M_replace, if_pos c_5, if_neg c_6, if_neg c_16]), by rw [ht]; exact hP, va_K.moved hW.alike hK, hD⟩, hS.F ht⟩) hS.2.2 d_M_replace_55
        · have c_16 : ((a 6) (j)) = 4 := c_16
          refine lv_aload_n hx hb d_M_replace_45 rfl (lv_at hl 0 rfl) ?_
          refine lv_iload_n hx hb d_M_replace_46 rfl (lv_at hl 1 rfl) ?_
          refine pw_callSi (va_runV (As := [.int (nI j)]) (rest := []) ⟨hx, hb, hml, hown, hw⟩ (c_M_isHeld l D cs bk H.size 0 z a j (by omega)) (cw_V 1 hw kM_M_128 kI_M_isHeld kV_M_isHeld kZ_M kC_M_isHeld rfl rfl ⟨rfl, by decide, by decide, by decide +kernel⟩ ⟨Nat.le_of_ble_eq_true rfl, Nat.le_of_ble_eq_true rfl⟩) (pw_preV hN hK hP hD (0) (by decide) rfl rfl) rfl rfl hl.1 rfl (lv_room (Nat.le_of_ble_eq_true rfl)) d_M_replace_47 ⟨Nat.le_of_ble_eq_true rfl, Nat.le_of_ble_eq_true rfl⟩) (fun r_17 hr_17 => ?_)
          have hr_17 : r_17 = bI (0 ≤ a 19 j ∧ a 19 j < a 16 j) := hr_17
          subst hr_17
          refine pw_ifeq (tgt := 56) hx hb d_M_replace_50 (by decide) (fun c_18 => ?_) (fun c_18 => ?_)
          · have c_18 : ¬ (0 ≤ a 19 j ∧ a 19 j < a 16 j) := c_18
            refine lv_aload_n hx hb d_M_replace_56 rfl (lv_at hl 0 rfl) ?_
            refine pw_get (ci := 7) (v := .int (nI (z 0))) hx hb hw i_M hown hK hP (0) (by decide) rfl rfl 4 (by decide) (hw _ kF_M_101) rfl d_M_replace_57 ?_
            refine lv_sipush (v := 200) hx hb d_M_replace_60 (by decide) ?_
            refine lv_icmp_ne (tgt := 69) hx hb d_M_replace_63 (by decide) (fun c_19 => ?_) (fun c_19 => ?_)
            · have c_19 : ¬ (nI (z 0)) = 200 := c_19
              refine lv_aload_n hx hb d_M_replace_69 rfl (lv_at hl 0 rfl) ?_
              refine lv_aload_n hx hb d_M_replace_70 rfl (lv_at hl 0 rfl) ?_
              refine pw_get (ci := 7) (v := .ref (bk (4))) hx hb hw i_M hown hK hP (0) (by decide) rfl rfl 5 (by decide) (hw _ kF_M_19) rfl d_M_replace_71 ?_
              refine lv_iload_n hx hb d_M_replace_74 rfl (lv_at hl 1 rfl) ?_
              refine pw_iald (n := 200) (f := (a 4)) hx hb hK hP 0 (4) (by decide) rfl rfl (j) rfl (by omega) (by decide) d_M_replace_75 ?_
              refine lv_aload_n hx hb d_M_replace_76 rfl (lv_at hl 0 rfl) ?_
              refine pw_get (ci := 7) (v := .ref (bk (5))) hx hb hw i_M hown hK hP (0) (by decide) rfl rfl 6 (by decide) (hw _ kF_M_22) rfl d_M_replace_77 ?_
              refine lv_iload_n hx hb d_M_replace_80 rfl (lv_at hl 1 rfl) ?_
              refine pw_iald (n := 200) (f := (a 5)) hx hb hK hP 0 (5) (by decide) rfl rfl (j) rfl (by omega) (by decide) d_M_replace_81 ?_
              refine lv_aload_n hx hb d_M_replace_82 rfl (lv_at hl 0 rfl) ?_
              refine pw_get (ci := 7) (v := .ref (bk (7))) hx hb hw i_M hown hK hP (0) (by decide) rfl rfl 8 (by decide) (hw _ kF_M_28) rfl d_M_replace_83 ?_
              refine lv_iload_n hx hb d_M_replace_86 rfl (lv_at hl 1 rfl) ?_
              refine pw_iald (n := 200) (f := (a 7)) hx hb hK hP 0 (7) (by decide) rfl rfl (j) rfl (by omega) (by decide) d_M_replace_87 ?_
              refine pm_calli (va_runV (As := [.int ((a 4) (j)), .int ((a 5) (j)), .int ((a 7) (j))]) (rest := []) ⟨hx, hb, hml, hown, hw⟩ (c_M_lay l D cs bk H.size 0 z a (by have h7 := c_19; rw [show (200 : Int32) = nI 200 from rfl, nI_eq (by omega) (by decide)] at h7; omega) ((a 4) (j)) ((a 5) (j)) ((a 7) (j))) (cw_V 3 hw kM_M_111 kI_M_lay kV_M_lay kZ_M kC_M_lay rfl rfl ⟨rfl, by decide, by decide, by decide +kernel⟩ ⟨Nat.le_of_ble_eq_true rfl, Nat.le_of_ble_eq_true rfl⟩) (pw_preV hN hK hP hD (0) (by decide) rfl rfl) rfl rfl hl.1 rfl (lv_room (Nat.le_of_ble_eq_true rfl)) d_M_replace_88 ⟨Nat.le_of_ble_eq_true rfl, Nat.le_of_ble_eq_true rfl⟩) hS (wl_free hD hS hA) (fun H locs hP hD hS => ?_)
              rw [lay_eq] at hP hD ⊢
              have hP : va_P D classes (wl 28 bk (MW cs 0 (va_up z 0 ((z 0) + 1)) (va_up (va_up (va_up (va_up (va_up (va_up (va_up (va_up (va_up (va_up (va_up (va_up a 4 (upd (a 4) (z 0) ((a 4) (j)))) 5 (upd (a 5) (z 0) ((a 5) (j)))) 7 (upd (a 7) (z 0) ((a 7) (j)))) 6 (upd (a 6) (z 0) (if 0 ≤ ((a 7) (j)) then 1 else 0))) 8 (upd (a 8) (z 0) (0))) 10 (upd (a 10) (z 0) (0))) 11 (upd (a 11) (z 0) (-1))) 12 (upd (a 12) (z 0) (-1))) 13 (upd (a 13) (z 0) (-1))) 14 (upd (a 14) (z 0) (0))) 16 (upd (a 16) (z 0) (0))) 19 (upd (a 19) (z 0) (-1))) bk)) H := hP
              have hD : va_D (AA 28 bk sz) (wl 28 bk (MW cs 0 (va_up z 0 ((z 0) + 1)) (va_up (va_up (va_up (va_up (va_up (va_up (va_up (va_up (va_up (va_up (va_up (va_up a 4 (upd (a 4) (z 0) ((a 4) (j)))) 5 (upd (a 5) (z 0) ((a 5) (j)))) 7 (upd (a 7) (z 0) ((a 7) (j)))) 6 (upd (a 6) (z 0) (if 0 ≤ ((a 7) (j)) then 1 else 0))) 8 (upd (a 8) (z 0) (0))) 10 (upd (a 10) (z 0) (0))) 11 (upd (a 11) (z 0) (-1))) 12 (upd (a 12) (z 0) (-1))) 13 (upd (a 13) (z 0) (-1))) 14 (upd (a 14) (z 0) (0))) 16 (upd (a 16) (z 0) (0))) 19 (upd (a 19) (z 0) (-1))) bk)) := hD
              show W _ _ _ _ _ _ _ _ _ _ _ _ _ _ _ (F0 _ _ _ [.int (nI (z 0))])
              refine lv_istore_n (lv' := [(3, .int (nI (z 0))), (0, .ref (bk (0))), (1, .int (nI j)), (2, .int (day))]) hx hb d_M_replace_91 rfl hl (by decide) rfl (fun ls hl => ?_)
              refine lv_aload_n hx hb d_M_replace_92 rfl (lv_at hl 1 rfl) ?_
              refine pw_get (ci := 7) (v := .ref (bk (6))) hx hb hw i_M hown hK hP (0) (by decide) rfl rfl 7 (by decide) (hw _ kF_M_25) rfl d_M_replace_93 ?_
              refine lv_iload_n hx hb d_M_replace_96 rfl (lv_at hl 0 rfl) ?_
              refine lv_iconst (v := 3) hx hb d_M_replace_97 (by decide) ?_
              refine pw_iast (n := 200) (f := (upd (a 6) (z 0) (if 0 ≤ ((a 7) (j)) then 1 else 0))) hx hb hK hP hD hS 0 (6) (by decide) rfl rfl (z 0) rfl (by have h7 := c_19; rw [show (200 : Int32) = nI 200 from rfl, nI_eq (by omega) (by decide)] at h7; omega) (by decide) d_M_replace_98 (fun cw_20 H locs ecw_20 hP hD hS => ?_)
              obtain rfl : cw_20 = MW cs 0 (va_up z 0 ((z 0) + 1)) (va_up (va_up (va_up (va_up (va_up (va_up (va_up (va_up (va_up (va_up (va_up (va_up (va_up a 4 (upd (a 4) (z 0) ((a 4) (j)))) 5 (upd (a 5) (z 0) ((a 5) (j)))) 7 (upd (a 7) (z 0) ((a 7) (j)))) 6 (upd (a 6) (z 0) (if 0 ≤ ((a 7) (j)) then 1 else 0))) 8 (upd (a 8) (z 0) (0))) 10 (upd (a 10) (z 0) (0))) 11 (upd (a 11) (z 0) (-1))) 12 (upd (a 12) (z 0) (-1))) 13 (upd (a 13) (z 0) (-1))) 14 (upd (a 14) (z 0) (0))) 16 (upd (a 16) (z 0) (0))) 19 (upd (a 19) (z 0) (-1))) 6 (upd (upd (a 6) (z 0) (if 0 ≤ ((a 7) (j)) then 1 else 0)) (z 0) (3))) bk := by rw [ecw_20]; exact MW_arr 6 (by decide) (upd (upd (a 6) (z 0) (if 0 ≤ ((a 7) (j)) then 1 else 0)) (z 0) (3))
              refine lv_aload_n hx hb d_M_replace_99 rfl (lv_at hl 1 rfl) ?_
              refine pw_get (ci := 7) (v := .ref (bk (10))) hx hb hw i_M hown hK hP (0) (by decide) rfl rfl 11 (by decide) (hw _ kF_M_37) rfl d_M_replace_100 ?_
              refine lv_iload_n hx hb d_M_replace_103 rfl (lv_at hl 0 rfl) ?_
              refine lv_iconst (v := 1) hx hb d_M_replace_104 (by decide) ?_
              refine pw_iast (n := 200) (f := (upd (a 10) (z 0) (0))) hx hb hK hP hD hS 0 (10) (by decide) rfl rfl (z 0) rfl (by have h7 := c_19; rw [show (200 : Int32) = nI 200 from rfl, nI_eq (by omega) (by decide)] at h7; omega) (by decide) d_M_replace_105 (fun cw_21 H locs ecw_21 hP hD hS => ?_)
              obtain rfl : cw_21 = MW cs 0 (va_up z 0 ((z 0) + 1)) (va_up (va_up (va_up (va_up (va_up (va_up (va_up (va_up (va_up (va_up (va_up (va_up (va_up (va_up a 4 (upd (a 4) (z 0) ((a 4) (j)))) 5 (upd (a 5) (z 0) ((a 5) (j)))) 7 (upd (a 7) (z 0) ((a 7) (j)))) 6 (upd (a 6) (z 0) (if 0 ≤ ((a 7) (j)) then 1 else 0))) 8 (upd (a 8) (z 0) (0))) 10 (upd (a 10) (z 0) (0))) 11 (upd (a 11) (z 0) (-1))) 12 (upd (a 12) (z 0) (-1))) 13 (upd (a 13) (z 0) (-1))) 14 (upd (a 14) (z 0) (0))) 16 (upd (a 16) (z 0) (0))) 19 (upd (a 19) (z 0) (-1))) 6 (upd (upd (a 6) (z 0) (if 0 ≤ ((a 7) (j)) then 1 else 0)) (z 0) (3))) 10 (upd (upd (a 10) (z 0) (0)) (z 0) (1))) bk := by rw [ecw_21]; exact MW_arr 10 (by decide) (upd (upd (a 10) (z 0) (0)) (z 0) (1))
              refine lv_aload_n hx hb d_M_replace_106 rfl (lv_at hl 1 rfl) ?_
              refine pw_get (ci := 7) (v := .ref (bk (11))) hx hb hw i_M hown hK hP (0) (by decide) rfl rfl 12 (by decide) (hw _ kF_M_40) rfl d_M_replace_107 ?_
              refine lv_iload_n hx hb d_M_replace_110 rfl (lv_at hl 0 rfl) ?_
              refine lv_iload_n hx hb d_M_replace_111 rfl (lv_at hl 3 rfl) ?_
              refine pw_iast (n := 200) (f := (upd (a 11) (z 0) (-1))) hx hb hK hP hD hS 0 (11) (by decide) rfl rfl (z 0) rfl (by have h7 := c_19; rw [show (200 : Int32) = nI 200 from rfl, nI_eq (by omega) (by decide)] at h7; omega) (by decide) d_M_replace_112 (fun cw_22 H locs ecw_22 hP hD hS => ?_)
              obtain rfl : cw_22 = MW cs 0 (va_up z 0 ((z 0) + 1)) (va_up (va_up (va_up (va_up (va_up (va_up (va_up (va_up (va_up (va_up (va_up (va_up (va_up (va_up (va_up a 4 (upd (a 4) (z 0) ((a 4) (j)))) 5 (upd (a 5) (z 0) ((a 5) (j)))) 7 (upd (a 7) (z 0) ((a 7) (j)))) 6 (upd (a 6) (z 0) (if 0 ≤ ((a 7) (j)) then 1 else 0))) 8 (upd (a 8) (z 0) (0))) 10 (upd (a 10) (z 0) (0))) 11 (upd (a 11) (z 0) (-1))) 12 (upd (a 12) (z 0) (-1))) 13 (upd (a 13) (z 0) (-1))) 14 (upd (a 14) (z 0) (0))) 16 (upd (a 16) (z 0) (0))) 19 (upd (a 19) (z 0) (-1))) 6 (upd (upd (a 6) (z 0) (if 0 ≤ ((a 7) (j)) then 1 else 0)) (z 0) (3))) 10 (upd (upd (a 10) (z 0) (0)) (z 0) (1))) 11 (upd (upd (a 11) (z 0) (-1)) (z 0) (day))) bk := by rw [ecw_22]; exact MW_arr 11 (by decide) (upd (upd (a 11) (z 0) (-1)) (z 0) (day))
              refine lv_aload_n hx hb d_M_replace_113 rfl (lv_at hl 1 rfl) ?_
              refine pw_get (ci := 7) (v := .ref (bk (15))) hx hb hw i_M hown hK hP (0) (by decide) rfl rfl 16 (by decide) (hw _ kF_M_52) rfl d_M_replace_114 ?_
              refine lv_iload_n hx hb d_M_replace_117 rfl (lv_at hl 0 rfl) ?_
              refine lv_iconst (v := 1) hx hb d_M_replace_118 (by decide) ?_
              refine pw_zast (n := 200) (f := (a 15)) hx hb hK hP hD hS 1 (15) (by decide) rfl rfl (z 0) rfl (by have h7 := c_19; rw [show (200 : Int32) = nI 200 from rfl, nI_eq (by omega) (by decide)] at h7; omega) (by decide) d_M_replace_119 (fun cw_23 H locs ecw_23 hP hD hS => ?_)
              obtain rfl : cw_23 = MW cs 0 (va_up z 0 ((z 0) + 1)) (va_up (va_up (va_up (va_up (va_up (va_up (va_up (va_up (va_up (va_up (va_up (va_up (va_up (va_up (va_up (va_up a 4 (upd (a 4) (z 0) ((a 4) (j)))) 5 (upd (a 5) (z 0) ((a 5) (j)))) 7 (upd (a 7) (z 0) ((a 7) (j)))) 6 (upd (a 6) (z 0) (if 0 ≤ ((a 7) (j)) then 1 else 0))) 8 (upd (a 8) (z 0) (0))) 10 (upd (a 10) (z 0) (0))) 11 (upd (a 11) (z 0) (-1))) 12 (upd (a 12) (z 0) (-1))) 13 (upd (a 13) (z 0) (-1))) 14 (upd (a 14) (z 0) (0))) 16 (upd (a 16) (z 0) (0))) 19 (upd (a 19) (z 0) (-1))) 6 (upd (upd (a 6) (z 0) (if 0 ≤ ((a 7) (j)) then 1 else 0)) (z 0) (3))) 10 (upd (upd (a 10) (z 0) (0)) (z 0) (1))) 11 (upd (upd (a 11) (z 0) (-1)) (z 0) (day))) 15 (upd (a 15) (z 0) (1))) bk := by rw [ecw_23]; exact MW_arr 15 (by decide) (upd (a 15) (z 0) (1))
              refine lv_aload_n hx hb d_M_replace_120 rfl (lv_at hl 1 rfl) ?_
              refine pw_get (ci := 7) (v := .ref (bk (6))) hx hb hw i_M hown hK hP (0) (by decide) rfl rfl 7 (by decide) (hw _ kF_M_25) rfl d_M_replace_121 ?_
              refine lv_iload_n hx hb d_M_replace_124 rfl (lv_at hl 2 rfl) ?_
              refine lv_bipush (v := 6) hx hb d_M_replace_125 (by decide) ?_
              refine pw_iast (n := 200) (f := (upd (upd (a 6) (z 0) (if 0 ≤ ((a 7) (j)) then 1 else 0)) (z 0) (3))) hx hb hK hP hD hS 0 (6) (by decide) rfl rfl (j) rfl (by omega) (by decide) d_M_replace_127 (fun cw_24 H locs ecw_24 hP hD hS => ?_)
              obtain rfl : cw_24 = MW cs 0 (va_up z 0 ((z 0) + 1)) (va_up (va_up (va_up (va_up (va_up (va_up (va_up (va_up (va_up (va_up (va_up (va_up (va_up (va_up (va_up (va_up (va_up a 4 (upd (a 4) (z 0) ((a 4) (j)))) 5 (upd (a 5) (z 0) ((a 5) (j)))) 7 (upd (a 7) (z 0) ((a 7) (j)))) 6 (upd (a 6) (z 0) (if 0 ≤ ((a 7) (j)) then 1 else 0))) 8 (upd (a 8) (z 0) (0))) 10 (upd (a 10) (z 0) (0))) 11 (upd (a 11) (z 0) (-1))) 12 (upd (a 12) (z 0) (-1))) 13 (upd (a 13) (z 0) (-1))) 14 (upd (a 14) (z 0) (0))) 16 (upd (a 16) (z 0) (0))) 19 (upd (a 19) (z 0) (-1))) 6 (upd (upd (a 6) (z 0) (if 0 ≤ ((a 7) (j)) then 1 else 0)) (z 0) (3))) 10 (upd (upd (a 10) (z 0) (0)) (z 0) (1))) 11 (upd (upd (a 11) (z 0) (-1)) (z 0) (day))) 15 (upd (a 15) (z 0) (1))) 6 (upd (upd (upd (a 6) (z 0) (if 0 ≤ ((a 7) (j)) then 1 else 0)) (z 0) (3)) (j) (6))) bk := by rw [ecw_24]; exact MW_arr 6 (by decide) (upd (upd (upd (a 6) (z 0) (if 0 ≤ ((a 7) (j)) then 1 else 0)) (z 0) (3)) (j) (6))
              refine lv_aload_n hx hb d_M_replace_128 rfl (lv_at hl 1 rfl) ?_
              refine pw_get (ci := 7) (v := .ref (bk (13))) hx hb hw i_M hown hK hP (0) (by decide) rfl rfl 14 (by decide) (hw _ kF_M_46) rfl d_M_replace_129 ?_
              refine lv_iload_n hx hb d_M_replace_132 rfl (lv_at hl 2 rfl) ?_
              refine lv_iload_n hx hb d_M_replace_133 rfl (lv_at hl 0 rfl) ?_
              refine pw_iast (n := 200) (f := (upd (a 13) (z 0) (-1))) hx hb hK hP hD hS 0 (13) (by decide) rfl rfl (j) rfl (by omega) (by decide) d_M_replace_134 (fun cw_25 H locs ecw_25 hP hD hS => ?_)
              obtain rfl : cw_25 = MW cs 0 (va_up z 0 ((z 0) + 1)) (va_up (va_up (va_up (va_up (va_up (va_up (va_up (va_up (va_up (va_up (va_up (va_up (va_up (va_up (va_up (va_up (va_up (va_up a 4 (upd (a 4) (z 0) ((a 4) (j)))) 5 (upd (a 5) (z 0) ((a 5) (j)))) 7 (upd (a 7) (z 0) ((a 7) (j)))) 6 (upd (a 6) (z 0) (if 0 ≤ ((a 7) (j)) then 1 else 0))) 8 (upd (a 8) (z 0) (0))) 10 (upd (a 10) (z 0) (0))) 11 (upd (a 11) (z 0) (-1))) 12 (upd (a 12) (z 0) (-1))) 13 (upd (a 13) (z 0) (-1))) 14 (upd (a 14) (z 0) (0))) 16 (upd (a 16) (z 0) (0))) 19 (upd (a 19) (z 0) (-1))) 6 (upd (upd (a 6) (z 0) (if 0 ≤ ((a 7) (j)) then 1 else 0)) (z 0) (3))) 10 (upd (upd (a 10) (z 0) (0)) (z 0) (1))) 11 (upd (upd (a 11) (z 0) (-1)) (z 0) (day))) 15 (upd (a 15) (z 0) (1))) 6 (upd (upd (upd (a 6) (z 0) (if 0 ≤ ((a 7) (j)) then 1 else 0)) (z 0) (3)) (j) (6))) 13 (upd (upd (a 13) (z 0) (-1)) (j) (nI (z 0)))) bk := by rw [ecw_25]; exact MW_arr 13 (by decide) (upd (upd (a 13) (z 0) (-1)) (j) (nI (z 0)))
              refine lv_iload_n hx hb d_M_replace_135 rfl (lv_at hl 0 rfl) ?_
              exact W.iret (v := nI (z 0)) hx hb hr (fun t ht hW => ⟨⟨nI (z 0), (28, bk, MW cs 0 (va_up z 0 ((z 0) + 1)) (va_up (va_up (va_up (va_up (va_up (va_up (va_up (va_up (va_up (va_up (va_up (va_up (va_up (va_up (va_up (va_up (va_up (va_up a 4 (upd (a 4) (z 0) ((a 4) (j)))) 5 (upd (a 5) (z 0) ((a 5) (j)))) 7 (upd (a 7) (z 0) ((a 7) (j)))) 6 (upd (a 6) (z 0) (if 0 ≤ ((a 7) (j)) then 1 else 0))) 8 (upd (a 8) (z 0) (0))) 10 (upd (a 10) (z 0) (0))) 11 (upd (a 11) (z 0) (-1))) 12 (upd (a 12) (z 0) (-1))) 13 (upd (a 13) (z 0) (-1))) 14 (upd (a 14) (z 0) (0))) 16 (upd (a 16) (z 0) (0))) 19 (upd (a 19) (z 0) (-1))) 6 (upd (upd (a 6) (z 0) (if 0 ≤ ((a 7) (j)) then 1 else 0)) (z 0) (3))) 10 (upd (upd (a 10) (z 0) (0)) (z 0) (1))) 11 (upd (upd (a 11) (z 0) (-1)) (z 0) (day))) 15 (upd (a 15) (z 0) (1))) 6 (upd (upd (upd (a 6) (z 0) (if 0 ≤ ((a 7) (j)) then 1 else 0)) (z 0) (3)) (j) (6))) 13 (upd (upd (a 13) (z 0) (-1)) (j) (nI (z 0)))) bk), rfl, Mr_of (by rw [s_M_replace, if_pos c_5, if_neg c_6, if_pos c_16, if_neg c_18, if_neg c_19]), by rw [ht]; exact hP, va_K.moved hW.alike hK, hD⟩, hS.F ht⟩) hS.2.2 d_M_replace_136
            · have c_19 : (nI (z 0)) = 200 := c_19
              refine lv_bipush (v := -4) hx hb d_M_replace_66 (by decide) ?_
              exact W.iret (v := -4) hx hb hr (fun t ht hW => ⟨⟨-4, (28, bk, MW cs 0 z a bk), rfl, Mr_of (by rw [s_M_replace, if_pos c_5, if_neg c_6, if_pos c_16, if_neg c_18, if_pos c_19]), by rw [ht]; exact hP, va_K.moved hW.alike hK, hD⟩, hS.F ht⟩) hS.2.2 d_M_replace_68
          · have c_18 : 0 ≤ a 19 j ∧ a 19 j < a 16 j := c_18
            refine lv_bipush (v := -3) hx hb d_M_replace_53 (by decide) ?_
            exact W.iret (v := -3) hx hb hr (fun t ht hW => ⟨⟨-3, (28, bk, MW cs 0 z a bk), rfl, Mr_of (by rw [s_M_replace, if_pos c_5, if_neg c_6, if_pos c_16, if_pos c_18]), by rw [ht]; exact hP, va_K.moved hW.alike hK, hD⟩, hS.F ht⟩) hS.2.2 d_M_replace_55
    · have c_5 : ¬ (0 ≤ day ∧ day ≤ 1000000) := c_5
      refine lv_bipush (v := -2) hx hb d_M_replace_22 (by decide) ?_
      exact W.iret (v := -2) hx hb hr (fun t ht hW => ⟨⟨-2, (28, bk, MW cs 0 z a bk), rfl, Mr_of (by rw [s_M_replace, if_neg c_5]), by rw [ht]; exact hP, va_K.moved hW.alike hK, hD⟩, hS.F ht⟩) hS.2.2 d_M_replace_24
  · have c_3 : ¬ (0 ≤ (nI j) ∧ (nI j) < nI (z 0)) := c_3
    exact absurd ⟨nI_pos' (by omega), (nI_ltI (by omega) (by omega)).mpr hj⟩ c_3
def lp_issue (th : Int32) (z : Nat → Nat) (a : Nat → Nat → Int32) (pt od day : Int32) : Nat → Nat → MS
  | 0, i => (if (nI (z 0)) = 200 then (-4, th, z, a) else (nI (z 0), th, va_up z 0 ((z 0) + 1), va_up (va_up (va_up (va_up (va_up (va_up (va_up (va_up (va_up (va_up (va_up (va_up a 4 (upd (a 4) (z 0) (pt))) 5 (upd (a 5) (z 0) (od))) 7 (upd (a 7) (z 0) (day))) 6 (upd (a 6) (z 0) (if 0 ≤ day then 1 else 0))) 8 (upd (a 8) (z 0) (0))) 10 (upd (a 10) (z 0) (0))) 11 (upd (a 11) (z 0) (-1))) 12 (upd (a 12) (z 0) (-1))) 13 (upd (a 13) (z 0) (-1))) 14 (upd (a 14) (z 0) (0))) 16 (upd (a 16) (z 0) (0))) 19 (upd (a 19) (z 0) (-1))))
  | k + 1, i => (if ((a 4) (i)) = pt then (if ((a 5) (i)) = od then (-3, th, z, a) else (lp_issue th z a pt od day k (i + 1))) else (lp_issue th z a pt od day k (i + 1)))
set_option maxHeartbeats 4000000 in
set_option maxRecDepth 100000 in
theorem l_M_issue {p_ : Program} {l : Launch} {e_ : Env} {s : State} {m : MethodId} {below_ : List Frame} {meth_ : Method} {c_ : Code} {D : va_G} {cs : Nat → ClassId} {bk : Nat → Nat} {sz : Nat} (th : Int32) (z : Nat → Nat) (a : Nat → Nat → Int32) (hz : z 0 ≤ 200) (pt od day : Int32) (R : MS) (hx : p_.tables.exec = Jvm.exec) (hb : c_.code = b_M_issue) (hr : meth_.sig.returnType = (some .int)) (hml : c_.maxLocals = 5) (hw : ∀ w ∈ WA, w.before ([.ref (bk (0)), .int (pt), .int (od), .int (day)] : List Value).toArray s = true) (hown : s.vm.findClass "IssueRowsModel" = some m.cls) (hlocks : meth_.locks = false) (hA : ∀ q, s.heap.size ≤ q → AA 28 bk sz q) (hN : NN s) (hK : va_K D classes (TY cs) s) : ∀ (k : Nat) (i : Nat), (i + k = z 0) → (R = lp_issue th z a pt od day k i) → ∀ (H : Heap) (locs : List Loc) (ls : Array Slot), va_P D classes (wl 28 bk (MW cs th z a bk)) H → va_D (AA 28 bk sz) (wl 28 bk (MW cs th z a bk)) → va_S (AA 28 bk sz) s.heap H locs → lv_has ls 5 [(0, .ref (bk (0))), (1, .int (pt)), (2, .int (od)), (3, .int (day)), (4, .int (nI i))] → W p_ l e_ ({ frames := 2, cells := 0, slots := 0, locals := 42 }) s m ([.ref (bk (0)), .int (pt), .int (od), .int (day)] : List Value).toArray below_ meth_ c_ H locs 0 0 (MQ below_ (va_Qi (Mr cs bk R) (Wd D classes (TY cs) (AA 28 bk sz)) (AA 28 bk sz)) ([.ref (bk (0)), .int (pt), .int (od), .int (day)] : List Value).toArray s 0 0 (AA 28 bk sz)) (F0 m 46 ls []) := by
  intro k
  induction k with
  | zero =>
    intro i hf hR H locs ls hP hD hS hl
    refine lv_iload hx hb d_M_issue_46 (lv_at hl 4 rfl) ?_
    refine lv_aload_n hx hb d_M_issue_48 rfl (lv_at hl 0 rfl) ?_
    refine pw_get (ci := 7) (v := .int (nI (z 0))) hx hb hw i_M hown hK hP (0) (by decide) rfl rfl 4 (by decide) (hw _ kF_M_101) rfl d_M_issue_49 ?_
    refine lv_icmp_ge (tgt := 86) hx hb d_M_issue_52 (by decide) (fun c_1 => ?_) (fun c_1 => ?_)
    · have c_1 : (nI (z 0)) ≤ (nI i) := c_1
      refine lv_aload_n hx hb d_M_issue_86 rfl (lv_at hl 0 rfl) ?_
      refine pw_get (ci := 7) (v := .int (nI (z 0))) hx hb hw i_M hown hK hP (0) (by decide) rfl rfl 4 (by decide) (hw _ kF_M_101) rfl d_M_issue_87 ?_
      refine lv_sipush (v := 200) hx hb d_M_issue_90 (by decide) ?_
      refine lv_icmp_ne (tgt := 101) hx hb d_M_issue_93 (by decide) (fun c_2 => ?_) (fun c_2 => ?_)
      · have c_2 : ¬ (nI (z 0)) = 200 := c_2
        refine lv_aload_n hx hb d_M_issue_101 rfl (lv_at hl 0 rfl) ?_
        refine lv_iload_n hx hb d_M_issue_102 rfl (lv_at hl 1 rfl) ?_
        refine lv_iload_n hx hb d_M_issue_103 rfl (lv_at hl 2 rfl) ?_
        refine lv_iload_n hx hb d_M_issue_104 rfl (lv_at hl 3 rfl) ?_
        refine pm_calli (va_runV (As := [.int (pt), .int (od), .int (day)]) (rest := []) ⟨hx, hb, hml, hown, hw⟩ (c_M_lay l D cs bk H.size th z a (by have h7 := c_2; rw [show (200 : Int32) = nI 200 from rfl, nI_eq (by omega) (by decide)] at h7; omega) pt od day) (cw_V 3 hw kM_M_111 kI_M_lay kV_M_lay kZ_M kC_M_lay rfl rfl ⟨rfl, by decide, by decide, by decide +kernel⟩ ⟨Nat.le_of_ble_eq_true rfl, Nat.le_of_ble_eq_true rfl⟩) (pw_preV hN hK hP hD (0) (by decide) rfl rfl) rfl rfl hl.1 rfl (lv_room (Nat.le_of_ble_eq_true rfl)) d_M_issue_105 ⟨Nat.le_of_ble_eq_true rfl, Nat.le_of_ble_eq_true rfl⟩) hS (wl_free hD hS hA) (fun H locs hP hD hS => ?_)
        rw [lay_eq] at hP hD ⊢
        have hP : va_P D classes (wl 28 bk (MW cs th (va_up z 0 ((z 0) + 1)) (va_up (va_up (va_up (va_up (va_up (va_up (va_up (va_up (va_up (va_up (va_up (va_up a 4 (upd (a 4) (z 0) (pt))) 5 (upd (a 5) (z 0) (od))) 7 (upd (a 7) (z 0) (day))) 6 (upd (a 6) (z 0) (if 0 ≤ day then 1 else 0))) 8 (upd (a 8) (z 0) (0))) 10 (upd (a 10) (z 0) (0))) 11 (upd (a 11) (z 0) (-1))) 12 (upd (a 12) (z 0) (-1))) 13 (upd (a 13) (z 0) (-1))) 14 (upd (a 14) (z 0) (0))) 16 (upd (a 16) (z 0) (0))) 19 (upd (a 19) (z 0) (-1))) bk)) H := hP
        have hD : va_D (AA 28 bk sz) (wl 28 bk (MW cs th (va_up z 0 ((z 0) + 1)) (va_up (va_up (va_up (va_up (va_up (va_up (va_up (va_up (va_up (va_up (va_up (va_up a 4 (upd (a 4) (z 0) (pt))) 5 (upd (a 5) (z 0) (od))) 7 (upd (a 7) (z 0) (day))) 6 (upd (a 6) (z 0) (if 0 ≤ day then 1 else 0))) 8 (upd (a 8) (z 0) (0))) 10 (upd (a 10) (z 0) (0))) 11 (upd (a 11) (z 0) (-1))) 12 (upd (a 12) (z 0) (-1))) 13 (upd (a 13) (z 0) (-1))) 14 (upd (a 14) (z 0) (0))) 16 (upd (a 16) (z 0) (0))) 19 (upd (a 19) (z 0) (-1))) bk)) := hD
        show W _ _ _ _ _ _ _ _ _ _ _ _ _ _ _ (F0 _ _ _ [.int (nI (z 0))])
        exact W.iret (v := nI (z 0)) hx hb hr (fun t ht hW => ⟨⟨nI (z 0), (28, bk, MW cs th (va_up z 0 ((z 0) + 1)) (va_up (va_up (va_up (va_up (va_up (va_up (va_up (va_up (va_up (va_up (va_up (va_up a 4 (upd (a 4) (z 0) (pt))) 5 (upd (a 5) (z 0) (od))) 7 (upd (a 7) (z 0) (day))) 6 (upd (a 6) (z 0) (if 0 ≤ day then 1 else 0))) 8 (upd (a 8) (z 0) (0))) 10 (upd (a 10) (z 0) (0))) 11 (upd (a 11) (z 0) (-1))) 12 (upd (a 12) (z 0) (-1))) 13 (upd (a 13) (z 0) (-1))) 14 (upd (a 14) (z 0) (0))) 16 (upd (a 16) (z 0) (0))) 19 (upd (a 19) (z 0) (-1))) bk), rfl, Mr_of (by rw [hR, lp_issue, if_neg c_2]), by rw [ht]; exact hP, va_K.moved hW.alike hK, hD⟩, hS.F ht⟩) hS.2.2 d_M_issue_108
      · have c_2 : (nI (z 0)) = 200 := c_2
        refine lv_bipush (v := -4) hx hb d_M_issue_96 (by decide) ?_
        refine lv_goto (tgt := 108) hx hb d_M_issue_98 (by decide) ?_
        exact W.iret (v := -4) hx hb hr (fun t ht hW => ⟨⟨-4, (28, bk, MW cs th z a bk), rfl, Mr_of (by rw [hR, lp_issue, if_pos c_2]), by rw [ht]; exact hP, va_K.moved hW.alike hK, hD⟩, hS.F ht⟩) hS.2.2 d_M_issue_108
    · have c_1 : ¬ (nI (z 0)) ≤ (nI i) := c_1
      exact absurd ((nI_leI (by omega) (by omega)).mpr (by omega)) c_1
  | succ k ih =>
    intro i hf hR H locs ls hP hD hS hl
    refine lv_iload hx hb d_M_issue_46 (lv_at hl 4 rfl) ?_
    refine lv_aload_n hx hb d_M_issue_48 rfl (lv_at hl 0 rfl) ?_
    refine pw_get (ci := 7) (v := .int (nI (z 0))) hx hb hw i_M hown hK hP (0) (by decide) rfl rfl 4 (by decide) (hw _ kF_M_101) rfl d_M_issue_49 ?_
    refine lv_icmp_ge (tgt := 86) hx hb d_M_issue_52 (by decide) (fun c_101 => ?_) (fun c_101 => ?_)
    · have c_101 : (nI (z 0)) ≤ (nI i) := c_101
      exact absurd ((nI_leI (by omega) (by omega)).mp c_101) (by omega)
    · have c_101 : ¬ (nI (z 0)) ≤ (nI i) := c_101
      refine lv_aload_n hx hb d_M_issue_55 rfl (lv_at hl 0 rfl) ?_
      refine pw_get (ci := 7) (v := .ref (bk (4))) hx hb hw i_M hown hK hP (0) (by decide) rfl rfl 5 (by decide) (hw _ kF_M_19) rfl d_M_issue_56 ?_
      refine lv_iload hx hb d_M_issue_59 (lv_at hl 4 rfl) ?_
      refine pw_iald (n := 200) (f := (a 4)) hx hb hK hP 0 (4) (by decide) rfl rfl (i) rfl (by omega) (by decide) d_M_issue_61 ?_
      refine lv_iload_n hx hb d_M_issue_62 rfl (lv_at hl 1 rfl) ?_
      refine lv_icmp_ne (tgt := 80) hx hb d_M_issue_63 (by decide) (fun c_102 => ?_) (fun c_102 => ?_)
      · have c_102 : ¬ ((a 4) (i)) = pt := c_102
        refine lv_iinc (v := nI (i + 1)) (lv' := [(4, .int (nI (i + 1))), (0, .ref (bk (0))), (1, .int (pt)), (2, .int (od)), (3, .int (day))]) hx hb d_M_issue_80 hl (k := 4) rfl (nI_1 _) (by decide) rfl (fun ls hl => ?_)
        refine lv_goto (tgt := 46) hx hb d_M_issue_83 (by decide) ?_
        exact ih (i + 1) (by omega) (by rw [hR, lp_issue, if_neg c_102]) _ _ _ hP hD hS (lv_sub hl [1, 2, 3, 4, 0] rfl)
      · have c_102 : ((a 4) (i)) = pt := c_102
        refine lv_aload_n hx hb d_M_issue_66 rfl (lv_at hl 0 rfl) ?_
        refine pw_get (ci := 7) (v := .ref (bk (5))) hx hb hw i_M hown hK hP (0) (by decide) rfl rfl 6 (by decide) (hw _ kF_M_22) rfl d_M_issue_67 ?_
        refine lv_iload hx hb d_M_issue_70 (lv_at hl 4 rfl) ?_
        refine pw_iald (n := 200) (f := (a 5)) hx hb hK hP 0 (5) (by decide) rfl rfl (i) rfl (by omega) (by decide) d_M_issue_72 ?_
        refine lv_iload_n hx hb d_M_issue_73 rfl (lv_at hl 2 rfl) ?_
        refine lv_icmp_ne (tgt := 80) hx hb d_M_issue_74 (by decide) (fun c_103 => ?_) (fun c_103 => ?_)
        · have c_103 : ¬ ((a 5) (i)) = od := c_103
          refine lv_iinc (v := nI (i + 1)) (lv' := [(4, .int (nI (i + 1))), (0, .ref (bk (0))), (1, .int (pt)), (2, .int (od)), (3, .int (day))]) hx hb d_M_issue_80 hl (k := 4) rfl (nI_1 _) (by decide) rfl (fun ls hl => ?_)
          refine lv_goto (tgt := 46) hx hb d_M_issue_83 (by decide) ?_
          exact ih (i + 1) (by omega) (by rw [hR, lp_issue, if_pos c_102, if_neg c_103]) _ _ _ hP hD hS (lv_sub hl [1, 2, 3, 4, 0] rfl)
        · have c_103 : ((a 5) (i)) = od := c_103
          refine lv_bipush (v := -3) hx hb d_M_issue_77 (by decide) ?_
          exact W.iret (v := -3) hx hb hr (fun t ht hW => ⟨⟨-3, (28, bk, MW cs th z a bk), rfl, Mr_of (by rw [hR, lp_issue, if_pos c_102, if_pos c_103]), by rw [ht]; exact hP, va_K.moved hW.alike hK, hD⟩, hS.F ht⟩) hS.2.2 d_M_issue_79
def s_M_issue (th : Int32) (z : Nat → Nat) (a : Nat → Nat → Int32) (pt : Int32) (od : Int32) (day : Int32) : MS := (if 0 ≤ pt ∧ pt ≤ 9 then (if 1 ≤ od ∧ od ≤ 9999 then (if day = (-1) then (lp_issue 0 z a pt od day (z 0) 0) else (if 0 ≤ day ∧ day ≤ 1000000 then (lp_issue 0 z a pt od day (z 0) 0) else (-2, 0, z, a))) else (-2, 0, z, a)) else (-1, 0, z, a))
set_option maxHeartbeats 4000000 in
set_option maxRecDepth 100000 in
theorem c_M_issue (l : Launch) (D : va_G) (cs : Nat → ClassId) (bk : Nat → Nat) (sz : Nat) (th : Int32) (z : Nat → Nat) (a : Nat → Nat → Int32) (hz : z 0 ≤ 200) (pt od day : Int32) : Met l y_M_issue w_M_issue ({ frames := 2, cells := 0, slots := 0, locals := 42 }) (va_Pc [.ref (bk (0)), .int (pt), .int (od), .int (day)] (PB D classes (TY cs) 28 bk (MW cs th z a bk) sz)) (va_Qi (Mr cs bk (s_M_issue th z a pt od day)) (Wd D classes (TY cs) (AA 28 bk sz)) (AA 28 bk sz)) 0 0 (AA 28 bk sz) := by
  refine pw_entry (cc := b_M_issue) (maxL := 5) (ret := (some .int)) (by decide +kernel) rfl (Nat.le_of_ble_eq_true rfl) ?_
  intro p_ e_ s m below_ meth_ c_ ls hx hb hr hml hts hown hlocks hin hsz hP hK hD hS hA hN hl
  have hw : ∀ w ∈ WA, w.before _ s = true := fun w h => hts w (List.mem_cons_of_mem _ h)
  have hown : s.vm.findClass "IssueRowsModel" = some m.cls := hown
  have hl : lv_has ls 5 [(0, .ref (bk (0))), (1, .int (pt)), (2, .int (od)), (3, .int (day))] := hl
  refine lv_aload_n hx hb d_M_issue_0 rfl (lv_at hl 0 rfl) ?_
  refine lv_iconst (v := 0) hx hb d_M_issue_1 (by decide) ?_
  refine pw_put (ci := 7) (v := .int (0)) (ty := .int) (fs' := [.int (0), .ref (bk (1)), .ref (bk (2)), .ref (bk (3)), .int (nI (z 0)), .ref (bk (4)), .ref (bk (5)), .ref (bk (6)), .ref (bk (7)), .ref (bk (8)), .ref (bk (9)), .ref (bk (10)), .ref (bk (11)), .ref (bk (12)), .ref (bk (13)), .ref (bk (14)), .ref (bk (15)), .ref (bk (16)), .ref (bk (17)), .ref (bk (18)), .ref (bk (19)), .ref (bk (20)), .int (nI (z 1)), .ref (bk (21)), .ref (bk (22)), .int (nI (z 2)), .int (nI (z 3)), .ref (bk (23)), .ref (bk (24)), .ref (bk (25)), .int (nI (z 4)), .ref (bk (26)), .ref (bk (27))]) hx hb hw i_M t_M t_M_ok n_M hown hK hP hD hS (0) (by decide) rfl rfl 0 (by decide) (hw _ kF_M_92) rfl (t_M_ok 0 (by decide)) rfl rfl (Nat.le_of_ble_eq_true rfl) rfl d_M_issue_2 (fun cw_1 H locs ecw_1 hP hD hS => ?_)
  obtain rfl : cw_1 = MW cs 0 z a bk := by rw [ecw_1]; exact MW_obj 0 z
  refine lv_iload_n hx hb d_M_issue_5 rfl (lv_at hl 1 rfl) ?_
  refine lv_iconst (v := 0) hx hb d_M_issue_6 (by decide) ?_
  refine lv_bipush (v := 9) hx hb d_M_issue_7 (by decide) ?_
  refine pw_callSi (va_runS (As := [.int (pt), .int (0), .int (9)]) (rest := []) ⟨hx, hb, hml, hown, hw⟩ (c_M_in l D cs bk H.size 0 z a pt 0 9) (cw_S 3 hw kM_M_97 kS_M_in kZ_M kC_M_in rfl rfl ⟨rfl, by decide, by decide, by decide +kernel⟩ ⟨Nat.le_of_ble_eq_true rfl, Nat.le_of_ble_eq_true rfl⟩) (pw_preS hN hK hP hD) rfl rfl hl.1 rfl (lv_room (Nat.le_of_ble_eq_true rfl)) d_M_issue_9 ⟨Nat.le_of_ble_eq_true rfl, Nat.le_of_ble_eq_true rfl⟩) (fun r_2 hr_2 => ?_)
  have hr_2 : r_2 = bI (0 ≤ pt ∧ pt ≤ 9) := hr_2
  subst hr_2
  refine pw_ifne (tgt := 17) hx hb d_M_issue_12 (by decide) (fun c_3 => ?_) (fun c_3 => ?_)
  · have c_3 : 0 ≤ pt ∧ pt ≤ 9 := c_3
    refine lv_iload_n hx hb d_M_issue_17 rfl (lv_at hl 2 rfl) ?_
    refine lv_iconst (v := 1) hx hb d_M_issue_18 (by decide) ?_
    refine lv_sipush (v := 9999) hx hb d_M_issue_19 (by decide) ?_
    refine pw_callSi (va_runS (As := [.int (od), .int (1), .int (9999)]) (rest := []) ⟨hx, hb, hml, hown, hw⟩ (c_M_in l D cs bk H.size 0 z a od 1 9999) (cw_S 3 hw kM_M_97 kS_M_in kZ_M kC_M_in rfl rfl ⟨rfl, by decide, by decide, by decide +kernel⟩ ⟨Nat.le_of_ble_eq_true rfl, Nat.le_of_ble_eq_true rfl⟩) (pw_preS hN hK hP hD) rfl rfl hl.1 rfl (lv_room (Nat.le_of_ble_eq_true rfl)) d_M_issue_22 ⟨Nat.le_of_ble_eq_true rfl, Nat.le_of_ble_eq_true rfl⟩) (fun r_4 hr_4 => ?_)
    have hr_4 : r_4 = bI (1 ≤ od ∧ od ≤ 9999) := hr_4
    subst hr_4
    refine pw_ifeq (tgt := 40) hx hb d_M_issue_25 (by decide) (fun c_5 => ?_) (fun c_5 => ?_)
    · have c_5 : ¬ (1 ≤ od ∧ od ≤ 9999) := c_5
      refine lv_bipush (v := -2) hx hb d_M_issue_40 (by decide) ?_
      exact W.iret (v := -2) hx hb hr (fun t ht hW => ⟨⟨-2, (28, bk, MW cs 0 z a bk), rfl, Mr_of (by rw [s_M_issue, if_pos c_3, if_neg c_5]), by rw [ht]; exact hP, va_K.moved hW.alike hK, hD⟩, hS.F ht⟩) hS.2.2 d_M_issue_42
    · have c_5 : 1 ≤ od ∧ od ≤ 9999 := c_5
      refine lv_iload_n hx hb d_M_issue_28 rfl (lv_at hl 3 rfl) ?_
      refine lv_iconst (v := -1) hx hb d_M_issue_29 (by decide) ?_
      refine lv_icmp_eq (tgt := 43) hx hb d_M_issue_30 (by decide) (fun c_6 => ?_) (fun c_6 => ?_)
      · have c_6 : day = (-1) := c_6
        refine lv_iconst (v := 0) hx hb d_M_issue_43 (by decide) ?_
        refine lv_istore (lv' := [(4, .int (0)), (0, .ref (bk (0))), (1, .int (pt)), (2, .int (od)), (3, .int (day))]) hx hb d_M_issue_44 hl (by decide) rfl (fun ls hl => ?_)
        exact l_M_issue 0 z a hz pt od day _ hx hb hr hml hw hown hlocks hA hN hK (z 0) 0 (by omega) (by rw [s_M_issue, if_pos c_3, if_pos c_5, if_pos c_6]) _ _ _ hP hD hS (lv_sub hl [1, 2, 3, 4, 0] rfl)
      · have c_6 : ¬ day = (-1) := c_6
        refine lv_iload_n hx hb d_M_issue_33 rfl (lv_at hl 3 rfl) ?_
        refine pw_callSi (va_runS (As := [.int (day)]) (rest := []) ⟨hx, hb, hml, hown, hw⟩ (c_M_isDay l D cs bk H.size 0 z a day) (cw_S 1 hw kM_M_107 kS_M_isDay kZ_M kC_M_isDay rfl rfl ⟨rfl, by decide, by decide, by decide +kernel⟩ ⟨Nat.le_of_ble_eq_true rfl, Nat.le_of_ble_eq_true rfl⟩) (pw_preS hN hK hP hD) rfl rfl hl.1 rfl (lv_room (Nat.le_of_ble_eq_true rfl)) d_M_issue_34 ⟨Nat.le_of_ble_eq_true rfl, Nat.le_of_ble_eq_true rfl⟩) (fun r_7 hr_7 => ?_)
        have hr_7 : r_7 = bI (0 ≤ day ∧ day ≤ 1000000) := hr_7
        subst hr_7
        refine pw_ifne (tgt := 43) hx hb d_M_issue_37 (by decide) (fun c_8 => ?_) (fun c_8 => ?_)
        · have c_8 : 0 ≤ day ∧ day ≤ 1000000 := c_8
          refine lv_iconst (v := 0) hx hb d_M_issue_43 (by decide) ?_
          refine lv_istore (lv' := [(4, .int (0)), (0, .ref (bk (0))), (1, .int (pt)), (2, .int (od)), (3, .int (day))]) hx hb d_M_issue_44 hl (by decide) rfl (fun ls hl => ?_)
          exact l_M_issue 0 z a hz pt od day _ hx hb hr hml hw hown hlocks hA hN hK (z 0) 0 (by omega) (by rw [s_M_issue, if_pos c_3, if_pos c_5, if_neg c_6, if_pos c_8]) _ _ _ hP hD hS (lv_sub hl [1, 2, 3, 4, 0] rfl)
        · have c_8 : ¬ (0 ≤ day ∧ day ≤ 1000000) := c_8
          refine lv_bipush (v := -2) hx hb d_M_issue_40 (by decide) ?_
          exact W.iret (v := -2) hx hb hr (fun t ht hW => ⟨⟨-2, (28, bk, MW cs 0 z a bk), rfl, Mr_of (by rw [s_M_issue, if_pos c_3, if_pos c_5, if_neg c_6, if_neg c_8]), by rw [ht]; exact hP, va_K.moved hW.alike hK, hD⟩, hS.F ht⟩) hS.2.2 d_M_issue_42
  · have c_3 : ¬ (0 ≤ pt ∧ pt ≤ 9) := c_3
    refine lv_iconst (v := -1) hx hb d_M_issue_15 (by decide) ?_
    exact W.iret (v := -1) hx hb hr (fun t ht hW => ⟨⟨-1, (28, bk, MW cs 0 z a bk), rfl, Mr_of (by rw [s_M_issue, if_neg c_3]), by rw [ht]; exact hP, va_K.moved hW.alike hK, hD⟩, hS.F ht⟩) hS.2.2 d_M_issue_16
def lp_late (th : Int32) (z : Nat → Nat) (a : Nat → Nat → Int32) (pt : Int32) : Nat → Nat → Int32 → MS
  | 0, i, sum => (sum, th, z, a)
  | k + 1, i, sum => (if ((a 4) (i)) = pt then (if ((a 15) (i)) = 0 then (if ((a 7) (i)) < 0 then (lp_late th z a pt k (i + 1) sum) else (if ((a 11) (i)) ≤ ((a 7) (i)) then (lp_late th z a pt k (i + 1) sum) else (lp_late th z a pt k (i + 1) (sum + (((a 11) (i)) - ((a 7) (i))))))) else (lp_late th z a pt k (i + 1) sum)) else (lp_late th z a pt k (i + 1) sum))
set_option maxHeartbeats 4000000 in
set_option maxRecDepth 100000 in
theorem l_M_lateness {p_ : Program} {l : Launch} {e_ : Env} {s : State} {m : MethodId} {below_ : List Frame} {meth_ : Method} {c_ : Code} {D : va_G} {cs : Nat → ClassId} {bk : Nat → Nat} {sz : Nat} (th : Int32) (z : Nat → Nat) (a : Nat → Nat → Int32) (hz : z 0 ≤ 200) (pt : Int32) (R : MS) (hx : p_.tables.exec = Jvm.exec) (hb : c_.code = b_M_lateness) (hr : meth_.sig.returnType = (some .int)) (hml : c_.maxLocals = 4) (hw : ∀ w ∈ WA, w.before ([.ref (bk (0)), .int (pt)] : List Value).toArray s = true) (hown : s.vm.findClass "IssueRowsModel" = some m.cls) (hlocks : meth_.locks = false) (hA : ∀ q, s.heap.size ≤ q → AA 28 bk sz q) (hN : NN s) (hK : va_K D classes (TY cs) s) : ∀ (k : Nat) (i : Nat) (sum : Int32), (i + k = z 0) → (R = lp_late th z a pt k i sum) → ∀ (H : Heap) (locs : List Loc) (ls : Array Slot), va_P D classes (wl 28 bk (MW cs th z a bk)) H → va_D (AA 28 bk sz) (wl 28 bk (MW cs th z a bk)) → va_S (AA 28 bk sz) s.heap H locs → lv_has ls 4 [(0, .ref (bk (0))), (1, .int (pt)), (2, .int (sum)), (3, .int (nI i))] → W p_ l e_ ({ frames := 1, cells := 0, slots := 0, locals := 22 }) s m ([.ref (bk (0)), .int (pt)] : List Value).toArray below_ meth_ c_ H locs 0 0 (MQ below_ (va_Qi (Mr cs bk R) (Wd D classes (TY cs) (AA 28 bk sz)) (AA 28 bk sz)) ([.ref (bk (0)), .int (pt)] : List Value).toArray s 0 0 (AA 28 bk sz)) (F0 m 21 ls []) := by
  intro k
  induction k with
  | zero =>
    intro i sum hf hR H locs ls hP hD hS hl
    refine lv_iload_n hx hb d_M_lateness_21 rfl (lv_at hl 3 rfl) ?_
    refine lv_aload_n hx hb d_M_lateness_22 rfl (lv_at hl 0 rfl) ?_
    refine pw_get (ci := 7) (v := .int (nI (z 0))) hx hb hw i_M hown hK hP (0) (by decide) rfl rfl 4 (by decide) (hw _ kF_M_101) rfl d_M_lateness_23 ?_
    refine lv_icmp_ge (tgt := 94) hx hb d_M_lateness_26 (by decide) (fun c_1 => ?_) (fun c_1 => ?_)
    · have c_1 : (nI (z 0)) ≤ (nI i) := c_1
      refine lv_iload_n hx hb d_M_lateness_94 rfl (lv_at hl 2 rfl) ?_
      exact W.iret (v := sum) hx hb hr (fun t ht hW => ⟨⟨sum, (28, bk, MW cs th z a bk), rfl, Mr_of (by rw [hR, lp_late]), by rw [ht]; exact hP, va_K.moved hW.alike hK, hD⟩, hS.F ht⟩) hS.2.2 d_M_lateness_95
    · have c_1 : ¬ (nI (z 0)) ≤ (nI i) := c_1
      exact absurd ((nI_leI (by omega) (by omega)).mpr (by omega)) c_1
  | succ k ih =>
    intro i sum hf hR H locs ls hP hD hS hl
    refine lv_iload_n hx hb d_M_lateness_21 rfl (lv_at hl 3 rfl) ?_
    refine lv_aload_n hx hb d_M_lateness_22 rfl (lv_at hl 0 rfl) ?_
    refine pw_get (ci := 7) (v := .int (nI (z 0))) hx hb hw i_M hown hK hP (0) (by decide) rfl rfl 4 (by decide) (hw _ kF_M_101) rfl d_M_lateness_23 ?_
    refine lv_icmp_ge (tgt := 94) hx hb d_M_lateness_26 (by decide) (fun c_101 => ?_) (fun c_101 => ?_)
    · have c_101 : (nI (z 0)) ≤ (nI i) := c_101
      exact absurd ((nI_leI (by omega) (by omega)).mp c_101) (by omega)
    · have c_101 : ¬ (nI (z 0)) ≤ (nI i) := c_101
      refine lv_aload_n hx hb d_M_lateness_29 rfl (lv_at hl 0 rfl) ?_
      refine pw_get (ci := 7) (v := .ref (bk (4))) hx hb hw i_M hown hK hP (0) (by decide) rfl rfl 5 (by decide) (hw _ kF_M_19) rfl d_M_lateness_30 ?_
      refine lv_iload_n hx hb d_M_lateness_33 rfl (lv_at hl 3 rfl) ?_
      refine pw_iald (n := 200) (f := (a 4)) hx hb hK hP 0 (4) (by decide) rfl rfl (i) rfl (by omega) (by decide) d_M_lateness_34 ?_
      refine lv_iload_n hx hb d_M_lateness_35 rfl (lv_at hl 1 rfl) ?_
      refine lv_icmp_ne (tgt := 88) hx hb d_M_lateness_36 (by decide) (fun c_102 => ?_) (fun c_102 => ?_)
      · have c_102 : ¬ ((a 4) (i)) = pt := c_102
        refine lv_iinc (v := nI (i + 1)) (lv' := [(3, .int (nI (i + 1))), (0, .ref (bk (0))), (1, .int (pt)), (2, .int (sum))]) hx hb d_M_lateness_88 hl (k := 3) rfl (nI_1 _) (by decide) rfl (fun ls hl => ?_)
        refine lv_goto (tgt := 21) hx hb d_M_lateness_91 (by decide) ?_
        exact ih (i + 1) sum (by omega) (by rw [hR, lp_late, if_neg c_102]) _ _ _ hP hD hS (lv_sub hl [1, 2, 3, 0] rfl)
      · have c_102 : ((a 4) (i)) = pt := c_102
        refine lv_aload_n hx hb d_M_lateness_39 rfl (lv_at hl 0 rfl) ?_
        refine pw_get (ci := 7) (v := .ref (bk (15))) hx hb hw i_M hown hK hP (0) (by decide) rfl rfl 16 (by decide) (hw _ kF_M_52) rfl d_M_lateness_40 ?_
        refine lv_iload_n hx hb d_M_lateness_43 rfl (lv_at hl 3 rfl) ?_
        refine pw_zald (n := 200) (f := (a 15)) hx hb hK hP 1 (15) (by decide) rfl rfl (i) rfl (by omega) (by decide) d_M_lateness_44 ?_
        refine lv_if_ne (tgt := 88) hx hb d_M_lateness_45 (by decide) (fun c_103 => ?_) (fun c_103 => ?_)
        · have c_103 : ¬ ((a 15) (i)) = 0 := c_103
          refine lv_iinc (v := nI (i + 1)) (lv' := [(3, .int (nI (i + 1))), (0, .ref (bk (0))), (1, .int (pt)), (2, .int (sum))]) hx hb d_M_lateness_88 hl (k := 3) rfl (nI_1 _) (by decide) rfl (fun ls hl => ?_)
          refine lv_goto (tgt := 21) hx hb d_M_lateness_91 (by decide) ?_
          exact ih (i + 1) sum (by omega) (by rw [hR, lp_late, if_pos c_102, if_neg c_103]) _ _ _ hP hD hS (lv_sub hl [1, 2, 3, 0] rfl)
        · have c_103 : ((a 15) (i)) = 0 := c_103
          refine lv_aload_n hx hb d_M_lateness_48 rfl (lv_at hl 0 rfl) ?_
          refine pw_get (ci := 7) (v := .ref (bk (7))) hx hb hw i_M hown hK hP (0) (by decide) rfl rfl 8 (by decide) (hw _ kF_M_28) rfl d_M_lateness_49 ?_
          refine lv_iload_n hx hb d_M_lateness_52 rfl (lv_at hl 3 rfl) ?_
          refine pw_iald (n := 200) (f := (a 7)) hx hb hK hP 0 (7) (by decide) rfl rfl (i) rfl (by omega) (by decide) d_M_lateness_53 ?_
          refine lv_if_lt (tgt := 88) hx hb d_M_lateness_54 (by decide) (fun c_104 => ?_) (fun c_104 => ?_)
          · have c_104 : ((a 7) (i)) < 0 := c_104
            refine lv_iinc (v := nI (i + 1)) (lv' := [(3, .int (nI (i + 1))), (0, .ref (bk (0))), (1, .int (pt)), (2, .int (sum))]) hx hb d_M_lateness_88 hl (k := 3) rfl (nI_1 _) (by decide) rfl (fun ls hl => ?_)
            refine lv_goto (tgt := 21) hx hb d_M_lateness_91 (by decide) ?_
            exact ih (i + 1) sum (by omega) (by rw [hR, lp_late, if_pos c_102, if_pos c_103, if_pos c_104]) _ _ _ hP hD hS (lv_sub hl [1, 2, 3, 0] rfl)
          · have c_104 : ¬ ((a 7) (i)) < 0 := c_104
            refine lv_aload_n hx hb d_M_lateness_57 rfl (lv_at hl 0 rfl) ?_
            refine pw_get (ci := 7) (v := .ref (bk (11))) hx hb hw i_M hown hK hP (0) (by decide) rfl rfl 12 (by decide) (hw _ kF_M_40) rfl d_M_lateness_58 ?_
            refine lv_iload_n hx hb d_M_lateness_61 rfl (lv_at hl 3 rfl) ?_
            refine pw_iald (n := 200) (f := (a 11)) hx hb hK hP 0 (11) (by decide) rfl rfl (i) rfl (by omega) (by decide) d_M_lateness_62 ?_
            refine lv_aload_n hx hb d_M_lateness_63 rfl (lv_at hl 0 rfl) ?_
            refine pw_get (ci := 7) (v := .ref (bk (7))) hx hb hw i_M hown hK hP (0) (by decide) rfl rfl 8 (by decide) (hw _ kF_M_28) rfl d_M_lateness_64 ?_
            refine lv_iload_n hx hb d_M_lateness_67 rfl (lv_at hl 3 rfl) ?_
            refine pw_iald (n := 200) (f := (a 7)) hx hb hK hP 0 (7) (by decide) rfl rfl (i) rfl (by omega) (by decide) d_M_lateness_68 ?_
            refine lv_icmp_le (tgt := 88) hx hb d_M_lateness_69 (by decide) (fun c_105 => ?_) (fun c_105 => ?_)
            · have c_105 : ((a 11) (i)) ≤ ((a 7) (i)) := c_105
              refine lv_iinc (v := nI (i + 1)) (lv' := [(3, .int (nI (i + 1))), (0, .ref (bk (0))), (1, .int (pt)), (2, .int (sum))]) hx hb d_M_lateness_88 hl (k := 3) rfl (nI_1 _) (by decide) rfl (fun ls hl => ?_)
              refine lv_goto (tgt := 21) hx hb d_M_lateness_91 (by decide) ?_
              exact ih (i + 1) sum (by omega) (by rw [hR, lp_late, if_pos c_102, if_pos c_103, if_neg c_104, if_pos c_105]) _ _ _ hP hD hS (lv_sub hl [1, 2, 3, 0] rfl)
            · have c_105 : ¬ ((a 11) (i)) ≤ ((a 7) (i)) := c_105
              refine lv_iload_n hx hb d_M_lateness_72 rfl (lv_at hl 2 rfl) ?_
              refine lv_aload_n hx hb d_M_lateness_73 rfl (lv_at hl 0 rfl) ?_
              refine pw_get (ci := 7) (v := .ref (bk (11))) hx hb hw i_M hown hK hP (0) (by decide) rfl rfl 12 (by decide) (hw _ kF_M_40) rfl d_M_lateness_74 ?_
              refine lv_iload_n hx hb d_M_lateness_77 rfl (lv_at hl 3 rfl) ?_
              refine pw_iald (n := 200) (f := (a 11)) hx hb hK hP 0 (11) (by decide) rfl rfl (i) rfl (by omega) (by decide) d_M_lateness_78 ?_
              refine lv_aload_n hx hb d_M_lateness_79 rfl (lv_at hl 0 rfl) ?_
              refine pw_get (ci := 7) (v := .ref (bk (7))) hx hb hw i_M hown hK hP (0) (by decide) rfl rfl 8 (by decide) (hw _ kF_M_28) rfl d_M_lateness_80 ?_
              refine lv_iload_n hx hb d_M_lateness_83 rfl (lv_at hl 3 rfl) ?_
              refine pw_iald (n := 200) (f := (a 7)) hx hb hK hP 0 (7) (by decide) rfl rfl (i) rfl (by omega) (by decide) d_M_lateness_84 ?_
              refine lv_isub hx hb d_M_lateness_85 ?_
              refine lv_iadd hx hb d_M_lateness_86 ?_
              refine lv_istore_n (lv' := [(2, .int (sum + (((a 11) (i)) - ((a 7) (i))))), (0, .ref (bk (0))), (1, .int (pt)), (3, .int (nI i))]) hx hb d_M_lateness_87 rfl hl (by decide) rfl (fun ls hl => ?_)
              refine lv_iinc (v := nI (i + 1)) (lv' := [(3, .int (nI (i + 1))), (2, .int (sum + (((a 11) (i)) - ((a 7) (i))))), (0, .ref (bk (0))), (1, .int (pt))]) hx hb d_M_lateness_88 hl (k := 3) rfl (nI_1 _) (by decide) rfl (fun ls hl => ?_)
              refine lv_goto (tgt := 21) hx hb d_M_lateness_91 (by decide) ?_
              exact ih (i + 1) (sum + (((a 11) (i)) - ((a 7) (i)))) (by omega) (by rw [hR, lp_late, if_pos c_102, if_pos c_103, if_neg c_104, if_neg c_105]) _ _ _ hP hD hS (lv_sub hl [2, 3, 1, 0] rfl)
def s_M_lateness (th : Int32) (z : Nat → Nat) (a : Nat → Nat → Int32) (pt : Int32) : MS := (if 0 ≤ pt ∧ pt ≤ 9 then (lp_late 0 z a pt (z 0) 0 0) else (-1, 0, z, a))
set_option maxHeartbeats 4000000 in
set_option maxRecDepth 100000 in
theorem c_M_lateness (l : Launch) (D : va_G) (cs : Nat → ClassId) (bk : Nat → Nat) (sz : Nat) (th : Int32) (z : Nat → Nat) (a : Nat → Nat → Int32) (hz : z 0 ≤ 200) (pt : Int32) : Met l y_M_lateness w_M_lateness ({ frames := 1, cells := 0, slots := 0, locals := 22 }) (va_Pc [.ref (bk (0)), .int (pt)] (PB D classes (TY cs) 28 bk (MW cs th z a bk) sz)) (va_Qi (Mr cs bk (s_M_lateness th z a pt)) (Wd D classes (TY cs) (AA 28 bk sz)) (AA 28 bk sz)) 0 0 (AA 28 bk sz) := by
  refine pw_entry (cc := b_M_lateness) (maxL := 4) (ret := (some .int)) (by decide +kernel) rfl (Nat.le_of_ble_eq_true rfl) ?_
  intro p_ e_ s m below_ meth_ c_ ls hx hb hr hml hts hown hlocks hin hsz hP hK hD hS hA hN hl
  have hw : ∀ w ∈ WA, w.before _ s = true := fun w h => hts w (List.mem_cons_of_mem _ h)
  have hown : s.vm.findClass "IssueRowsModel" = some m.cls := hown
  have hl : lv_has ls 4 [(0, .ref (bk (0))), (1, .int (pt))] := hl
  refine lv_aload_n hx hb d_M_lateness_0 rfl (lv_at hl 0 rfl) ?_
  refine lv_iconst (v := 0) hx hb d_M_lateness_1 (by decide) ?_
  refine pw_put (ci := 7) (v := .int (0)) (ty := .int) (fs' := [.int (0), .ref (bk (1)), .ref (bk (2)), .ref (bk (3)), .int (nI (z 0)), .ref (bk (4)), .ref (bk (5)), .ref (bk (6)), .ref (bk (7)), .ref (bk (8)), .ref (bk (9)), .ref (bk (10)), .ref (bk (11)), .ref (bk (12)), .ref (bk (13)), .ref (bk (14)), .ref (bk (15)), .ref (bk (16)), .ref (bk (17)), .ref (bk (18)), .ref (bk (19)), .ref (bk (20)), .int (nI (z 1)), .ref (bk (21)), .ref (bk (22)), .int (nI (z 2)), .int (nI (z 3)), .ref (bk (23)), .ref (bk (24)), .ref (bk (25)), .int (nI (z 4)), .ref (bk (26)), .ref (bk (27))]) hx hb hw i_M t_M t_M_ok n_M hown hK hP hD hS (0) (by decide) rfl rfl 0 (by decide) (hw _ kF_M_92) rfl (t_M_ok 0 (by decide)) rfl rfl (Nat.le_of_ble_eq_true rfl) rfl d_M_lateness_2 (fun cw_1 H locs ecw_1 hP hD hS => ?_)
  obtain rfl : cw_1 = MW cs 0 z a bk := by rw [ecw_1]; exact MW_obj 0 z
  refine lv_iload_n hx hb d_M_lateness_5 rfl (lv_at hl 1 rfl) ?_
  refine lv_iconst (v := 0) hx hb d_M_lateness_6 (by decide) ?_
  refine lv_bipush (v := 9) hx hb d_M_lateness_7 (by decide) ?_
  refine pw_callSi (va_runS (As := [.int (pt), .int (0), .int (9)]) (rest := []) ⟨hx, hb, hml, hown, hw⟩ (c_M_in l D cs bk H.size 0 z a pt 0 9) (cw_S 3 hw kM_M_97 kS_M_in kZ_M kC_M_in rfl rfl ⟨rfl, by decide, by decide, by decide +kernel⟩ ⟨Nat.le_of_ble_eq_true rfl, Nat.le_of_ble_eq_true rfl⟩) (pw_preS hN hK hP hD) rfl rfl hl.1 rfl (lv_room (Nat.le_of_ble_eq_true rfl)) d_M_lateness_9 ⟨Nat.le_of_ble_eq_true rfl, Nat.le_of_ble_eq_true rfl⟩) (fun r_2 hr_2 => ?_)
  have hr_2 : r_2 = bI (0 ≤ pt ∧ pt ≤ 9) := hr_2
  subst hr_2
  refine pw_ifne (tgt := 17) hx hb d_M_lateness_12 (by decide) (fun c_3 => ?_) (fun c_3 => ?_)
  · have c_3 : 0 ≤ pt ∧ pt ≤ 9 := c_3
    refine lv_iconst (v := 0) hx hb d_M_lateness_17 (by decide) ?_
    refine lv_istore_n (lv' := [(2, .int (0)), (0, .ref (bk (0))), (1, .int (pt))]) hx hb d_M_lateness_18 rfl hl (by decide) rfl (fun ls hl => ?_)
    refine lv_iconst (v := 0) hx hb d_M_lateness_19 (by decide) ?_
    refine lv_istore_n (lv' := [(3, .int (0)), (2, .int (0)), (0, .ref (bk (0))), (1, .int (pt))]) hx hb d_M_lateness_20 rfl hl (by decide) rfl (fun ls hl => ?_)
    exact l_M_lateness 0 z a hz pt _ hx hb hr hml hw hown hlocks hA hN hK (z 0) 0 0 (by omega) (by rw [s_M_lateness, if_pos c_3]) _ _ _ hP hD hS (lv_sub hl [2, 3, 1, 0] rfl)
  · have c_3 : ¬ (0 ≤ pt ∧ pt ≤ 9) := c_3
    refine lv_iconst (v := -1) hx hb d_M_lateness_15 (by decide) ?_
    exact W.iret (v := -1) hx hb hr (fun t ht hW => ⟨⟨-1, (28, bk, MW cs 0 z a bk), rfl, Mr_of (by rw [s_M_lateness, if_neg c_3]), by rw [ht]; exact hP, va_K.moved hW.alike hK, hD⟩, hS.F ht⟩) hS.2.2 d_M_lateness_16

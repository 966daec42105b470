def lp_mb2 (pt ab : Int32) : Nat → Int32 → (Nat → Nat) → (Nat → Nat → Int32) → Nat → MS
  | 0, th, z, a, i => (nI (z 2), th, va_up z 2 ((z 2) + 1), a)
  | k + 1, th, z, a, i => (if ((a 4) (i)) = pt then (if ((a 6) (i)) = 3 then (if ((a 5) (i)) ≤ ab then (lp_mb2 pt ab k th z (va_up (va_up a 6 (upd (a 6) (i) (5))) 12 (upd (a 12) (i) (nI (z 2)))) (i + 1)) else (lp_mb2 pt ab k th z a (i + 1))) else (lp_mb2 pt ab k th z a (i + 1))) else (lp_mb2 pt ab k th z a (i + 1)))
set_option maxHeartbeats 4000000 in
set_option maxRecDepth 100000 in
theorem l_M_bind2 {p_ : Program} {l : Launch} {e_ : Env} {s : State} {m : MethodId} {below_ : List Frame} {meth_ : Method} {c_ : Code} {D : va_G} {cs : Nat → ClassId} {bk : Nat → Nat} {sz : Nat} (n : Nat) (hn : n ≤ 200) (pt : Int32) (nb : Nat) (ab : Int32) (R : MS) (hx : p_.tables.exec = Jvm.exec) (hb : c_.code = b_M_bind) (hr : meth_.sig.returnType = (some .int)) (hml : c_.maxLocals = 6) (hw : ∀ w ∈ WA, w.before ([.ref (bk (0)), .int (pt), .int (nI nb)] : List Value).toArray s = true) (hown : s.vm.findClass "IssueRowsModel" = some m.cls) (hlocks : meth_.locks = false) (hA : ∀ q, s.heap.size ≤ q → AA 28 bk sz q) (hN : NN s) (hK : va_K D classes (TY cs) s) : ∀ (k : Nat) (th : Int32) (z : Nat → Nat) (a : Nat → Nat → Int32) (i : Nat), (i + k = n) → (z 0 = n) → (R = lp_mb2 pt ab k th z a i) → ∀ (H : Heap) (locs : List Loc) (ls : Array Slot), va_P D classes (wl 28 bk (MW cs th z a bk)) H → va_D (AA 28 bk sz) (wl 28 bk (MW cs th z a bk)) → va_S (AA 28 bk sz) s.heap H locs → lv_has ls 6 [(0, .ref (bk (0))), (1, .int (pt)), (2, .int (nI nb)), (3, .int (ab)), (4, .int (nI i))] → W p_ l e_ ({ frames := 1, cells := 0, slots := 0, locals := 24 }) s m ([.ref (bk (0)), .int (pt), .int (nI nb)] : List Value).toArray below_ meth_ c_ H locs 0 0 (MQ below_ (va_Qi (Mr cs bk R) (Wd D classes (TY cs) (AA 28 bk sz)) (AA 28 bk sz)) ([.ref (bk (0)), .int (pt), .int (nI nb)] : List Value).toArray s 0 0 (AA 28 bk sz)) (F0 m 95 ls []) := by
  intro k
  induction k with
  | zero =>
    intro th z a i hf hz0 hR H locs ls hP hD hS hl
    refine lv_iload hx hb d_M_bind_95 (lv_at hl 4 rfl) ?_
    refine lv_aload_n hx hb d_M_bind_97 rfl (lv_at hl 0 rfl) ?_
    refine pw_get (ci := 7) (v := .int (nI (z 0))) hx hb hw i_M hown hK hP (0) (by decide) rfl rfl 4 (by decide) (hw _ kF_M_101) rfl d_M_bind_98 ?_
    refine lv_icmp_ge (tgt := 165) hx hb d_M_bind_101 (by decide) (fun c_1 => ?_) (fun c_1 => ?_)
    · have c_1 : (nI (z 0)) ≤ (nI i) := c_1
      refine lv_aload_n hx hb d_M_bind_165 rfl (lv_at hl 0 rfl) ?_
      refine lv_dup hx hb d_M_bind_166 rfl ?_
      refine pw_get (ci := 7) (v := .int (nI (z 2))) hx hb hw i_M hown hK hP (0) (by decide) rfl rfl 25 (by decide) (hw _ kF_M_135) rfl d_M_bind_167 ?_
      refine lv_iconst (v := 1) hx hb d_M_bind_170 (by decide) ?_
      refine lv_iadd hx hb d_M_bind_171 ?_
      rw [show (nI (z 2)) + 1 = nI ((z 2) + 1) from nI_1 _]
      refine pw_put (ci := 7) (v := .int (nI ((z 2) + 1))) (ty := .int) (fs' := [.int (th), .ref (bk (1)), .ref (bk (2)), .ref (bk (3)), .int (nI (z 0)), .ref (bk (4)), .ref (bk (5)), .ref (bk (6)), .ref (bk (7)), .ref (bk (8)), .ref (bk (9)), .ref (bk (10)), .ref (bk (11)), .ref (bk (12)), .ref (bk (13)), .ref (bk (14)), .ref (bk (15)), .ref (bk (16)), .ref (bk (17)), .ref (bk (18)), .ref (bk (19)), .ref (bk (20)), .int (nI (z 1)), .ref (bk (21)), .ref (bk (22)), .int (nI ((z 2) + 1)), .int (nI (z 3)), .ref (bk (23)), .ref (bk (24)), .ref (bk (25)), .int (nI (z 4)), .ref (bk (26)), .ref (bk (27))]) hx hb hw i_M t_M t_M_ok n_M hown hK hP hD hS (0) (by decide) rfl rfl 25 (by decide) (hw _ kF_M_135) rfl (t_M_ok 25 (by decide)) rfl rfl (Nat.le_of_ble_eq_true rfl) rfl d_M_bind_172 (fun cw_2 H locs ecw_2 hP hD hS => ?_)
      obtain rfl : cw_2 = MW cs th (va_up z 2 ((z 2) + 1)) a bk := by rw [ecw_2]; exact MW_obj th (va_up z 2 ((z 2) + 1))
      refine lv_aload_n hx hb d_M_bind_175 rfl (lv_at hl 0 rfl) ?_
      refine pw_get (ci := 7) (v := .int (nI ((z 2) + 1))) hx hb hw i_M hown hK hP (0) (by decide) rfl rfl 25 (by decide) (hw _ kF_M_135) rfl d_M_bind_176 ?_
      refine lv_iconst (v := 1) hx hb d_M_bind_179 (by decide) ?_
      refine lv_isub hx hb d_M_bind_180 ?_
      rw [show (nI ((z 2) + 1)) - 1 = nI (z 2) from nI_pred _]
      exact W.iret (v := nI (z 2)) hx hb hr (fun t ht hW => ⟨⟨nI (z 2), (28, bk, MW cs th (va_up z 2 ((z 2) + 1)) a bk), rfl, Mr_of (by rw [hR, lp_mb2]), by rw [ht]; exact hP, va_K.moved hW.alike hK, hD⟩, hS.F ht⟩) hS.2.2 d_M_bind_181
    · have c_1 : ¬ (nI (z 0)) ≤ (nI i) := c_1
      exact absurd ((nI_leI (by omega) (by omega)).mpr (by omega)) c_1
  | succ k ih =>
    intro th z a i hf hz0 hR H locs ls hP hD hS hl
    refine lv_iload hx hb d_M_bind_95 (lv_at hl 4 rfl) ?_
    refine lv_aload_n hx hb d_M_bind_97 rfl (lv_at hl 0 rfl) ?_
    refine pw_get (ci := 7) (v := .int (nI (z 0))) hx hb hw i_M hown hK hP (0) (by decide) rfl rfl 4 (by decide) (hw _ kF_M_101) rfl d_M_bind_98 ?_
    refine lv_icmp_ge (tgt := 165) hx hb d_M_bind_101 (by decide) (fun c_101 => ?_) (fun c_101 => ?_)
    · have c_101 : (nI (z 0)) ≤ (nI i) := c_101
      exact absurd ((nI_leI (by omega) (by omega)).mp c_101) (by omega)
    · have c_101 : ¬ (nI (z 0)) ≤ (nI i) := c_101
      refine lv_aload_n hx hb d_M_bind_104 rfl (lv_at hl 0 rfl) ?_
      refine pw_get (ci := 7) (v := .ref (bk (4))) hx hb hw i_M hown hK hP (0) (by decide) rfl rfl 5 (by decide) (hw _ kF_M_19) rfl d_M_bind_105 ?_
      refine lv_iload hx hb d_M_bind_108 (lv_at hl 4 rfl) ?_
      refine pw_iald (n := 200) (f := (a 4)) hx hb hK hP 0 (4) (by decide) rfl rfl (i) rfl (by omega) (by decide) d_M_bind_110 ?_
      refine lv_iload_n hx hb d_M_bind_111 rfl (lv_at hl 1 rfl) ?_
      refine lv_icmp_ne (tgt := 159) hx hb d_M_bind_112 (by decide) (fun c_102 => ?_) (fun c_102 => ?_)
      · have c_102 : ¬ ((a 4) (i)) = pt := c_102
        refine lv_iinc (v := nI (i + 1)) (lv' := [(4, .int (nI (i + 1))), (0, .ref (bk (0))), (1, .int (pt)), (2, .int (nI nb)), (3, .int (ab))]) hx hb d_M_bind_159 hl (k := 4) rfl (nI_1 _) (by decide) rfl (fun ls hl => ?_)
        refine lv_goto (tgt := 95) hx hb d_M_bind_162 (by decide) ?_
        exact ih th z a (i + 1) (by omega) hz0 (by rw [hR, lp_mb2, if_neg c_102]) _ _ _ hP hD hS (lv_sub hl [1, 2, 3, 4, 0] rfl)
      · have c_102 : ((a 4) (i)) = pt := c_102
        refine lv_aload_n hx hb d_M_bind_115 rfl (lv_at hl 0 rfl) ?_
        refine pw_get (ci := 7) (v := .ref (bk (6))) hx hb hw i_M hown hK hP (0) (by decide) rfl rfl 7 (by decide) (hw _ kF_M_25) rfl d_M_bind_116 ?_
        refine lv_iload hx hb d_M_bind_119 (lv_at hl 4 rfl) ?_
        refine pw_iald (n := 200) (f := (a 6)) hx hb hK hP 0 (6) (by decide) rfl rfl (i) rfl (by omega) (by decide) d_M_bind_121 ?_
        refine lv_iconst (v := 3) hx hb d_M_bind_122 (by decide) ?_
        refine lv_icmp_ne (tgt := 159) hx hb d_M_bind_123 (by decide) (fun c_103 => ?_) (fun c_103 => ?_)
        · have c_103 : ¬ ((a 6) (i)) = 3 := c_103
          refine lv_iinc (v := nI (i + 1)) (lv' := [(4, .int (nI (i + 1))), (0, .ref (bk (0))), (1, .int (pt)), (2, .int (nI nb)), (3, .int (ab))]) hx hb d_M_bind_159 hl (k := 4) rfl (nI_1 _) (by decide) rfl (fun ls hl => ?_)
          refine lv_goto (tgt := 95) hx hb d_M_bind_162 (by decide) ?_
          exact ih th z a (i + 1) (by omega) hz0 (by rw [hR, lp_mb2, if_pos c_102, if_neg c_103]) _ _ _ hP hD hS (lv_sub hl [1, 2, 3, 4, 0] rfl)
        · have c_103 : ((a 6) (i)) = 3 := c_103
          refine lv_aload_n hx hb d_M_bind_126 rfl (lv_at hl 0 rfl) ?_
          refine pw_get (ci := 7) (v := .ref (bk (5))) hx hb hw i_M hown hK hP (0) (by decide) rfl rfl 6 (by decide) (hw _ kF_M_22) rfl d_M_bind_127 ?_
          refine lv_iload hx hb d_M_bind_130 (lv_at hl 4 rfl) ?_
          refine pw_iald (n := 200) (f := (a 5)) hx hb hK hP 0 (5) (by decide) rfl rfl (i) rfl (by omega) (by decide) d_M_bind_132 ?_
          refine lv_iload_n hx hb d_M_bind_133 rfl (lv_at hl 3 rfl) ?_
          refine lv_icmp_le (tgt := 140) hx hb d_M_bind_134 (by decide) (fun c_104 => ?_) (fun c_104 => ?_)
          · have c_104 : ((a 5) (i)) ≤ ab := c_104
            refine lv_aload_n hx hb d_M_bind_140 rfl (lv_at hl 0 rfl) ?_
            refine pw_get (ci := 7) (v := .ref (bk (6))) hx hb hw i_M hown hK hP (0) (by decide) rfl rfl 7 (by decide) (hw _ kF_M_25) rfl d_M_bind_141 ?_
            refine lv_iload hx hb d_M_bind_144 (lv_at hl 4 rfl) ?_
            refine lv_iconst (v := 5) hx hb d_M_bind_146 (by decide) ?_
            refine pw_iast (n := 200) (f := (a 6)) hx hb hK hP hD hS 0 (6) (by decide) rfl rfl (i) rfl (by omega) (by decide) d_M_bind_147 (fun cw_105 H locs ecw_105 hP hD hS => ?_)
            obtain rfl : cw_105 = MW cs th z (va_up a 6 (upd (a 6) (i) (5))) bk := by rw [ecw_105]; exact MW_arr 6 (by decide) (upd (a 6) (i) (5))
            refine lv_aload_n hx hb d_M_bind_148 rfl (lv_at hl 0 rfl) ?_
            refine pw_get (ci := 7) (v := .ref (bk (12))) hx hb hw i_M hown hK hP (0) (by decide) rfl rfl 13 (by decide) (hw _ kF_M_43) rfl d_M_bind_149 ?_
            refine lv_iload hx hb d_M_bind_152 (lv_at hl 4 rfl) ?_
            refine lv_aload_n hx hb d_M_bind_154 rfl (lv_at hl 0 rfl) ?_
            refine pw_get (ci := 7) (v := .int (nI (z 2))) hx hb hw i_M hown hK hP (0) (by decide) rfl rfl 25 (by decide) (hw _ kF_M_135) rfl d_M_bind_155 ?_
            refine pw_iast (n := 200) (f := (a 12)) hx hb hK hP hD hS 0 (12) (by decide) rfl rfl (i) rfl (by omega) (by decide) d_M_bind_158 (fun cw_106 H locs ecw_106 hP hD hS => ?_)
            obtain rfl : cw_106 = MW cs th z (va_up (va_up a 6 (upd (a 6) (i) (5))) 12 (upd (a 12) (i) (nI (z 2)))) bk := by rw [ecw_106]; exact MW_arr 12 (by decide) (upd (a 12) (i) (nI (z 2)))
            refine lv_iinc (v := nI (i + 1)) (lv' := [(4, .int (nI (i + 1))), (0, .ref (bk (0))), (1, .int (pt)), (2, .int (nI nb)), (3, .int (ab))]) hx hb d_M_bind_159 hl (k := 4) rfl (nI_1 _) (by decide) rfl (fun ls hl => ?_)
            refine lv_goto (tgt := 95) hx hb d_M_bind_162 (by decide) ?_
            exact ih th z (va_up (va_up a 6 (upd (a 6) (i) (5))) 12 (upd (a 12) (i) (nI (z 2)))) (i + 1) (by omega) hz0 (by rw [hR, lp_mb2, if_pos c_102, if_pos c_103, if_pos c_104]) _ _ _ hP hD hS (lv_sub hl [1, 2, 3, 4, 0] rfl)
          · have c_104 : ¬ ((a 5) (i)) ≤ ab := c_104
            refine lv_goto (tgt := 159) hx hb d_M_bind_137 (by decide) ?_
            refine lv_iinc (v := nI (i + 1)) (lv' := [(4, .int (nI (i + 1))), (0, .ref (bk (0))), (1, .int (pt)), (2, .int (nI nb)), (3, .int (ab))]) hx hb d_M_bind_159 hl (k := 4) rfl (nI_1 _) (by decide) rfl (fun ls hl => ?_)
            refine lv_goto (tgt := 95) hx hb d_M_bind_162 (by decide) ?_
            exact ih th z a (i + 1) (by omega) hz0 (by rw [hR, lp_mb2, if_pos c_102, if_pos c_103, if_neg c_104]) _ _ _ hP hD hS (lv_sub hl [1, 2, 3, 4, 0] rfl)
def lp_mb1 (th : Int32) (z : Nat → Nat) (a : Nat → Nat → Int32) (pt : Int32) (nb : Nat) : Nat → Int32 → Nat → MS
  | 0, ab, kk => (if (nI (z 2)) = 40 then (-4, th, z, a) else (lp_mb2 pt ab (z 0) th z a 0))
  | k + 1, ab, kk => (if (lp_nextHere a pt ab (z 0) 0 (-1)) < 0 then (-3, th, z, a) else (if 0 ≤ a 19 (lp_nextHere a pt ab (z 0) 0 (-1)).toNatClampNeg ∧ a 19 (lp_nextHere a pt ab (z 0) 0 (-1)).toNatClampNeg < a 16 (lp_nextHere a pt ab (z 0) 0 (-1)).toNatClampNeg then (-3, th, z, a) else (lp_mb1 th z a pt nb k ((a 5) (lp_nextHere a pt ab (z 0) 0 (-1)).toNatClampNeg) (kk + 1))))
set_option maxHeartbeats 4000000 in
set_option maxRecDepth 100000 in
theorem l_M_bind1 {p_ : Program} {l : Launch} {e_ : Env} {s : State} {m : MethodId} {below_ : List Frame} {meth_ : Method} {c_ : Code} {D : va_G} {cs : Nat → ClassId} {bk : Nat → Nat} {sz : Nat} (th : Int32) (z : Nat → Nat) (a : Nat → Nat → Int32) (hz : z 0 ≤ 200) (pt : Int32) (nb : Nat) (hnb : nb ≤ 50) (R : MS) (hx : p_.tables.exec = Jvm.exec) (hb : c_.code = b_M_bind) (hr : meth_.sig.returnType = (some .int)) (hml : c_.maxLocals = 6) (hw : ∀ w ∈ WA, w.before ([.ref (bk (0)), .int (pt), .int (nI nb)] : List Value).toArray s = true) (hown : s.vm.findClass "IssueRowsModel" = some m.cls) (hlocks : meth_.locks = false) (hA : ∀ q, s.heap.size ≤ q → AA 28 bk sz q) (hN : NN s) (hK : va_K D classes (TY cs) s) : ∀ (k : Nat) (ab : Int32) (kk : Nat), (kk + k = nb) → (R = lp_mb1 th z a pt nb k ab kk) → ∀ (H : Heap) (locs : List Loc) (ls : Array Slot), va_P D classes (wl 28 bk (MW cs th z a bk)) H → va_D (AA 28 bk sz) (wl 28 bk (MW cs th z a bk)) → va_S (AA 28 bk sz) s.heap H locs → lv_has ls 6 [(0, .ref (bk (0))), (1, .int (pt)), (2, .int (nI nb)), (3, .int (ab)), (4, .int (nI kk))] → W p_ l e_ ({ frames := 1, cells := 0, slots := 0, locals := 24 }) s m ([.ref (bk (0)), .int (pt), .int (nI nb)] : List Value).toArray below_ meth_ c_ H locs 0 0 (MQ below_ (va_Qi (Mr cs bk R) (Wd D classes (TY cs) (AA 28 bk sz)) (AA 28 bk sz)) ([.ref (bk (0)), .int (pt), .int (nI nb)] : List Value).toArray s 0 0 (AA 28 bk sz)) (F0 m 35 ls []) := by
  intro k
  induction k with
  | zero =>
    intro ab kk hf hR H locs ls hP hD hS hl
    refine lv_iload hx hb d_M_bind_35 (lv_at hl 4 rfl) ?_
    refine lv_iload_n hx hb d_M_bind_37 rfl (lv_at hl 2 rfl) ?_
    refine lv_icmp_ge (tgt := 80) hx hb d_M_bind_38 (by decide) (fun c_1 => ?_) (fun c_1 => ?_)
    · have c_1 : (nI nb) ≤ (nI kk) := c_1
      refine lv_aload_n hx hb d_M_bind_80 rfl (lv_at hl 0 rfl) ?_
      refine pw_get (ci := 7) (v := .int (nI (z 2))) hx hb hw i_M hown hK hP (0) (by decide) rfl rfl 25 (by decide) (hw _ kF_M_135) rfl d_M_bind_81 ?_
      refine lv_bipush (v := 40) hx hb d_M_bind_84 (by decide) ?_
      refine lv_icmp_ne (tgt := 92) hx hb d_M_bind_86 (by decide) (fun c_2 => ?_) (fun c_2 => ?_)
      · have c_2 : ¬ (nI (z 2)) = 40 := c_2
        refine lv_iconst (v := 0) hx hb d_M_bind_92 (by decide) ?_
        refine lv_istore (lv' := [(4, .int (0)), (0, .ref (bk (0))), (1, .int (pt)), (2, .int (nI nb)), (3, .int (ab))]) hx hb d_M_bind_93 hl (by decide) rfl (fun ls hl => ?_)
        exact l_M_bind2 (z 0) hz pt nb ab _ hx hb hr hml hw hown hlocks hA hN hK (z 0) th z a 0 (by omega) rfl (by rw [hR, lp_mb1, if_neg c_2]) _ _ _ hP hD hS (lv_sub hl [1, 2, 3, 4, 0] rfl)
      · have c_2 : (nI (z 2)) = 40 := c_2
        refine lv_bipush (v := -4) hx hb d_M_bind_89 (by decide) ?_
        exact W.iret (v := -4) hx hb hr (fun t ht hW => ⟨⟨-4, (28, bk, MW cs th z a bk), rfl, Mr_of (by rw [hR, lp_mb1, if_pos c_2]), by rw [ht]; exact hP, va_K.moved hW.alike hK, hD⟩, hS.F ht⟩) hS.2.2 d_M_bind_91
    · have c_1 : ¬ (nI nb) ≤ (nI kk) := c_1
      exact absurd ((nI_leI (by omega) (by omega)).mpr (by omega)) c_1
  | succ k ih =>
    intro ab kk hf hR H locs ls hP hD hS hl
    refine lv_iload hx hb d_M_bind_35 (lv_at hl 4 rfl) ?_
    refine lv_iload_n hx hb d_M_bind_37 rfl (lv_at hl 2 rfl) ?_
    refine lv_icmp_ge (tgt := 80) hx hb d_M_bind_38 (by decide) (fun c_101 => ?_) (fun c_101 => ?_)
    · have c_101 : (nI nb) ≤ (nI kk) := c_101
      exact absurd ((nI_leI (by omega) (by omega)).mp c_101) (by omega)
    · have c_101 : ¬ (nI nb) ≤ (nI kk) := c_101
      refine lv_aload_n hx hb d_M_bind_41 rfl (lv_at hl 0 rfl) ?_
      refine lv_iload_n hx hb d_M_bind_42 rfl (lv_at hl 1 rfl) ?_
      refine lv_iload_n hx hb d_M_bind_43 rfl (lv_at hl 3 rfl) ?_
      refine pw_callSi (va_runV (As := [.int (pt), .int (ab)]) (rest := []) ⟨hx, hb, hml, hown, hw⟩ (c_M_nextHere l D cs bk H.size th z a hz pt ab) (cw_V 2 hw kM_M_131 kI_M_nextHere kV_M_nextHere kZ_M kC_M_nextHere rfl rfl ⟨rfl, by decide, by decide, by decide +kernel⟩ ⟨Nat.le_of_ble_eq_true rfl, Nat.le_of_ble_eq_true rfl⟩) (pw_preV hN hK hP hD (0) (by decide) rfl rfl) rfl rfl hl.1 rfl (lv_room (Nat.le_of_ble_eq_true rfl)) d_M_bind_44 ⟨Nat.le_of_ble_eq_true rfl, Nat.le_of_ble_eq_true rfl⟩) (fun r_102 hr_102 => ?_)
      have hr_102 : r_102 = lp_nextHere a pt ab (z 0) 0 (-1) := hr_102
      subst hr_102
      refine lv_istore (lv' := [(5, .int (lp_nextHere a pt ab (z 0) 0 (-1))), (0, .ref (bk (0))), (1, .int (pt)), (2, .int (nI nb)), (3, .int (ab)), (4, .int (nI kk))]) hx hb d_M_bind_47 hl (by decide) rfl (fun ls hl => ?_)
      refine lv_iload hx hb d_M_bind_49 (lv_at hl 0 rfl) ?_
      refine lv_if_lt (tgt := 63) hx hb d_M_bind_51 (by decide) (fun c_103 => ?_) (fun c_103 => ?_)
      · have c_103 : (lp_nextHere a pt ab (z 0) 0 (-1)) < 0 := c_103
        refine lv_bipush (v := -3) hx hb d_M_bind_63 (by decide) ?_
        exact W.iret (v := -3) hx hb hr (fun t ht hW => ⟨⟨-3, (28, bk, MW cs th z a bk), rfl, Mr_of (by rw [hR, lp_mb1, if_pos c_103]), by rw [ht]; exact hP, va_K.moved hW.alike hK, hD⟩, hS.F ht⟩) hS.2.2 d_M_bind_65
      · have c_103 : ¬ (lp_nextHere a pt ab (z 0) 0 (-1)) < 0 := c_103
        have hv := ((nextHere_sp (a := a) (pt := pt) (x := ab) (n := z 0) (by omega)).elim (fun q => absurd q c_103) (fun q => q.1) : vp_in (lp_nextHere a pt ab (z 0) 0 (-1)) (z 0))
        refine lv_aload_n hx hb d_M_bind_54 rfl (lv_at hl 1 rfl) ?_
        refine lv_iload hx hb d_M_bind_55 (lv_at hl 0 rfl) ?_
        refine pw_callSi (va_runV (As := [.int (lp_nextHere a pt ab (z 0) 0 (-1))]) (rest := []) ⟨hx, hb, hml, hown, hw⟩ (c_M_isHeldI l D cs bk H.size th z a (lp_nextHere a pt ab (z 0) 0 (-1)) (vp_mono hv hz)) (cw_V 1 hw kM_M_128 kI_M_isHeld kV_M_isHeld kZ_M kC_M_isHeld rfl rfl ⟨rfl, by decide, by decide, by decide +kernel⟩ ⟨Nat.le_of_ble_eq_true rfl, Nat.le_of_ble_eq_true rfl⟩) (pw_preV hN hK hP hD (0) (by decide) rfl rfl) rfl rfl hl.1 rfl (lv_room (Nat.le_of_ble_eq_true rfl)) d_M_bind_57 ⟨Nat.le_of_ble_eq_true rfl, Nat.le_of_ble_eq_true rfl⟩) (fun r_104 hr_104 => ?_)
        have hr_104 : r_104 = bI (0 ≤ a 19 (lp_nextHere a pt ab (z 0) 0 (-1)).toNatClampNeg ∧ a 19 (lp_nextHere a pt ab (z 0) 0 (-1)).toNatClampNeg < a 16 (lp_nextHere a pt ab (z 0) 0 (-1)).toNatClampNeg) := hr_104
        subst hr_104
        refine pw_ifeq (tgt := 66) hx hb d_M_bind_60 (by decide) (fun c_105 => ?_) (fun c_105 => ?_)
        · have c_105 : ¬ (0 ≤ a 19 (lp_nextHere a pt ab (z 0) 0 (-1)).toNatClampNeg ∧ a 19 (lp_nextHere a pt ab (z 0) 0 (-1)).toNatClampNeg < a 16 (lp_nextHere a pt ab (z 0) 0 (-1)).toNatClampNeg) := c_105
          refine lv_aload_n hx hb d_M_bind_66 rfl (lv_at hl 1 rfl) ?_
          refine pw_get (ci := 7) (v := .ref (bk (5))) hx hb hw i_M hown hK hP (0) (by decide) rfl rfl 6 (by decide) (hw _ kF_M_22) rfl d_M_bind_67 ?_
          refine lv_iload hx hb d_M_bind_70 (lv_at hl 0 rfl) ?_
          refine pw_ialdC (n := 200) (f := (a 5)) hx hb hK hP 0 (5) (by decide) rfl rfl (vp_mono hv hz) d_M_bind_72 ?_
          refine lv_istore_n (lv' := [(3, .int ((a 5) (lp_nextHere a pt ab (z 0) 0 (-1)).toNatClampNeg)), (5, .int (lp_nextHere a pt ab (z 0) 0 (-1))), (0, .ref (bk (0))), (1, .int (pt)), (2, .int (nI nb)), (4, .int (nI kk))]) hx hb d_M_bind_73 rfl hl (by decide) rfl (fun ls hl => ?_)
          refine lv_iinc (v := nI (kk + 1)) (lv' := [(4, .int (nI (kk + 1))), (3, .int ((a 5) (lp_nextHere a pt ab (z 0) 0 (-1)).toNatClampNeg)), (5, .int (lp_nextHere a pt ab (z 0) 0 (-1))), (0, .ref (bk (0))), (1, .int (pt)), (2, .int (nI nb))]) hx hb d_M_bind_74 hl (k := 5) rfl (nI_1 _) (by decide) rfl (fun ls hl => ?_)
          refine lv_goto (tgt := 35) hx hb d_M_bind_77 (by decide) ?_
          exact ih ((a 5) (lp_nextHere a pt ab (z 0) 0 (-1)).toNatClampNeg) (kk + 1) (by omega) (by rw [hR, lp_mb1, if_neg c_103, if_neg c_105]) _ _ _ hP hD hS (lv_sub hl [3, 4, 5, 1, 0] rfl)
        · have c_105 : 0 ≤ a 19 (lp_nextHere a pt ab (z 0) 0 (-1)).toNatClampNeg ∧ a 19 (lp_nextHere a pt ab (z 0) 0 (-1)).toNatClampNeg < a 16 (lp_nextHere a pt ab (z 0) 0 (-1)).toNatClampNeg := c_105
          refine lv_bipush (v := -3) hx hb d_M_bind_63 (by decide) ?_
          exact W.iret (v := -3) hx hb hr (fun t ht hW => ⟨⟨-3, (28, bk, MW cs th z a bk), rfl, Mr_of (by rw [hR, lp_mb1, if_neg c_103, if_pos c_105]), by rw [ht]; exact hP, va_K.moved hW.alike hK, hD⟩, hS.F ht⟩) hS.2.2 d_M_bind_65
def s_M_bind (th : Int32) (z : Nat → Nat) (a : Nat → Nat → Int32) (pt : Int32) (nb : Nat) : MS := (if 0 ≤ pt ∧ pt ≤ 9 then (lp_mb1 0 z a pt nb nb 0 0) else (-1, 0, z, a))
set_option maxHeartbeats 4000000 in
set_option maxRecDepth 100000 in
theorem c_M_bind (l : Launch) (D : va_G) (cs : Nat → ClassId) (bk : Nat → Nat) (sz : Nat) (th : Int32) (z : Nat → Nat) (a : Nat → Nat → Int32) (hz : z 0 ≤ 200) (pt : Int32) (nb : Nat) (hnb : 1 ≤ nb ∧ nb ≤ 50) : Met l y_M_bind w_M_bind ({ frames := 1, cells := 0, slots := 0, locals := 24 }) (va_Pc [.ref (bk (0)), .int (pt), .int (nI nb)] (PB D classes (TY cs) 28 bk (MW cs th z a bk) sz)) (va_Qi (Mr cs bk (s_M_bind th z a pt nb)) (Wd D classes (TY cs) (AA 28 bk sz)) (AA 28 bk sz)) 0 0 (AA 28 bk sz) := by
  refine pw_entry (cc := b_M_bind) (maxL := 6) (ret := (some .int)) (by decide +kernel) rfl (Nat.le_of_ble_eq_true rfl) ?_
  intro p_ e_ s m below_ meth_ c_ ls hx hb hr hml hts hown hlocks hin hsz hP hK hD hS hA hN hl
  have hw : ∀ w ∈ WA, w.before _ s = true := fun w h => hts w (List.mem_cons_of_mem _ h)
  have hown : s.vm.findClass "IssueRowsModel" = some m.cls := hown
  have hl : lv_has ls 6 [(0, .ref (bk (0))), (1, .int (pt)), (2, .int (nI nb))] := hl
  refine lv_aload_n hx hb d_M_bind_0 rfl (lv_at hl 0 rfl) ?_
  refine lv_iconst (v := 0) hx hb d_M_bind_1 (by decide) ?_
  refine pw_put (ci := 7) (v := .int (0)) (ty := .int) (fs' := [.int (0), .ref (bk (1)), .ref (bk (2)), .ref (bk (3)), .int (nI (z 0)), .ref (bk (4)), .ref (bk (5)), .ref (bk (6)), .ref (bk (7)), .ref (bk (8)), .ref (bk (9)), .ref (bk (10)), .ref (bk (11)), .ref (bk (12)), .ref (bk (13)), .ref (bk (14)), .ref (bk (15)), .ref (bk (16)), .ref (bk (17)), .ref (bk (18)), .ref (bk (19)), .ref (bk (20)), .int (nI (z 1)), .ref (bk (21)), .ref (bk (22)), .int (nI (z 2)), .int (nI (z 3)), .ref (bk (23)), .ref (bk (24)), .ref (bk (25)), .int (nI (z 4)), .ref (bk (26)), .ref (bk (27))]) hx hb hw i_M t_M t_M_ok n_M hown hK hP hD hS (0) (by decide) rfl rfl 0 (by decide) (hw _ kF_M_92) rfl (t_M_ok 0 (by decide)) rfl rfl (Nat.le_of_ble_eq_true rfl) rfl d_M_bind_2 (fun cw_1 H locs ecw_1 hP hD hS => ?_)
  obtain rfl : cw_1 = MW cs 0 z a bk := by rw [ecw_1]; exact MW_obj 0 z
  refine lv_iload_n hx hb d_M_bind_5 rfl (lv_at hl 1 rfl) ?_
  refine lv_iconst (v := 0) hx hb d_M_bind_6 (by decide) ?_
  refine lv_bipush (v := 9) hx hb d_M_bind_7 (by decide) ?_
  refine pw_callSi (va_runS (As := [.int (pt), .int (0), .int (9)]) (rest := []) ⟨hx, hb, hml, hown, hw⟩ (c_M_in l D cs bk H.size 0 z a pt 0 9) (cw_S 3 hw kM_M_97 kS_M_in kZ_M kC_M_in rfl rfl ⟨rfl, by decide, by decide, by decide +kernel⟩ ⟨Nat.le_of_ble_eq_true rfl, Nat.le_of_ble_eq_true rfl⟩) (pw_preS hN hK hP hD) rfl rfl hl.1 rfl (lv_room (Nat.le_of_ble_eq_true rfl)) d_M_bind_9 ⟨Nat.le_of_ble_eq_true rfl, Nat.le_of_ble_eq_true rfl⟩) (fun r_2 hr_2 => ?_)
  have hr_2 : r_2 = bI (0 ≤ pt ∧ pt ≤ 9) := hr_2
  subst hr_2
  refine pw_ifne (tgt := 17) hx hb d_M_bind_12 (by decide) (fun c_3 => ?_) (fun c_3 => ?_)
  · have c_3 : 0 ≤ pt ∧ pt ≤ 9 := c_3
    refine lv_iload_n hx hb d_M_bind_17 rfl (lv_at hl 2 rfl) ?_
    refine lv_iconst (v := 1) hx hb d_M_bind_18 (by decide) ?_
    refine lv_bipush (v := 50) hx hb d_M_bind_19 (by decide) ?_
    refine pw_callSi (va_runS (As := [.int (nI nb), .int (1), .int (50)]) (rest := []) ⟨hx, hb, hml, hown, hw⟩ (c_M_in l D cs bk H.size 0 z a (nI nb) 1 50) (cw_S 3 hw kM_M_97 kS_M_in kZ_M kC_M_in rfl rfl ⟨rfl, by decide, by decide, by decide +kernel⟩ ⟨Nat.le_of_ble_eq_true rfl, Nat.le_of_ble_eq_true rfl⟩) (pw_preS hN hK hP hD) rfl rfl hl.1 rfl (lv_room (Nat.le_of_ble_eq_true rfl)) d_M_bind_21 ⟨Nat.le_of_ble_eq_true rfl, Nat.le_of_ble_eq_true rfl⟩) (fun r_4 hr_4 => ?_)
    have hr_4 : r_4 = bI (1 ≤ (nI nb) ∧ (nI nb) ≤ 50) := hr_4
    subst hr_4
    refine pw_ifne (tgt := 30) hx hb d_M_bind_24 (by decide) (fun c_5 => ?_) (fun c_5 => ?_)
    · have c_5 : 1 ≤ (nI nb) ∧ (nI nb) ≤ 50 := c_5
      refine lv_iconst (v := 0) hx hb d_M_bind_30 (by decide) ?_
      refine lv_istore_n (lv' := [(3, .int (0)), (0, .ref (bk (0))), (1, .int (pt)), (2, .int (nI nb))]) hx hb d_M_bind_31 rfl hl (by decide) rfl (fun ls hl => ?_)
      refine lv_iconst (v := 0) hx hb d_M_bind_32 (by decide) ?_
      refine lv_istore (lv' := [(4, .int (0)), (3, .int (0)), (0, .ref (bk (0))), (1, .int (pt)), (2, .int (nI nb))]) hx hb d_M_bind_33 hl (by decide) rfl (fun ls hl => ?_)
      exact l_M_bind1 0 z a hz pt nb hnb.2 _ hx hb hr hml hw hown hlocks hA hN hK nb 0 0 (by omega) (by rw [s_M_bind, if_pos c_3]) _ _ _ hP hD hS (lv_sub hl [2, 3, 4, 1, 0] rfl)
    · have c_5 : ¬ (1 ≤ (nI nb) ∧ (nI nb) ≤ 50) := c_5
      exact absurd (by simp only [Int32.le_iff_toInt_le, nI_toInt (show nb < 2 ^ 31 by omega), T1, T50]; omega) c_5
  · have c_3 : ¬ (0 ≤ pt ∧ pt ≤ 9) := c_3
    refine lv_iconst (v := -1) hx hb d_M_bind_15 (by decide) ?_
    exact W.iret (v := -1) hx hb hr (fun t ht hW => ⟨⟨-1, (28, bk, MW cs 0 z a bk), rfl, Mr_of (by rw [s_M_bind, if_neg c_3]), by rw [ht]; exact hP, va_K.moved hW.alike hK, hD⟩, hS.F ht⟩) hS.2.2 d_M_bind_16
def s_M_bind_out (th : Int32) (z : Nat → Nat) (a : Nat → Nat → Int32) (pt : Int32) (x : Int32) : MS := (if 0 ≤ pt ∧ pt ≤ 9 then (-2, 0, z, a) else (-1, 0, z, a))
set_option maxHeartbeats 4000000 in
set_option maxRecDepth 100000 in
theorem c_M_bind_out (l : Launch) (D : va_G) (cs : Nat → ClassId) (bk : Nat → Nat) (sz : Nat) (th : Int32) (z : Nat → Nat) (a : Nat → Nat → Int32) (pt x : Int32) (ho : ¬ (1 ≤ x ∧ x ≤ 50)) : Met l y_M_bind w_M_bind ({ frames := 1, cells := 0, slots := 0, locals := 24 }) (va_Pc [.ref (bk (0)), .int (pt), .int (x)] (PB D classes (TY cs) 28 bk (MW cs th z a bk) sz)) (va_Qi (Mr cs bk (s_M_bind_out th z a pt x)) (Wd D classes (TY cs) (AA 28 bk sz)) (AA 28 bk sz)) 0 0 (AA 28 bk sz) := by
  refine pw_entry (cc := b_M_bind) (maxL := 6) (ret := (some .int)) (by decide +kernel) rfl (Nat.le_of_ble_eq_true rfl) ?_
  intro p_ e_ s m below_ meth_ c_ ls hx hb hr hml hts hown hlocks hin hsz hP hK hD hS hA hN hl
  have hw : ∀ w ∈ WA, w.before _ s = true := fun w h => hts w (List.mem_cons_of_mem _ h)
  have hown : s.vm.findClass "IssueRowsModel" = some m.cls := hown
  have hl : lv_has ls 6 [(0, .ref (bk (0))), (1, .int (pt)), (2, .int (x))] := hl
  refine lv_aload_n hx hb d_M_bind_0 rfl (lv_at hl 0 rfl) ?_
  refine lv_iconst (v := 0) hx hb d_M_bind_1 (by decide) ?_
  refine pw_put (ci := 7) (v := .int (0)) (ty := .int) (fs' := [.int (0), .ref (bk (1)), .ref (bk (2)), .ref (bk (3)), .int (nI (z 0)), .ref (bk (4)), .ref (bk (5)), .ref (bk (6)), .ref (bk (7)), .ref (bk (8)), .ref (bk (9)), .ref (bk (10)), .ref (bk (11)), .ref (bk (12)), .ref (bk (13)), .ref (bk (14)), .ref (bk (15)), .ref (bk (16)), .ref (bk (17)), .ref (bk (18)), .ref (bk (19)), .ref (bk (20)), .int (nI (z 1)), .ref (bk (21)), .ref (bk (22)), .int (nI (z 2)), .int (nI (z 3)), .ref (bk (23)), .ref (bk (24)), .ref (bk (25)), .int (nI (z 4)), .ref (bk (26)), .ref (bk (27))]) hx hb hw i_M t_M t_M_ok n_M hown hK hP hD hS (0) (by decide) rfl rfl 0 (by decide) (hw _ kF_M_92) rfl (t_M_ok 0 (by decide)) rfl rfl (Nat.le_of_ble_eq_true rfl) rfl d_M_bind_2 (fun cw_1 H locs ecw_1 hP hD hS => ?_)
  obtain rfl : cw_1 = MW cs 0 z a bk := by rw [ecw_1]; exact MW_obj 0 z
  refine lv_iload_n hx hb d_M_bind_5 rfl (lv_at hl 1 rfl) ?_
  refine lv_iconst (v := 0) hx hb d_M_bind_6 (by decide) ?_
  refine lv_bipush (v := 9) hx hb d_M_bind_7 (by decide) ?_
  refine pw_callSi (va_runS (As := [.int (pt), .int (0), .int (9)]) (rest := []) ⟨hx, hb, hml, hown, hw⟩ (c_M_in l D cs bk H.size 0 z a pt 0 9) (cw_S 3 hw kM_M_97 kS_M_in kZ_M kC_M_in rfl rfl ⟨rfl, by decide, by decide, by decide +kernel⟩ ⟨Nat.le_of_ble_eq_true rfl, Nat.le_of_ble_eq_true rfl⟩) (pw_preS hN hK hP hD) rfl rfl hl.1 rfl (lv_room (Nat.le_of_ble_eq_true rfl)) d_M_bind_9 ⟨Nat.le_of_ble_eq_true rfl, Nat.le_of_ble_eq_true rfl⟩) (fun r_2 hr_2 => ?_)
  have hr_2 : r_2 = bI (0 ≤ pt ∧ pt ≤ 9) := hr_2
  subst hr_2
  refine pw_ifne (tgt := 17) hx hb d_M_bind_12 (by decide) (fun c_3 => ?_) (fun c_3 => ?_)
  · have c_3 : 0 ≤ pt ∧ pt ≤ 9 := c_3
    refine lv_iload_n hx hb d_M_bind_17 rfl (lv_at hl 2 rfl) ?_
    refine lv_iconst (v := 1) hx hb d_M_bind_18 (by decide) ?_
    refine lv_bipush (v := 50) hx hb d_M_bind_19 (by decide) ?_
    refine pw_callSi (va_runS (As := [.int (x), .int (1), .int (50)]) (rest := []) ⟨hx, hb, hml, hown, hw⟩ (c_M_in l D cs bk H.size 0 z a x 1 50) (cw_S 3 hw kM_M_97 kS_M_in kZ_M kC_M_in rfl rfl ⟨rfl, by decide, by decide, by decide +kernel⟩ ⟨Nat.le_of_ble_eq_true rfl, Nat.le_of_ble_eq_true rfl⟩) (pw_preS hN hK hP hD) rfl rfl hl.1 rfl (lv_room (Nat.le_of_ble_eq_true rfl)) d_M_bind_21 ⟨Nat.le_of_ble_eq_true rfl, Nat.le_of_ble_eq_true rfl⟩) (fun r_4 hr_4 => ?_)
    have hr_4 : r_4 = bI (1 ≤ x ∧ x ≤ 50) := hr_4
    subst hr_4
    refine pw_ifne (tgt := 30) hx hb d_M_bind_24 (by decide) (fun c_5 => ?_) (fun c_5 => ?_)
    · have c_5 : 1 ≤ x ∧ x ≤ 50 := c_5
      exact absurd c_5 ho
    · have c_5 : ¬ (1 ≤ x ∧ x ≤ 50) := c_5
      refine lv_bipush (v := -2) hx hb d_M_bind_27 (by decide) ?_
      exact W.iret (v := -2) hx hb hr (fun t ht hW => ⟨⟨-2, (28, bk, MW cs 0 z a bk), rfl, Mr_of (by rw [s_M_bind_out, if_pos c_3]), by rw [ht]; exact hP, va_K.moved hW.alike hK, hD⟩, hS.F ht⟩) hS.2.2 d_M_bind_29
  · have c_3 : ¬ (0 ≤ pt ∧ pt ≤ 9) := c_3
    refine lv_iconst (v := -1) hx hb d_M_bind_15 (by decide) ?_
    exact W.iret (v := -1) hx hb hr (fun t ht hW => ⟨⟨-1, (28, bk, MW cs 0 z a bk), rfl, Mr_of (by rw [s_M_bind_out, if_neg c_3]), by rw [ht]; exact hP, va_K.moved hW.alike hK, hD⟩, hS.F ht⟩) hS.2.2 d_M_bind_16
def lp_vol (a : Nat → Nat → Int32) (v ab : Int32) : Nat → Nat → Int32 → Int32
  | 0, j, fo => fo
  | k + 1, j, fo => (if ((a 12) (j)) = v then (if ((a 5) (j)) ≤ ab then (lp_vol a v ab k (j + 1) fo) else (if fo < 0 then (lp_vol a v ab k (j + 1) (nI j)) else (if ((a 5) (fo).toNatClampNeg) ≤ ((a 5) (j)) then (lp_vol a v ab k (j + 1) fo) else (lp_vol a v ab k (j + 1) (nI j))))) else (lp_vol a v ab k (j + 1) fo))
set_option maxHeartbeats 4000000 in
set_option maxRecDepth 100000 in
theorem l_M_volin {p_ : Program} {l : Launch} {e_ : Env} {s : State} {m : MethodId} {below_ : List Frame} {meth_ : Method} {c_ : Code} {D : va_G} {cs : Nat → ClassId} {bk : Nat → Nat} {sz : Nat} (th : Int32) (z : Nat → Nat) (a : Nat → Nat → Int32) (hz : z 0 ≤ 200) (v x ab mo : Int32) (kk : Nat) (R : MS) (hx : p_.tables.exec = Jvm.exec) (hb : c_.code = b_M_volume) (hr : meth_.sig.returnType = (some .int)) (hml : c_.maxLocals = 8) (hw : ∀ w ∈ WA, w.before ([.ref (bk (0)), .int (v), .int (x)] : List Value).toArray s = true) (hown : s.vm.findClass "IssueRowsModel" = some m.cls) (hlocks : meth_.locks = false) (hA : ∀ q, s.heap.size ≤ q → AA 28 bk sz q) (hN : NN s) (hK : va_K D classes (TY cs) s) (H : Heap) (locs : List Loc) (hP : va_P D classes (wl 28 bk (MW cs th z a bk)) H) (hD : va_D (AA 28 bk sz) (wl 28 bk (MW cs th z a bk))) (hS : va_S (AA 28 bk sz) s.heap H locs) (hc : ∀ ls : Array Slot, lv_has ls 8 [(0, .ref (bk (0))), (1, .int (v)), (2, .int (x)), (3, .int (lp_vol a v ab (z 0) 0 (-1))), (4, .int (ab)), (5, .int (mo)), (6, .int (nI kk))] → W p_ l e_ ({ frames := 1, cells := 0, slots := 0, locals := 22 }) s m ([.ref (bk (0)), .int (v), .int (x)] : List Value).toArray below_ meth_ c_ H locs 0 0 (MQ below_ (va_Qi (Mr cs bk R) (Wd D classes (TY cs) (AA 28 bk sz)) (AA 28 bk sz)) ([.ref (bk (0)), .int (v), .int (x)] : List Value).toArray s 0 0 (AA 28 bk sz)) (F0 m 110 ls [])) : ∀ (k j : Nat) (fo : Int32), j + k = z 0 → (fo < 0 ∨ vp_in fo 200) → lp_vol a v ab (z 0) 0 (-1) = lp_vol a v ab k j fo → ∀ ls : Array Slot, lv_has ls 8 [(0, .ref (bk (0))), (1, .int (v)), (2, .int (x)), (3, .int (fo)), (4, .int (ab)), (5, .int (mo)), (6, .int (nI kk)), (7, .int (nI j))] → W p_ l e_ ({ frames := 1, cells := 0, slots := 0, locals := 22 }) s m ([.ref (bk (0)), .int (v), .int (x)] : List Value).toArray below_ meth_ c_ H locs 0 0 (MQ below_ (va_Qi (Mr cs bk R) (Wd D classes (TY cs) (AA 28 bk sz)) (AA 28 bk sz)) ([.ref (bk (0)), .int (v), .int (x)] : List Value).toArray s 0 0 (AA 28 bk sz)) (F0 m 49 ls []) := by
  intro k
  induction k with
  | zero =>
    intro j fo hf hbe hR ls hl
    refine lv_iload hx hb d_M_volume_49 (lv_at hl 7 rfl) ?_
    refine lv_aload_n hx hb d_M_volume_51 rfl (lv_at hl 0 rfl) ?_
    refine pw_get (ci := 7) (v := .int (nI (z 0))) hx hb hw i_M hown hK hP (0) (by decide) rfl rfl 4 (by decide) (hw _ kF_M_101) rfl d_M_volume_52 ?_
    refine lv_icmp_ge (tgt := 110) hx hb d_M_volume_55 (by decide) (fun c_1 => ?_) (fun c_1 => ?_)
    · have c_1 : (nI (z 0)) ≤ (nI j) := c_1
      have h9 : fo = lp_vol a v ab (z 0) 0 (-1) := by rw [hR, lp_vol]
      rw [h9] at hl
      exact hc _ (lv_sub hl [0, 1, 2, 3, 4, 5, 6] rfl)
    · have c_1 : ¬ (nI (z 0)) ≤ (nI j) := c_1
      exact absurd ((nI_leI (by omega) (by omega)).mpr (by omega)) c_1
  | succ k ih =>
    intro j fo hf hbe hR ls hl
    refine lv_iload hx hb d_M_volume_49 (lv_at hl 7 rfl) ?_
    refine lv_aload_n hx hb d_M_volume_51 rfl (lv_at hl 0 rfl) ?_
    refine pw_get (ci := 7) (v := .int (nI (z 0))) hx hb hw i_M hown hK hP (0) (by decide) rfl rfl 4 (by decide) (hw _ kF_M_101) rfl d_M_volume_52 ?_
    refine lv_icmp_ge (tgt := 110) hx hb d_M_volume_55 (by decide) (fun c_101 => ?_) (fun c_101 => ?_)
    · have c_101 : (nI (z 0)) ≤ (nI j) := c_101
      exact absurd ((nI_leI (by omega) (by omega)).mp c_101) (by omega)
    · have c_101 : ¬ (nI (z 0)) ≤ (nI j) := c_101
      refine lv_aload_n hx hb d_M_volume_58 rfl (lv_at hl 0 rfl) ?_
      refine pw_get (ci := 7) (v := .ref (bk (12))) hx hb hw i_M hown hK hP (0) (by decide) rfl rfl 13 (by decide) (hw _ kF_M_43) rfl d_M_volume_59 ?_
      refine lv_iload hx hb d_M_volume_62 (lv_at hl 7 rfl) ?_
      refine pw_iald (n := 200) (f := (a 12)) hx hb hK hP 0 (12) (by decide) rfl rfl (j) rfl (by omega) (by decide) d_M_volume_64 ?_
      refine lv_iload_n hx hb d_M_volume_65 rfl (lv_at hl 1 rfl) ?_
      refine lv_icmp_ne (tgt := 104) hx hb d_M_volume_66 (by decide) (fun c_102 => ?_) (fun c_102 => ?_)
      · have c_102 : ¬ ((a 12) (j)) = v := c_102
        refine lv_iinc (v := nI (j + 1)) (lv' := [(7, .int (nI (j + 1))), (0, .ref (bk (0))), (1, .int (v)), (2, .int (x)), (3, .int (fo)), (4, .int (ab)), (5, .int (mo)), (6, .int (nI kk))]) hx hb d_M_volume_104 hl (k := 7) rfl (nI_1 _) (by decide) rfl (fun ls hl => ?_)
        refine lv_goto (tgt := 49) hx hb d_M_volume_107 (by decide) ?_
        exact ih (j + 1) fo (by omega) hbe (by rw [hR, lp_vol, if_neg c_102]) _ (lv_sub hl [1, 2, 3, 4, 5, 6, 7, 0] rfl)
      · have c_102 : ((a 12) (j)) = v := c_102
        refine lv_aload_n hx hb d_M_volume_69 rfl (lv_at hl 0 rfl) ?_
        refine pw_get (ci := 7) (v := .ref (bk (5))) hx hb hw i_M hown hK hP (0) (by decide) rfl rfl 6 (by decide) (hw _ kF_M_22) rfl d_M_volume_70 ?_
        refine lv_iload hx hb d_M_volume_73 (lv_at hl 7 rfl) ?_
        refine pw_iald (n := 200) (f := (a 5)) hx hb hK hP 0 (5) (by decide) rfl rfl (j) rfl (by omega) (by decide) d_M_volume_75 ?_
        refine lv_iload hx hb d_M_volume_76 (lv_at hl 4 rfl) ?_
        refine lv_icmp_le (tgt := 104) hx hb d_M_volume_78 (by decide) (fun c_103 => ?_) (fun c_103 => ?_)
        · have c_103 : ((a 5) (j)) ≤ ab := c_103
          refine lv_iinc (v := nI (j + 1)) (lv' := [(7, .int (nI (j + 1))), (0, .ref (bk (0))), (1, .int (v)), (2, .int (x)), (3, .int (fo)), (4, .int (ab)), (5, .int (mo)), (6, .int (nI kk))]) hx hb d_M_volume_104 hl (k := 7) rfl (nI_1 _) (by decide) rfl (fun ls hl => ?_)
          refine lv_goto (tgt := 49) hx hb d_M_volume_107 (by decide) ?_
          exact ih (j + 1) fo (by omega) hbe (by rw [hR, lp_vol, if_pos c_102, if_pos c_103]) _ (lv_sub hl [1, 2, 3, 4, 5, 6, 7, 0] rfl)
        · have c_103 : ¬ ((a 5) (j)) ≤ ab := c_103
          refine lv_iload_n hx hb d_M_volume_81 rfl (lv_at hl 3 rfl) ?_
          refine lv_if_lt (tgt := 101) hx hb d_M_volume_82 (by decide) (fun c_104 => ?_) (fun c_104 => ?_)
          · have c_104 : fo < 0 := c_104
            refine lv_iload hx hb d_M_volume_101 (lv_at hl 7 rfl) ?_
            refine lv_istore_n (lv' := [(3, .int (nI j)), (0, .ref (bk (0))), (1, .int (v)), (2, .int (x)), (4, .int (ab)), (5, .int (mo)), (6, .int (nI kk)), (7, .int (nI j))]) hx hb d_M_volume_103 rfl hl (by decide) rfl (fun ls hl => ?_)
            refine lv_iinc (v := nI (j + 1)) (lv' := [(7, .int (nI (j + 1))), (3, .int (nI j)), (0, .ref (bk (0))), (1, .int (v)), (2, .int (x)), (4, .int (ab)), (5, .int (mo)), (6, .int (nI kk))]) hx hb d_M_volume_104 hl (k := 7) rfl (nI_1 _) (by decide) rfl (fun ls hl => ?_)
            refine lv_goto (tgt := 49) hx hb d_M_volume_107 (by decide) ?_
            exact ih (j + 1) (nI j) (by omega) (Or.inr (vp_in_nI (by omega) (by decide))) (by rw [hR, lp_vol, if_pos c_102, if_neg c_103, if_pos c_104]) _ (lv_sub hl [2, 3, 4, 1, 5, 6, 7, 0] rfl)
          · have c_104 : ¬ fo < 0 := c_104
            refine lv_aload_n hx hb d_M_volume_85 rfl (lv_at hl 0 rfl) ?_
            refine pw_get (ci := 7) (v := .ref (bk (5))) hx hb hw i_M hown hK hP (0) (by decide) rfl rfl 6 (by decide) (hw _ kF_M_22) rfl d_M_volume_86 ?_
            refine lv_iload hx hb d_M_volume_89 (lv_at hl 7 rfl) ?_
            refine pw_iald (n := 200) (f := (a 5)) hx hb hK hP 0 (5) (by decide) rfl rfl (j) rfl (by omega) (by decide) d_M_volume_91 ?_
            refine lv_aload_n hx hb d_M_volume_92 rfl (lv_at hl 0 rfl) ?_
            refine pw_get (ci := 7) (v := .ref (bk (5))) hx hb hw i_M hown hK hP (0) (by decide) rfl rfl 6 (by decide) (hw _ kF_M_22) rfl d_M_volume_93 ?_
            refine lv_iload_n hx hb d_M_volume_96 rfl (lv_at hl 3 rfl) ?_
            refine pw_ialdC (n := 200) (f := (a 5)) hx hb hK hP 0 (5) (by decide) rfl rfl (hbe.elim (fun h => absurd h c_104) (fun h => h)) d_M_volume_97 ?_
            refine lv_icmp_ge (tgt := 104) hx hb d_M_volume_98 (by decide) (fun c_105 => ?_) (fun c_105 => ?_)
            · have c_105 : ((a 5) (fo).toNatClampNeg) ≤ ((a 5) (j)) := c_105
              refine lv_iinc (v := nI (j + 1)) (lv' := [(7, .int (nI (j + 1))), (0, .ref (bk (0))), (1, .int (v)), (2, .int (x)), (3, .int (fo)), (4, .int (ab)), (5, .int (mo)), (6, .int (nI kk))]) hx hb d_M_volume_104 hl (k := 7) rfl (nI_1 _) (by decide) rfl (fun ls hl => ?_)
              refine lv_goto (tgt := 49) hx hb d_M_volume_107 (by decide) ?_
              exact ih (j + 1) fo (by omega) hbe (by rw [hR, lp_vol, if_pos c_102, if_neg c_103, if_neg c_104, if_pos c_105]) _ (lv_sub hl [1, 2, 3, 4, 5, 6, 7, 0] rfl)
            · have c_105 : ¬ ((a 5) (fo).toNatClampNeg) ≤ ((a 5) (j)) := c_105
              refine lv_iload hx hb d_M_volume_101 (lv_at hl 7 rfl) ?_
              refine lv_istore_n (lv' := [(3, .int (nI j)), (0, .ref (bk (0))), (1, .int (v)), (2, .int (x)), (4, .int (ab)), (5, .int (mo)), (6, .int (nI kk)), (7, .int (nI j))]) hx hb d_M_volume_103 rfl hl (by decide) rfl (fun ls hl => ?_)
              refine lv_iinc (v := nI (j + 1)) (lv' := [(7, .int (nI (j + 1))), (3, .int (nI j)), (0, .ref (bk (0))), (1, .int (v)), (2, .int (x)), (4, .int (ab)), (5, .int (mo)), (6, .int (nI kk))]) hx hb d_M_volume_104 hl (k := 7) rfl (nI_1 _) (by decide) rfl (fun ls hl => ?_)
              refine lv_goto (tgt := 49) hx hb d_M_volume_107 (by decide) ?_
              exact ih (j + 1) (nI j) (by omega) (Or.inr (vp_in_nI (by omega) (by decide))) (by rw [hR, lp_vol, if_pos c_102, if_neg c_103, if_neg c_104, if_neg c_105]) _ (lv_sub hl [2, 3, 4, 1, 5, 6, 7, 0] rfl)
theorem vol_in {a : Nat → Nat → Int32} {v x : Int32} {n : Nat} (hn : n < 2 ^ 31) : ∀ (k i : Nat) (b : Int32), i + k = n → (b < 0 ∨ (vp_in b n ∧ x < a 5 b.toNatClampNeg ∧ a 12 b.toNatClampNeg = v)) → (lp_vol a v x k i b < 0 ∨ (vp_in (lp_vol a v x k i b) n ∧ x < a 5 (lp_vol a v x k i b).toNatClampNeg ∧ a 12 (lp_vol a v x k i b).toNatClampNeg = v))
  | 0, i, b, _, h => by rw [lp_vol]; exact h
  | k + 1, i, b, hi, h => by
    have ih := fun b' hb => vol_in (a := a) (v := v) (x := x) hn k (i + 1) b' (by omega) hb
    have hc : (nI i).toNatClampNeg = i := nI_clamp (by omega)
    rw [lp_vol]
    repeat' split
    all_goals first | exact ih _ h | exact ih _ (Or.inr ⟨vp_nI (by omega) hn, by rw [hc]; first | assumption | exact Int32.not_le.mp ‹_›, by rw [hc]; assumption⟩)
theorem vol_sp {a : Nat → Nat → Int32} {v x : Int32} {n : Nat} (hn : n < 2 ^ 31) : lp_vol a v x n 0 (-1) < 0 ∨ (vp_in (lp_vol a v x n 0 (-1)) n ∧ x < a 5 (lp_vol a v x n 0 (-1)).toNatClampNeg ∧ a 12 (lp_vol a v x n 0 (-1)).toNatClampNeg = v) := vol_in hn n 0 (-1) (by omega) (Or.inl (by decide))
def lp_mvol (th : Int32) (z : Nat → Nat) (a : Nat → Nat → Int32) (v x : Int32) : Nat → Int32 → Int32 → Int32 → Nat → MS
  | 0, fo, ab, mo, kk => (if x < (nI kk) then (if mo = 0 then (if mo = 0 then (0, 1, z, a) else (fo, 1, z, a)) else (if mo = 0 then (0, 0, z, a) else (fo, 0, z, a))) else (if mo = 0 then (if mo = 0 then (0, 1, z, a) else (fo, 1, z, a)) else (if mo = 0 then (0, 0, z, a) else (fo, 0, z, a))))
  | k + 1, fo, ab, mo, kk => (if x < (nI kk) then (if mo = 0 then (if mo = 0 then (0, 1, z, a) else (fo, 1, z, a)) else (if mo = 0 then (0, 0, z, a) else (fo, 0, z, a))) else (if mo = 0 then (if mo = 0 then (if mo = 0 then (0, 1, z, a) else (fo, 1, z, a)) else (if mo = 0 then (0, 0, z, a) else (fo, 0, z, a))) else (if (lp_vol a v ab (z 0) 0 (-1)) < 0 then (lp_mvol th z a v x k (lp_vol a v ab (z 0) 0 (-1)) ab 0 (kk + 1)) else (lp_mvol th z a v x k (lp_vol a v ab (z 0) 0 (-1)) ((a 5) (lp_vol a v ab (z 0) 0 (-1)).toNatClampNeg) 1 (kk + 1)))))
set_option maxHeartbeats 4000000 in
set_option maxRecDepth 100000 in
theorem l_M_volume {p_ : Program} {l : Launch} {e_ : Env} {s : State} {m : MethodId} {below_ : List Frame} {meth_ : Method} {c_ : Code} {D : va_G} {cs : Nat → ClassId} {bk : Nat → Nat} {sz : Nat} (th : Int32) (z : Nat → Nat) (a : Nat → Nat → Int32) (hz : z 0 ≤ 200) (ho : ∀ j, j < z 0 → 1 ≤ a 5 j ∧ a 5 j ≤ 9999) (v x : Int32) (R : MS) (hx : p_.tables.exec = Jvm.exec) (hb : c_.code = b_M_volume) (hr : meth_.sig.returnType = (some .int)) (hml : c_.maxLocals = 8) (hw : ∀ w ∈ WA, w.before ([.ref (bk (0)), .int (v), .int (x)] : List Value).toArray s = true) (hown : s.vm.findClass "IssueRowsModel" = some m.cls) (hlocks : meth_.locks = false) (hA : ∀ q, s.heap.size ≤ q → AA 28 bk sz q) (hN : NN s) (hK : va_K D classes (TY cs) s) : ∀ (k : Nat) (fo : Int32) (ab : Int32) (mo : Int32) (kk : Nat), (mo = 0 ∨ (9999 : Int) < ab.toInt + (k : Nat)) → (ab ≤ 9999) → (R = lp_mvol th z a v x k fo ab mo kk) → ∀ (H : Heap) (locs : List Loc) (ls : Array Slot), va_P D classes (wl 28 bk (MW cs th z a bk)) H → va_D (AA 28 bk sz) (wl 28 bk (MW cs th z a bk)) → va_S (AA 28 bk sz) s.heap H locs → lv_has ls 8 [(0, .ref (bk (0))), (1, .int (v)), (2, .int (x)), (3, .int (fo)), (4, .int (ab)), (5, .int (mo)), (6, .int (nI kk))] → W p_ l e_ ({ frames := 1, cells := 0, slots := 0, locals := 22 }) s m ([.ref (bk (0)), .int (v), .int (x)] : List Value).toArray below_ meth_ c_ H locs 0 0 (MQ below_ (va_Qi (Mr cs bk R) (Wd D classes (TY cs) (AA 28 bk sz)) (AA 28 bk sz)) ([.ref (bk (0)), .int (v), .int (x)] : List Value).toArray s 0 0 (AA 28 bk sz)) (F0 m 33 ls []) := by
  intro k
  induction k with
  | zero =>
    intro fo ab mo kk hf hab hR H locs ls hP hD hS hl
    refine lv_iload hx hb d_M_volume_33 (lv_at hl 6 rfl) ?_
    refine lv_iload_n hx hb d_M_volume_35 rfl (lv_at hl 2 rfl) ?_
    refine lv_icmp_gt (tgt := 145) hx hb d_M_volume_36 (by decide) (fun c_1 => ?_) (fun c_1 => ?_)
    · have c_1 : x < (nI kk) := c_1
      refine lv_aload_n hx hb d_M_volume_145 rfl (lv_at hl 0 rfl) ?_
      refine lv_iload hx hb d_M_volume_146 (lv_at hl 5 rfl) ?_
      refine lv_if_eq (tgt := 155) hx hb d_M_volume_148 (by decide) (fun c_2 => ?_) (fun c_2 => ?_)
      · have c_2 : mo = 0 := c_2
        refine lv_iconst (v := 1) hx hb d_M_volume_155 (by decide) ?_
        refine pw_put (ci := 7) (v := .int (1)) (ty := .int) (fs' := [.int (1), .ref (bk (1)), .ref (bk (2)), .ref (bk (3)), .int (nI (z 0)), .ref (bk (4)), .ref (bk (5)), .ref (bk (6)), .ref (bk (7)), .ref (bk (8)), .ref (bk (9)), .ref (bk (10)), .ref (bk (11)), .ref (bk (12)), .ref (bk (13)), .ref (bk (14)), .ref (bk (15)), .ref (bk (16)), .ref (bk (17)), .ref (bk (18)), .ref (bk (19)), .ref (bk (20)), .int (nI (z 1)), .ref (bk (21)), .ref (bk (22)), .int (nI (z 2)), .int (nI (z 3)), .ref (bk (23)), .ref (bk (24)), .ref (bk (25)), .int (nI (z 4)), .ref (bk (26)), .ref (bk (27))]) hx hb hw i_M t_M t_M_ok n_M hown hK hP hD hS (0) (by decide) rfl rfl 0 (by decide) (hw _ kF_M_92) rfl (t_M_ok 0 (by decide)) rfl rfl (Nat.le_of_ble_eq_true rfl) rfl d_M_volume_156 (fun cw_3 H locs ecw_3 hP hD hS => ?_)
        obtain rfl : cw_3 = MW cs 1 z a bk := by rw [ecw_3]; exact MW_obj 1 z
        refine lv_iload hx hb d_M_volume_159 (lv_at hl 5 rfl) ?_
        refine lv_if_eq (tgt := 168) hx hb d_M_volume_161 (by decide) (fun c_4 => ?_) (fun c_4 => ?_)
        · have c_4 : mo = 0 := c_4
          refine lv_iconst (v := 0) hx hb d_M_volume_168 (by decide) ?_
          exact W.iret (v := 0) hx hb hr (fun t ht hW => ⟨⟨0, (28, bk, MW cs 1 z a bk), rfl, Mr_of (by rw [hR, lp_mvol, if_pos c_1, if_pos c_2, if_pos c_4]), by rw [ht]; exact hP, va_K.moved hW.alike hK, hD⟩, hS.F ht⟩) hS.2.2 d_M_volume_169
        · have c_4 : ¬ mo = 0 := c_4
          refine lv_iload_n hx hb d_M_volume_164 rfl (lv_at hl 3 rfl) ?_
          refine lv_goto (tgt := 169) hx hb d_M_volume_165 (by decide) ?_
          exact W.iret (v := fo) hx hb hr (fun t ht hW => ⟨⟨fo, (28, bk, MW cs 1 z a bk), rfl, Mr_of (by rw [hR, lp_mvol, if_pos c_1, if_pos c_2, if_neg c_4]), by rw [ht]; exact hP, va_K.moved hW.alike hK, hD⟩, hS.F ht⟩) hS.2.2 d_M_volume_169
      · have c_2 : ¬ mo = 0 := c_2
        refine lv_iconst (v := 0) hx hb d_M_volume_151 (by decide) ?_
        refine lv_goto (tgt := 156) hx hb d_M_volume_152 (by decide) ?_
        refine pw_put (ci := 7) (v := .int (0)) (ty := .int) (fs' := [.int (0), .ref (bk (1)), .ref (bk (2)), .ref (bk (3)), .int (nI (z 0)), .ref (bk (4)), .ref (bk (5)), .ref (bk (6)), .ref (bk (7)), .ref (bk (8)), .ref (bk (9)), .ref (bk (10)), .ref (bk (11)), .ref (bk (12)), .ref (bk (13)), .ref (bk (14)), .ref (bk (15)), .ref (bk (16)), .ref (bk (17)), .ref (bk (18)), .ref (bk (19)), .ref (bk (20)), .int (nI (z 1)), .ref (bk (21)), .ref (bk (22)), .int (nI (z 2)), .int (nI (z 3)), .ref (bk (23)), .ref (bk (24)), .ref (bk (25)), .int (nI (z 4)), .ref (bk (26)), .ref (bk (27))]) hx hb hw i_M t_M t_M_ok n_M hown hK hP hD hS (0) (by decide) rfl rfl 0 (by decide) (hw _ kF_M_92) rfl (t_M_ok 0 (by decide)) rfl rfl (Nat.le_of_ble_eq_true rfl) rfl d_M_volume_156 (fun cw_5 H locs ecw_5 hP hD hS => ?_)
        obtain rfl : cw_5 = MW cs 0 z a bk := by rw [ecw_5]; exact MW_obj 0 z
        refine lv_iload hx hb d_M_volume_159 (lv_at hl 5 rfl) ?_
        refine lv_if_eq (tgt := 168) hx hb d_M_volume_161 (by decide) (fun c_6 => ?_) (fun c_6 => ?_)
        · have c_6 : mo = 0 := c_6
          refine lv_iconst (v := 0) hx hb d_M_volume_168 (by decide) ?_
          exact W.iret (v := 0) hx hb hr (fun t ht hW => ⟨⟨0, (28, bk, MW cs 0 z a bk), rfl, Mr_of (by rw [hR, lp_mvol, if_pos c_1, if_neg c_2, if_pos c_6]), by rw [ht]; exact hP, va_K.moved hW.alike hK, hD⟩, hS.F ht⟩) hS.2.2 d_M_volume_169
        · have c_6 : ¬ mo = 0 := c_6
          refine lv_iload_n hx hb d_M_volume_164 rfl (lv_at hl 3 rfl) ?_
          refine lv_goto (tgt := 169) hx hb d_M_volume_165 (by decide) ?_
          exact W.iret (v := fo) hx hb hr (fun t ht hW => ⟨⟨fo, (28, bk, MW cs 0 z a bk), rfl, Mr_of (by rw [hR, lp_mvol, if_pos c_1, if_neg c_2, if_neg c_6]), by rw [ht]; exact hP, va_K.moved hW.alike hK, hD⟩, hS.F ht⟩) hS.2.2 d_M_volume_169
    · have c_1 : ¬ x < (nI kk) := c_1
      refine lv_iload hx hb d_M_volume_39 (lv_at hl 5 rfl) ?_
      refine lv_if_eq (tgt := 145) hx hb d_M_volume_41 (by decide) (fun c_7 => ?_) (fun c_7 => ?_)
      · have c_7 : mo = 0 := c_7
        refine lv_aload_n hx hb d_M_volume_145 rfl (lv_at hl 0 rfl) ?_
        refine lv_iload hx hb d_M_volume_146 (lv_at hl 5 rfl) ?_
        refine lv_if_eq (tgt := 155) hx hb d_M_volume_148 (by decide) (fun c_8 => ?_) (fun c_8 => ?_)
        · have c_8 : mo = 0 := c_8
          refine lv_iconst (v := 1) hx hb d_M_volume_155 (by decide) ?_
          refine pw_put (ci := 7) (v := .int (1)) (ty := .int) (fs' := [.int (1), .ref (bk (1)), .ref (bk (2)), .ref (bk (3)), .int (nI (z 0)), .ref (bk (4)), .ref (bk (5)), .ref (bk (6)), .ref (bk (7)), .ref (bk (8)), .ref (bk (9)), .ref (bk (10)), .ref (bk (11)), .ref (bk (12)), .ref (bk (13)), .ref (bk (14)), .ref (bk (15)), .ref (bk (16)), .ref (bk (17)), .ref (bk (18)), .ref (bk (19)), .ref (bk (20)), .int (nI (z 1)), .ref (bk (21)), .ref (bk (22)), .int (nI (z 2)), .int (nI (z 3)), .ref (bk (23)), .ref (bk (24)), .ref (bk (25)), .int (nI (z 4)), .ref (bk (26)), .ref (bk (27))]) hx hb hw i_M t_M t_M_ok n_M hown hK hP hD hS (0) (by decide) rfl rfl 0 (by decide) (hw _ kF_M_92) rfl (t_M_ok 0 (by decide)) rfl rfl (Nat.le_of_ble_eq_true rfl) rfl d_M_volume_156 (fun cw_9 H locs ecw_9 hP hD hS => ?_)
          obtain rfl : cw_9 = MW cs 1 z a bk := by rw [ecw_9]; exact MW_obj 1 z
          refine lv_iload hx hb d_M_volume_159 (lv_at hl 5 rfl) ?_
          refine lv_if_eq (tgt := 168) hx hb d_M_volume_161 (by decide) (fun c_10 => ?_) (fun c_10 => ?_)
          · have c_10 : mo = 0 := c_10
            refine lv_iconst (v := 0) hx hb d_M_volume_168 (by decide) ?_
            exact W.iret (v := 0) hx hb hr (fun t ht hW => ⟨⟨0, (28, bk, MW cs 1 z a bk), rfl, Mr_of (by rw [hR, lp_mvol, if_neg c_1, if_pos c_8, if_pos c_10]), by rw [ht]; exact hP, va_K.moved hW.alike hK, hD⟩, hS.F ht⟩) hS.2.2 d_M_volume_169
          · have c_10 : ¬ mo = 0 := c_10
            refine lv_iload_n hx hb d_M_volume_164 rfl (lv_at hl 3 rfl) ?_
            refine lv_goto (tgt := 169) hx hb d_M_volume_165 (by decide) ?_
            exact W.iret (v := fo) hx hb hr (fun t ht hW => ⟨⟨fo, (28, bk, MW cs 1 z a bk), rfl, Mr_of (by rw [hR, lp_mvol, if_neg c_1, if_pos c_8, if_neg c_10]), by rw [ht]; exact hP, va_K.moved hW.alike hK, hD⟩, hS.F ht⟩) hS.2.2 d_M_volume_169
        · have c_8 : ¬ mo = 0 := c_8
          refine lv_iconst (v := 0) hx hb d_M_volume_151 (by decide) ?_
          refine lv_goto (tgt := 156) hx hb d_M_volume_152 (by decide) ?_
          refine pw_put (ci := 7) (v := .int (0)) (ty := .int) (fs' := [.int (0), .ref (bk (1)), .ref (bk (2)), .ref (bk (3)), .int (nI (z 0)), .ref (bk (4)), .ref (bk (5)), .ref (bk (6)), .ref (bk (7)), .ref (bk (8)), .ref (bk (9)), .ref (bk (10)), .ref (bk (11)), .ref (bk (12)), .ref (bk (13)), .ref (bk (14)), .ref (bk (15)), .ref (bk (16)), .ref (bk (17)), .ref (bk (18)), .ref (bk (19)), .ref (bk (20)), .int (nI (z 1)), .ref (bk (21)), .ref (bk (22)), .int (nI (z 2)), .int (nI (z 3)), .ref (bk (23)), .ref (bk (24)), .ref (bk (25)), .int (nI (z 4)), .ref (bk (26)), .ref (bk (27))]) hx hb hw i_M t_M t_M_ok n_M hown hK hP hD hS (0) (by decide) rfl rfl 0 (by decide) (hw _ kF_M_92) rfl (t_M_ok 0 (by decide)) rfl rfl (Nat.le_of_ble_eq_true rfl) rfl d_M_volume_156 (fun cw_11 H locs ecw_11 hP hD hS => ?_)
          obtain rfl : cw_11 = MW cs 0 z a bk := by rw [ecw_11]; exact MW_obj 0 z
          refine lv_iload hx hb d_M_volume_159 (lv_at hl 5 rfl) ?_
          refine lv_if_eq (tgt := 168) hx hb d_M_volume_161 (by decide) (fun c_12 => ?_) (fun c_12 => ?_)
          · have c_12 : mo = 0 := c_12
            refine lv_iconst (v := 0) hx hb d_M_volume_168 (by decide) ?_
            exact W.iret (v := 0) hx hb hr (fun t ht hW => ⟨⟨0, (28, bk, MW cs 0 z a bk), rfl, Mr_of (by rw [hR, lp_mvol, if_neg c_1, if_neg c_8, if_pos c_12]), by rw [ht]; exact hP, va_K.moved hW.alike hK, hD⟩, hS.F ht⟩) hS.2.2 d_M_volume_169
          · have c_12 : ¬ mo = 0 := c_12
            refine lv_iload_n hx hb d_M_volume_164 rfl (lv_at hl 3 rfl) ?_
            refine lv_goto (tgt := 169) hx hb d_M_volume_165 (by decide) ?_
            exact W.iret (v := fo) hx hb hr (fun t ht hW => ⟨⟨fo, (28, bk, MW cs 0 z a bk), rfl, Mr_of (by rw [hR, lp_mvol, if_neg c_1, if_neg c_8, if_neg c_12]), by rw [ht]; exact hP, va_K.moved hW.alike hK, hD⟩, hS.F ht⟩) hS.2.2 d_M_volume_169
      · have c_7 : ¬ mo = 0 := c_7
        exact absurd (hf.elim id (fun q => absurd hab (by rw [Int32.le_iff_toInt_le, T9999]; omega))) c_7
  | succ k ih =>
    intro fo ab mo kk hf hab hR H locs ls hP hD hS hl
    refine lv_iload hx hb d_M_volume_33 (lv_at hl 6 rfl) ?_
    refine lv_iload_n hx hb d_M_volume_35 rfl (lv_at hl 2 rfl) ?_
    refine lv_icmp_gt (tgt := 145) hx hb d_M_volume_36 (by decide) (fun c_101 => ?_) (fun c_101 => ?_)
    · have c_101 : x < (nI kk) := c_101
      refine lv_aload_n hx hb d_M_volume_145 rfl (lv_at hl 0 rfl) ?_
      refine lv_iload hx hb d_M_volume_146 (lv_at hl 5 rfl) ?_
      refine lv_if_eq (tgt := 155) hx hb d_M_volume_148 (by decide) (fun c_102 => ?_) (fun c_102 => ?_)
      · have c_102 : mo = 0 := c_102
        refine lv_iconst (v := 1) hx hb d_M_volume_155 (by decide) ?_
        refine pw_put (ci := 7) (v := .int (1)) (ty := .int) (fs' := [.int (1), .ref (bk (1)), .ref (bk (2)), .ref (bk (3)), .int (nI (z 0)), .ref (bk (4)), .ref (bk (5)), .ref (bk (6)), .ref (bk (7)), .ref (bk (8)), .ref (bk (9)), .ref (bk (10)), .ref (bk (11)), .ref (bk (12)), .ref (bk (13)), .ref (bk (14)), .ref (bk (15)), .ref (bk (16)), .ref (bk (17)), .ref (bk (18)), .ref (bk (19)), .ref (bk (20)), .int (nI (z 1)), .ref (bk (21)), .ref (bk (22)), .int (nI (z 2)), .int (nI (z 3)), .ref (bk (23)), .ref (bk (24)), .ref (bk (25)), .int (nI (z 4)), .ref (bk (26)), .ref (bk (27))]) hx hb hw i_M t_M t_M_ok n_M hown hK hP hD hS (0) (by decide) rfl rfl 0 (by decide) (hw _ kF_M_92) rfl (t_M_ok 0 (by decide)) rfl rfl (Nat.le_of_ble_eq_true rfl) rfl d_M_volume_156 (fun cw_103 H locs ecw_103 hP hD hS => ?_)
        obtain rfl : cw_103 = MW cs 1 z a bk := by rw [ecw_103]; exact MW_obj 1 z
        refine lv_iload hx hb d_M_volume_159 (lv_at hl 5 rfl) ?_
        refine lv_if_eq (tgt := 168) hx hb d_M_volume_161 (by decide) (fun c_104 => ?_) (fun c_104 => ?_)
        · have c_104 : mo = 0 := c_104
          refine lv_iconst (v := 0) hx hb d_M_volume_168 (by decide) ?_
          exact W.iret (v := 0) hx hb hr (fun t ht hW => ⟨⟨0, (28, bk, MW cs 1 z a bk), rfl, Mr_of (by rw [hR, lp_mvol, if_pos c_101, if_pos c_102, if_pos c_104]), by rw [ht]; exact hP, va_K.moved hW.alike hK, hD⟩, hS.F ht⟩) hS.2.2 d_M_volume_169
        · have c_104 : ¬ mo = 0 := c_104
          refine lv_iload_n hx hb d_M_volume_164 rfl (lv_at hl 3 rfl) ?_
          refine lv_goto (tgt := 169) hx hb d_M_volume_165 (by decide) ?_
          exact W.iret (v := fo) hx hb hr (fun t ht hW => ⟨⟨fo, (28, bk, MW cs 1 z a bk), rfl, Mr_of (by rw [hR, lp_mvol, if_pos c_101, if_pos c_102, if_neg c_104]), by rw [ht]; exact hP, va_K.moved hW.alike hK, hD⟩, hS.F ht⟩) hS.2.2 d_M_volume_169
      · have c_102 : ¬ mo = 0 := c_102
        refine lv_iconst (v := 0) hx hb d_M_volume_151 (by decide) ?_
        refine lv_goto (tgt := 156) hx hb d_M_volume_152 (by decide) ?_
        refine pw_put (ci := 7) (v := .int (0)) (ty := .int) (fs' := [.int (0), .ref (bk (1)), .ref (bk (2)), .ref (bk (3)), .int (nI (z 0)), .ref (bk (4)), .ref (bk (5)), .ref (bk (6)), .ref (bk (7)), .ref (bk (8)), .ref (bk (9)), .ref (bk (10)), .ref (bk (11)), .ref (bk (12)), .ref (bk (13)), .ref (bk (14)), .ref (bk (15)), .ref (bk (16)), .ref (bk (17)), .ref (bk (18)), .ref (bk (19)), .ref (bk (20)), .int (nI (z 1)), .ref (bk (21)), .ref (bk (22)), .int (nI (z 2)), .int (nI (z 3)), .ref (bk (23)), .ref (bk (24)), .ref (bk (25)), .int (nI (z 4)), .ref (bk (26)), .ref (bk (27))]) hx hb hw i_M t_M t_M_ok n_M hown hK hP hD hS (0) (by decide) rfl rfl 0 (by decide) (hw _ kF_M_92) rfl (t_M_ok 0 (by decide)) rfl rfl (Nat.le_of_ble_eq_true rfl) rfl d_M_volume_156 (fun cw_105 H locs ecw_105 hP hD hS => ?_)
        obtain rfl : cw_105 = MW cs 0 z a bk := by rw [ecw_105]; exact MW_obj 0 z
        refine lv_iload hx hb d_M_volume_159 (lv_at hl 5 rfl) ?_
        refine lv_if_eq (tgt := 168) hx hb d_M_volume_161 (by decide) (fun c_106 => ?_) (fun c_106 => ?_)
        · have c_106 : mo = 0 := c_106
          refine lv_iconst (v := 0) hx hb d_M_volume_168 (by decide) ?_
          exact W.iret (v := 0) hx hb hr (fun t ht hW => ⟨⟨0, (28, bk, MW cs 0 z a bk), rfl, Mr_of (by rw [hR, lp_mvol, if_pos c_101, if_neg c_102, if_pos c_106]), by rw [ht]; exact hP, va_K.moved hW.alike hK, hD⟩, hS.F ht⟩) hS.2.2 d_M_volume_169
        · have c_106 : ¬ mo = 0 := c_106
          refine lv_iload_n hx hb d_M_volume_164 rfl (lv_at hl 3 rfl) ?_
          refine lv_goto (tgt := 169) hx hb d_M_volume_165 (by decide) ?_
          exact W.iret (v := fo) hx hb hr (fun t ht hW => ⟨⟨fo, (28, bk, MW cs 0 z a bk), rfl, Mr_of (by rw [hR, lp_mvol, if_pos c_101, if_neg c_102, if_neg c_106]), by rw [ht]; exact hP, va_K.moved hW.alike hK, hD⟩, hS.F ht⟩) hS.2.2 d_M_volume_169
    · have c_101 : ¬ x < (nI kk) := c_101
      refine lv_iload hx hb d_M_volume_39 (lv_at hl 5 rfl) ?_
      refine lv_if_eq (tgt := 145) hx hb d_M_volume_41 (by decide) (fun c_107 => ?_) (fun c_107 => ?_)
      · have c_107 : mo = 0 := c_107
        refine lv_aload_n hx hb d_M_volume_145 rfl (lv_at hl 0 rfl) ?_
        refine lv_iload hx hb d_M_volume_146 (lv_at hl 5 rfl) ?_
        refine lv_if_eq (tgt := 155) hx hb d_M_volume_148 (by decide) (fun c_108 => ?_) (fun c_108 => ?_)
        · have c_108 : mo = 0 := c_108
          refine lv_iconst (v := 1) hx hb d_M_volume_155 (by decide) ?_
          refine pw_put (ci := 7) (v := .int (1)) (ty := .int) (fs' := [.int (1), .ref (bk (1)), .ref (bk (2)), .ref (bk (3)), .int (nI (z 0)), .ref (bk (4)), .ref (bk (5)), .ref (bk (6)), .ref (bk (7)), .ref (bk (8)), .ref (bk (9)), .ref (bk (10)), .ref (bk (11)), .ref (bk (12)), .ref (bk (13)), .ref (bk (14)), .ref (bk (15)), .ref (bk (16)), .ref (bk (17)), .ref (bk (18)), .ref (bk (19)), .ref (bk (20)), .int (nI (z 1)), .ref (bk (21)), .ref (bk (22)), .int (nI (z 2)), .int (nI (z 3)), .ref (bk (23)), .ref (bk (24)), .ref (bk (25)), .int (nI (z 4)), .ref (bk (26)), .ref (bk (27))]) hx hb hw i_M t_M t_M_ok n_M hown hK hP hD hS (0) (by decide) rfl rfl 0 (by decide) (hw _ kF_M_92) rfl (t_M_ok 0 (by decide)) rfl rfl (Nat.le_of_ble_eq_true rfl) rfl d_M_volume_156 (fun cw_109 H locs ecw_109 hP hD hS => ?_)
          obtain rfl : cw_109 = MW cs 1 z a bk := by rw [ecw_109]; exact MW_obj 1 z
          refine lv_iload hx hb d_M_volume_159 (lv_at hl 5 rfl) ?_
          refine lv_if_eq (tgt := 168) hx hb d_M_volume_161 (by decide) (fun c_110 => ?_) (fun c_110 => ?_)
          · have c_110 : mo = 0 := c_110
            refine lv_iconst (v := 0) hx hb d_M_volume_168 (by decide) ?_
            exact W.iret (v := 0) hx hb hr (fun t ht hW => ⟨⟨0, (28, bk, MW cs 1 z a bk), rfl, Mr_of (by rw [hR, lp_mvol, if_neg c_101, if_pos c_107, if_pos c_108, if_pos c_110]), by rw [ht]; exact hP, va_K.moved hW.alike hK, hD⟩, hS.F ht⟩) hS.2.2 d_M_volume_169
          · have c_110 : ¬ mo = 0 := c_110
            refine lv_iload_n hx hb d_M_volume_164 rfl (lv_at hl 3 rfl) ?_
            refine lv_goto (tgt := 169) hx hb d_M_volume_165 (by decide) ?_
            exact W.iret (v := fo) hx hb hr (fun t ht hW => ⟨⟨fo, (28, bk, MW cs 1 z a bk), rfl, Mr_of (by rw [hR, lp_mvol, if_neg c_101, if_pos c_107, if_pos c_108, if_neg c_110]), by rw [ht]; exact hP, va_K.moved hW.alike hK, hD⟩, hS.F ht⟩) hS.2.2 d_M_volume_169
        · have c_108 : ¬ mo = 0 := c_108
          refine lv_iconst (v := 0) hx hb d_M_volume_151 (by decide) ?_
          refine lv_goto (tgt := 156) hx hb d_M_volume_152 (by decide) ?_
          refine pw_put (ci := 7) (v := .int (0)) (ty := .int) (fs' := [.int (0), .ref (bk (1)), .ref (bk (2)), .ref (bk (3)), .int (nI (z 0)), .ref (bk (4)), .ref (bk (5)), .ref (bk (6)), .ref (bk (7)), .ref (bk (8)), .ref (bk (9)), .ref (bk (10)), .ref (bk (11)), .ref (bk (12)), .ref (bk (13)), .ref (bk (14)), .ref (bk (15)), .ref (bk (16)), .ref (bk (17)), .ref (bk (18)), .ref (bk (19)), .ref (bk (20)), .int (nI (z 1)), .ref (bk (21)), .ref (bk (22)), .int (nI (z 2)), .int (nI (z 3)), .ref (bk (23)), .ref (bk (24)), .ref (bk (25)), .int (nI (z 4)), .ref (bk (26)), .ref (bk (27))]) hx hb hw i_M t_M t_M_ok n_M hown hK hP hD hS (0) (by decide) rfl rfl 0 (by decide) (hw _ kF_M_92) rfl (t_M_ok 0 (by decide)) rfl rfl (Nat.le_of_ble_eq_true rfl) rfl d_M_volume_156 (fun cw_111 H locs ecw_111 hP hD hS => ?_)
          obtain rfl : cw_111 = MW cs 0 z a bk := by rw [ecw_111]; exact MW_obj 0 z
          refine lv_iload hx hb d_M_volume_159 (lv_at hl 5 rfl) ?_
          refine lv_if_eq (tgt := 168) hx hb d_M_volume_161 (by decide) (fun c_112 => ?_) (fun c_112 => ?_)
          · have c_112 : mo = 0 := c_112
            refine lv_iconst (v := 0) hx hb d_M_volume_168 (by decide) ?_
            exact W.iret (v := 0) hx hb hr (fun t ht hW => ⟨⟨0, (28, bk, MW cs 0 z a bk), rfl, Mr_of (by rw [hR, lp_mvol, if_neg c_101, if_pos c_107, if_neg c_108, if_pos c_112]), by rw [ht]; exact hP, va_K.moved hW.alike hK, hD⟩, hS.F ht⟩) hS.2.2 d_M_volume_169
          · have c_112 : ¬ mo = 0 := c_112
            refine lv_iload_n hx hb d_M_volume_164 rfl (lv_at hl 3 rfl) ?_
            refine lv_goto (tgt := 169) hx hb d_M_volume_165 (by decide) ?_
            exact W.iret (v := fo) hx hb hr (fun t ht hW => ⟨⟨fo, (28, bk, MW cs 0 z a bk), rfl, Mr_of (by rw [hR, lp_mvol, if_neg c_101, if_pos c_107, if_neg c_108, if_neg c_112]), by rw [ht]; exact hP, va_K.moved hW.alike hK, hD⟩, hS.F ht⟩) hS.2.2 d_M_volume_169
      · have c_107 : ¬ mo = 0 := c_107
        refine lv_iconst (v := -1) hx hb d_M_volume_44 (by decide) ?_
        refine lv_istore_n (lv' := [(3, .int (-1)), (0, .ref (bk (0))), (1, .int (v)), (2, .int (x)), (4, .int (ab)), (5, .int (mo)), (6, .int (nI kk))]) hx hb d_M_volume_45 rfl hl (by decide) rfl (fun ls hl => ?_)
        refine lv_iconst (v := 0) hx hb d_M_volume_46 (by decide) ?_
        refine lv_istore (lv' := [(7, .int (0)), (3, .int (-1)), (0, .ref (bk (0))), (1, .int (v)), (2, .int (x)), (4, .int (ab)), (5, .int (mo)), (6, .int (nI kk))]) hx hb d_M_volume_47 hl (by decide) rfl (fun ls hl => ?_)
        refine l_M_volin th z a hz v x ab mo kk R hx hb hr hml hw hown hlocks hA hN hK _ _ hP hD hS (fun ls hl => ?_) (z 0) 0 (-1) (by omega) (Or.inl (by decide)) rfl _ (lv_sub hl [2, 3, 4, 1, 5, 6, 7, 0] rfl)
        refine lv_iload_n hx hb d_M_volume_110 rfl (lv_at hl 3 rfl) ?_
        refine lv_if_lt (tgt := 118) hx hb d_M_volume_111 (by decide) (fun c_113 => ?_) (fun c_113 => ?_)
        · have c_113 : (lp_vol a v ab (z 0) 0 (-1)) < 0 := c_113
          refine lv_iconst (v := 0) hx hb d_M_volume_118 (by decide) ?_
          refine lv_istore (lv' := [(5, .int (0)), (0, .ref (bk (0))), (1, .int (v)), (2, .int (x)), (3, .int (lp_vol a v ab (z 0) 0 (-1))), (4, .int (ab)), (6, .int (nI kk))]) hx hb d_M_volume_119 hl (by decide) rfl (fun ls hl => ?_)
          refine lv_iload hx hb d_M_volume_121 (lv_at hl 0 rfl) ?_
          refine lv_if_eq (tgt := 135) hx hb d_M_volume_123 (by decide) (fun c_114 => ?_) (fun c_114 => ?_)
          · skip
            refine lv_iload hx hb d_M_volume_135 (lv_at hl 5 rfl) ?_
            refine lv_istore (lv' := [(4, .int (ab)), (5, .int (0)), (0, .ref (bk (0))), (1, .int (v)), (2, .int (x)), (3, .int (lp_vol a v ab (z 0) 0 (-1))), (6, .int (nI kk))]) hx hb d_M_volume_137 hl (by decide) rfl (fun ls hl => ?_)
            refine lv_iinc (v := nI (kk + 1)) (lv' := [(6, .int (nI (kk + 1))), (4, .int (ab)), (5, .int (0)), (0, .ref (bk (0))), (1, .int (v)), (2, .int (x)), (3, .int (lp_vol a v ab (z 0) 0 (-1)))]) hx hb d_M_volume_139 hl (k := 6) rfl (nI_1 _) (by decide) rfl (fun ls hl => ?_)
            refine lv_goto (tgt := 33) hx hb d_M_volume_142 (by decide) ?_
            exact ih (lp_vol a v ab (z 0) 0 (-1)) ab 0 (kk + 1) (Or.inl rfl) hab (by rw [hR, lp_mvol, if_neg c_101, if_neg c_107, if_pos c_113]) _ _ _ hP hD hS (lv_sub hl [3, 4, 5, 6, 1, 2, 0] rfl)
          · exact absurd c_114 (by decide)
        · have c_113 : ¬ (lp_vol a v ab (z 0) 0 (-1)) < 0 := c_113
          have hv := ((vol_sp (a := a) (v := v) (x := ab) (n := z 0) (by omega)).elim (fun q => absurd q c_113) (fun q => q) : vp_in (lp_vol a v ab (z 0) 0 (-1)) (z 0) ∧ ab < a 5 (lp_vol a v ab (z 0) 0 (-1)).toNatClampNeg ∧ a 12 (lp_vol a v ab (z 0) 0 (-1)).toNatClampNeg = v)
          refine lv_iconst (v := 1) hx hb d_M_volume_114 (by decide) ?_
          refine lv_goto (tgt := 119) hx hb d_M_volume_115 (by decide) ?_
          refine lv_istore (lv' := [(5, .int (1)), (0, .ref (bk (0))), (1, .int (v)), (2, .int (x)), (3, .int (lp_vol a v ab (z 0) 0 (-1))), (4, .int (ab)), (6, .int (nI kk))]) hx hb d_M_volume_119 hl (by decide) rfl (fun ls hl => ?_)
          refine lv_iload hx hb d_M_volume_121 (lv_at hl 0 rfl) ?_
          refine lv_if_eq (tgt := 135) hx hb d_M_volume_123 (by decide) (fun c_115 => ?_) (fun c_115 => ?_)
          · exact absurd c_115 (by decide)
          · skip
            refine lv_aload_n hx hb d_M_volume_126 rfl (lv_at hl 1 rfl) ?_
            refine pw_get (ci := 7) (v := .ref (bk (5))) hx hb hw i_M hown hK hP (0) (by decide) rfl rfl 6 (by decide) (hw _ kF_M_22) rfl d_M_volume_127 ?_
            refine lv_iload_n hx hb d_M_volume_130 rfl (lv_at hl 4 rfl) ?_
            refine pw_ialdC (n := 200) (f := (a 5)) hx hb hK hP 0 (5) (by decide) rfl rfl (vp_mono hv.1 hz) d_M_volume_131 ?_
            refine lv_goto (tgt := 137) hx hb d_M_volume_132 (by decide) ?_
            refine lv_istore (lv' := [(4, .int ((a 5) (lp_vol a v ab (z 0) 0 (-1)).toNatClampNeg)), (5, .int (1)), (0, .ref (bk (0))), (1, .int (v)), (2, .int (x)), (3, .int (lp_vol a v ab (z 0) 0 (-1))), (6, .int (nI kk))]) hx hb d_M_volume_137 hl (by decide) rfl (fun ls hl => ?_)
            refine lv_iinc (v := nI (kk + 1)) (lv' := [(6, .int (nI (kk + 1))), (4, .int ((a 5) (lp_vol a v ab (z 0) 0 (-1)).toNatClampNeg)), (5, .int (1)), (0, .ref (bk (0))), (1, .int (v)), (2, .int (x)), (3, .int (lp_vol a v ab (z 0) 0 (-1)))]) hx hb d_M_volume_139 hl (k := 6) rfl (nI_1 _) (by decide) rfl (fun ls hl => ?_)
            refine lv_goto (tgt := 33) hx hb d_M_volume_142 (by decide) ?_
            exact ih (lp_vol a v ab (z 0) 0 (-1)) ((a 5) (lp_vol a v ab (z 0) 0 (-1)).toNatClampNeg) 1 (kk + 1) (Or.inr (by have h8 := hv.2.1; rw [Int32.lt_iff_toInt_lt] at h8; have h7 := hf.elim (fun q => absurd q c_107) (fun q => q); show (9999 : Int) < (a 5 _).toInt + (k : Nat); omega)) (ho _ (vp_lt9 hv.1)).2 (by rw [hR, lp_mvol, if_neg c_101, if_neg c_107, if_neg c_113]) _ _ _ hP hD hS (lv_sub hl [3, 4, 5, 6, 1, 2, 0] rfl)
def s_M_volume (th : Int32) (z : Nat → Nat) (a : Nat → Nat → Int32) (v : Int32) (x : Int32) : MS := (if 0 ≤ v ∧ v ≤ ((nI (z 2)) - 1) then (if x < 0 then (lp_mvol th z a v x 10000 (-1) 0 0 0) else (lp_mvol th z a v x 10000 (-1) 0 1 0)) else (lp_mvol th z a v x 10000 (-1) 0 0 0))
set_option maxHeartbeats 4000000 in
set_option maxRecDepth 100000 in
theorem c_M_volume (l : Launch) (D : va_G) (cs : Nat → ClassId) (bk : Nat → Nat) (sz : Nat) (th : Int32) (z : Nat → Nat) (a : Nat → Nat → Int32) (hz : z 0 ≤ 200) (ho : ∀ j, j < z 0 → 1 ≤ a 5 j ∧ a 5 j ≤ 9999) (v x : Int32) : Met l y_M_volume w_M_volume ({ frames := 1, cells := 0, slots := 0, locals := 22 }) (va_Pc [.ref (bk (0)), .int (v), .int (x)] (PB D classes (TY cs) 28 bk (MW cs th z a bk) sz)) (va_Qi (Mr cs bk (s_M_volume th z a v x)) (Wd D classes (TY cs) (AA 28 bk sz)) (AA 28 bk sz)) 0 0 (AA 28 bk sz) := by
  refine pw_entry (cc := b_M_volume) (maxL := 8) (ret := (some .int)) (by decide +kernel) rfl (Nat.le_of_ble_eq_true rfl) ?_
  intro p_ e_ s m below_ meth_ c_ ls hx hb hr hml hts hown hlocks hin hsz hP hK hD hS hA hN hl
  have hw : ∀ w ∈ WA, w.before _ s = true := fun w h => hts w (List.mem_cons_of_mem _ h)
  have hown : s.vm.findClass "IssueRowsModel" = some m.cls := hown
  have hl : lv_has ls 8 [(0, .ref (bk (0))), (1, .int (v)), (2, .int (x))] := hl
  refine lv_iconst (v := -1) hx hb d_M_volume_0 (by decide) ?_
  refine lv_istore_n (lv' := [(3, .int (-1)), (0, .ref (bk (0))), (1, .int (v)), (2, .int (x))]) hx hb d_M_volume_1 rfl hl (by decide) rfl (fun ls hl => ?_)
  refine lv_iconst (v := 0) hx hb d_M_volume_2 (by decide) ?_
  refine lv_istore (lv' := [(4, .int (0)), (3, .int (-1)), (0, .ref (bk (0))), (1, .int (v)), (2, .int (x))]) hx hb d_M_volume_3 hl (by decide) rfl (fun ls hl => ?_)
  refine lv_iload_n hx hb d_M_volume_5 rfl (lv_at hl 3 rfl) ?_
  refine lv_iconst (v := 0) hx hb d_M_volume_6 (by decide) ?_
  refine lv_aload_n hx hb d_M_volume_7 rfl (lv_at hl 2 rfl) ?_
  refine pw_get (ci := 7) (v := .int (nI (z 2))) hx hb hw i_M hown hK hP (0) (by decide) rfl rfl 25 (by decide) (hw _ kF_M_135) rfl d_M_volume_8 ?_
  refine lv_iconst (v := 1) hx hb d_M_volume_11 (by decide) ?_
  refine lv_isub hx hb d_M_volume_12 ?_
  refine pw_callSi (va_runS (As := [.int (v), .int (0), .int ((nI (z 2)) - 1)]) (rest := []) ⟨hx, hb, hml, hown, hw⟩ (c_M_in l D cs bk s.heap.size th z a v 0 ((nI (z 2)) - 1)) (cw_S 3 hw kM_M_97 kS_M_in kZ_M kC_M_in rfl rfl ⟨rfl, by decide, by decide, by decide +kernel⟩ ⟨Nat.le_of_ble_eq_true rfl, Nat.le_of_ble_eq_true rfl⟩) (pw_preS hN hK hP hD) rfl rfl hl.1 rfl (lv_room (Nat.le_of_ble_eq_true rfl)) d_M_volume_13 ⟨Nat.le_of_ble_eq_true rfl, Nat.le_of_ble_eq_true rfl⟩) (fun r_1 hr_1 => ?_)
  have hr_1 : r_1 = bI (0 ≤ v ∧ v ≤ ((nI (z 2)) - 1)) := hr_1
  subst hr_1
  refine pw_ifeq (tgt := 27) hx hb d_M_volume_16 (by decide) (fun c_2 => ?_) (fun c_2 => ?_)
  · have c_2 : ¬ (0 ≤ v ∧ v ≤ ((nI (z 2)) - 1)) := c_2
    refine lv_iconst (v := 0) hx hb d_M_volume_27 (by decide) ?_
    refine lv_istore (lv' := [(5, .int (0)), (4, .int (0)), (3, .int (-1)), (0, .ref (bk (0))), (1, .int (v)), (2, .int (x))]) hx hb d_M_volume_28 hl (by decide) rfl (fun ls hl => ?_)
    refine lv_iconst (v := 0) hx hb d_M_volume_30 (by decide) ?_
    refine lv_istore (lv' := [(6, .int (0)), (5, .int (0)), (4, .int (0)), (3, .int (-1)), (0, .ref (bk (0))), (1, .int (v)), (2, .int (x))]) hx hb d_M_volume_31 hl (by decide) rfl (fun ls hl => ?_)
    exact l_M_volume th z a hz ho v x _ hx hb hr hml hw hown hlocks hA hN hK 10000 (-1) 0 0 0 (Or.inr (by decide)) (by decide) (by rw [s_M_volume, if_neg c_2]) _ _ _ hP hD hS (lv_sub hl [4, 5, 6, 3, 2, 1, 0] rfl)
  · have c_2 : 0 ≤ v ∧ v ≤ ((nI (z 2)) - 1) := c_2
    refine lv_iload_n hx hb d_M_volume_19 rfl (lv_at hl 4 rfl) ?_
    refine lv_if_lt (tgt := 27) hx hb d_M_volume_20 (by decide) (fun c_3 => ?_) (fun c_3 => ?_)
    · have c_3 : x < 0 := c_3
      refine lv_iconst (v := 0) hx hb d_M_volume_27 (by decide) ?_
      refine lv_istore (lv' := [(5, .int (0)), (4, .int (0)), (3, .int (-1)), (0, .ref (bk (0))), (1, .int (v)), (2, .int (x))]) hx hb d_M_volume_28 hl (by decide) rfl (fun ls hl => ?_)
      refine lv_iconst (v := 0) hx hb d_M_volume_30 (by decide) ?_
      refine lv_istore (lv' := [(6, .int (0)), (5, .int (0)), (4, .int (0)), (3, .int (-1)), (0, .ref (bk (0))), (1, .int (v)), (2, .int (x))]) hx hb d_M_volume_31 hl (by decide) rfl (fun ls hl => ?_)
      exact l_M_volume th z a hz ho v x _ hx hb hr hml hw hown hlocks hA hN hK 10000 (-1) 0 0 0 (Or.inr (by decide)) (by decide) (by rw [s_M_volume, if_pos c_2, if_pos c_3]) _ _ _ hP hD hS (lv_sub hl [4, 5, 6, 3, 2, 1, 0] rfl)
    · have c_3 : ¬ x < 0 := c_3
      refine lv_iconst (v := 1) hx hb d_M_volume_23 (by decide) ?_
      refine lv_goto (tgt := 28) hx hb d_M_volume_24 (by decide) ?_
      refine lv_istore (lv' := [(5, .int (1)), (4, .int (0)), (3, .int (-1)), (0, .ref (bk (0))), (1, .int (v)), (2, .int (x))]) hx hb d_M_volume_28 hl (by decide) rfl (fun ls hl => ?_)
      refine lv_iconst (v := 0) hx hb d_M_volume_30 (by decide) ?_
      refine lv_istore (lv' := [(6, .int (0)), (5, .int (1)), (4, .int (0)), (3, .int (-1)), (0, .ref (bk (0))), (1, .int (v)), (2, .int (x))]) hx hb d_M_volume_31 hl (by decide) rfl (fun ls hl => ?_)
      exact l_M_volume th z a hz ho v x _ hx hb hr hml hw hown hlocks hA hN hK 10000 (-1) 0 1 0 (Or.inr (by decide)) (by decide) (by rw [s_M_volume, if_pos c_2, if_neg c_3]) _ _ _ hP hD hS (lv_sub hl [4, 5, 6, 3, 2, 1, 0] rfl)

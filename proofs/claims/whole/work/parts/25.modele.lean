def lp_nextHere (a : Nat → Nat → Int32) (pt above : Int32) : Nat → Nat → Int32 → Int32
  | 0, i, best => best
  | k + 1, i, best => (if ((a 4) (i)) = pt then (if ((a 6) (i)) = 3 then (if above < ((a 5) (i)) then (if best < 0 then (lp_nextHere a pt above k (i + 1) (nI i)) else (if ((a 5) (best).toNatClampNeg) ≤ ((a 5) (i)) then (lp_nextHere a pt above k (i + 1) best) else (lp_nextHere a pt above k (i + 1) (nI i)))) else (lp_nextHere a pt above k (i + 1) best)) else (lp_nextHere a pt above k (i + 1) best)) else (lp_nextHere a pt above k (i + 1) best))
set_option maxHeartbeats 4000000 in
set_option maxRecDepth 100000 in
theorem l_M_nextHere {p_ : Program} {l : Launch} {e_ : Env} {s : State} {m : MethodId} {below_ : List Frame} {meth_ : Method} {c_ : Code} {D : va_G} {cs : Nat → ClassId} {bk : Nat → Nat} {sz : Nat} (th : Int32) (z : Nat → Nat) (a : Nat → Nat → Int32) (hz : z 0 ≤ 200) (pt above : Int32) (R : Int32) (hx : p_.tables.exec = Jvm.exec) (hb : c_.code = b_M_nextHere) (hr : meth_.sig.returnType = (some .int)) (hml : c_.maxLocals = 5) (hw : ∀ w ∈ WA, w.before ([.ref (bk (0)), .int (pt), .int (above)] : List Value).toArray s = true) (hown : s.vm.findClass "IssueRowsModel" = some m.cls) (hlocks : meth_.locks = false) (hA : ∀ q, s.heap.size ≤ q → AA 28 bk sz q) (hN : NN s) (hK : va_K D classes (TY cs) s) (hP : va_P D classes (wl 28 bk (MW cs th z a bk)) s.heap) (hD : va_D (AA 28 bk sz) (wl 28 bk (MW cs th z a bk))) : ∀ (k : Nat) (i : Nat) (best : Int32), (i + k = z 0) → (best < 0 ∨ vp_in best 200) → (R = lp_nextHere a pt above k i best) → ∀ (ls : Array Slot), lv_has ls 5 [(0, .ref (bk (0))), (1, .int (pt)), (2, .int (above)), (3, .int (best)), (4, .int (nI i))] → W p_ l e_ ({ frames := 0, cells := 0, slots := 0, locals := 0 }) s m ([.ref (bk (0)), .int (pt), .int (above)] : List Value).toArray below_ meth_ c_ s.heap [] 0 0 (MQ below_ (vp_Si (fun r => r = R)) ([.ref (bk (0)), .int (pt), .int (above)] : List Value).toArray s 0 0 (fun _ => False)) (F0 m 5 ls []) := by
  intro k
  induction k with
  | zero =>
    intro i best hf hbe hR ls hl
    refine lv_iload hx hb d_M_nextHere_5 (lv_at hl 4 rfl) ?_
    refine lv_aload_n hx hb d_M_nextHere_7 rfl (lv_at hl 0 rfl) ?_
    refine pw_get (ci := 7) (v := .int (nI (z 0))) hx hb hw i_M hown hK hP (0) (by decide) rfl rfl 4 (by decide) (hw _ kF_M_101) rfl d_M_nextHere_8 ?_
    refine lv_icmp_ge (tgt := 79) hx hb d_M_nextHere_11 (by decide) (fun c_1 => ?_) (fun c_1 => ?_)
    · have c_1 : (nI (z 0)) ≤ (nI i) := c_1
      refine lv_iload_n hx hb d_M_nextHere_79 rfl (lv_at hl 3 rfl) ?_
      exact W.iret (v := best) hx hb hr (fun t ht hW => ⟨best, rfl, (by rw [hR, lp_nextHere]), ht⟩) (fun q h => by cases h) d_M_nextHere_80
    · have c_1 : ¬ (nI (z 0)) ≤ (nI i) := c_1
      exact absurd ((nI_leI (by omega) (by omega)).mpr (by omega)) c_1
  | succ k ih =>
    intro i best hf hbe hR ls hl
    refine lv_iload hx hb d_M_nextHere_5 (lv_at hl 4 rfl) ?_
    refine lv_aload_n hx hb d_M_nextHere_7 rfl (lv_at hl 0 rfl) ?_
    refine pw_get (ci := 7) (v := .int (nI (z 0))) hx hb hw i_M hown hK hP (0) (by decide) rfl rfl 4 (by decide) (hw _ kF_M_101) rfl d_M_nextHere_8 ?_
    refine lv_icmp_ge (tgt := 79) hx hb d_M_nextHere_11 (by decide) (fun c_101 => ?_) (fun c_101 => ?_)
    · have c_101 : (nI (z 0)) ≤ (nI i) := c_101
      exact absurd ((nI_leI (by omega) (by omega)).mp c_101) (by omega)
    · have c_101 : ¬ (nI (z 0)) ≤ (nI i) := c_101
      refine lv_aload_n hx hb d_M_nextHere_14 rfl (lv_at hl 0 rfl) ?_
      refine pw_get (ci := 7) (v := .ref (bk (4))) hx hb hw i_M hown hK hP (0) (by decide) rfl rfl 5 (by decide) (hw _ kF_M_19) rfl d_M_nextHere_15 ?_
      refine lv_iload hx hb d_M_nextHere_18 (lv_at hl 4 rfl) ?_
      refine pw_iald (n := 200) (f := (a 4)) hx hb hK hP 0 (4) (by decide) rfl rfl (i) rfl (by omega) (by decide) d_M_nextHere_20 ?_
      refine lv_iload_n hx hb d_M_nextHere_21 rfl (lv_at hl 1 rfl) ?_
      refine lv_icmp_ne (tgt := 73) hx hb d_M_nextHere_22 (by decide) (fun c_102 => ?_) (fun c_102 => ?_)
      · have c_102 : ¬ ((a 4) (i)) = pt := c_102
        refine lv_iinc (v := nI (i + 1)) (lv' := [(4, .int (nI (i + 1))), (0, .ref (bk (0))), (1, .int (pt)), (2, .int (above)), (3, .int (best))]) hx hb d_M_nextHere_73 hl (k := 4) rfl (nI_1 _) (by decide) rfl (fun ls hl => ?_)
        refine lv_goto (tgt := 5) hx hb d_M_nextHere_76 (by decide) ?_
        exact ih (i + 1) best (by omega) hbe (by rw [hR, lp_nextHere, if_neg c_102]) _ (lv_sub hl [1, 2, 3, 4, 0] rfl)
      · have c_102 : ((a 4) (i)) = pt := c_102
        refine lv_aload_n hx hb d_M_nextHere_25 rfl (lv_at hl 0 rfl) ?_
        refine pw_get (ci := 7) (v := .ref (bk (6))) hx hb hw i_M hown hK hP (0) (by decide) rfl rfl 7 (by decide) (hw _ kF_M_25) rfl d_M_nextHere_26 ?_
        refine lv_iload hx hb d_M_nextHere_29 (lv_at hl 4 rfl) ?_
        refine pw_iald (n := 200) (f := (a 6)) hx hb hK hP 0 (6) (by decide) rfl rfl (i) rfl (by omega) (by decide) d_M_nextHere_31 ?_
        refine lv_iconst (v := 3) hx hb d_M_nextHere_32 (by decide) ?_
        refine lv_icmp_ne (tgt := 73) hx hb d_M_nextHere_33 (by decide) (fun c_103 => ?_) (fun c_103 => ?_)
        · have c_103 : ¬ ((a 6) (i)) = 3 := c_103
          refine lv_iinc (v := nI (i + 1)) (lv' := [(4, .int (nI (i + 1))), (0, .ref (bk (0))), (1, .int (pt)), (2, .int (above)), (3, .int (best))]) hx hb d_M_nextHere_73 hl (k := 4) rfl (nI_1 _) (by decide) rfl (fun ls hl => ?_)
          refine lv_goto (tgt := 5) hx hb d_M_nextHere_76 (by decide) ?_
          exact ih (i + 1) best (by omega) hbe (by rw [hR, lp_nextHere, if_pos c_102, if_neg c_103]) _ (lv_sub hl [1, 2, 3, 4, 0] rfl)
        · have c_103 : ((a 6) (i)) = 3 := c_103
          refine lv_aload_n hx hb d_M_nextHere_36 rfl (lv_at hl 0 rfl) ?_
          refine pw_get (ci := 7) (v := .ref (bk (5))) hx hb hw i_M hown hK hP (0) (by decide) rfl rfl 6 (by decide) (hw _ kF_M_22) rfl d_M_nextHere_37 ?_
          refine lv_iload hx hb d_M_nextHere_40 (lv_at hl 4 rfl) ?_
          refine pw_iald (n := 200) (f := (a 5)) hx hb hK hP 0 (5) (by decide) rfl rfl (i) rfl (by omega) (by decide) d_M_nextHere_42 ?_
          refine lv_iload_n hx hb d_M_nextHere_43 rfl (lv_at hl 2 rfl) ?_
          refine lv_icmp_gt (tgt := 50) hx hb d_M_nextHere_44 (by decide) (fun c_104 => ?_) (fun c_104 => ?_)
          · have c_104 : above < ((a 5) (i)) := c_104
            refine lv_iload_n hx hb d_M_nextHere_50 rfl (lv_at hl 3 rfl) ?_
            refine lv_if_lt (tgt := 70) hx hb d_M_nextHere_51 (by decide) (fun c_105 => ?_) (fun c_105 => ?_)
            · have c_105 : best < 0 := c_105
              refine lv_iload hx hb d_M_nextHere_70 (lv_at hl 4 rfl) ?_
              refine lv_istore_n (lv' := [(3, .int (nI i)), (0, .ref (bk (0))), (1, .int (pt)), (2, .int (above)), (4, .int (nI i))]) hx hb d_M_nextHere_72 rfl hl (by decide) rfl (fun ls hl => ?_)
              refine lv_iinc (v := nI (i + 1)) (lv' := [(4, .int (nI (i + 1))), (3, .int (nI i)), (0, .ref (bk (0))), (1, .int (pt)), (2, .int (above))]) hx hb d_M_nextHere_73 hl (k := 4) rfl (nI_1 _) (by decide) rfl (fun ls hl => ?_)
              refine lv_goto (tgt := 5) hx hb d_M_nextHere_76 (by decide) ?_
              exact ih (i + 1) (nI i) (by omega) (Or.inr (vp_in_nI (by omega) (by decide))) (by rw [hR, lp_nextHere, if_pos c_102, if_pos c_103, if_pos c_104, if_pos c_105]) _ (lv_sub hl [2, 3, 4, 1, 0] rfl)
            · have c_105 : ¬ best < 0 := c_105
              refine lv_aload_n hx hb d_M_nextHere_54 rfl (lv_at hl 0 rfl) ?_
              refine pw_get (ci := 7) (v := .ref (bk (5))) hx hb hw i_M hown hK hP (0) (by decide) rfl rfl 6 (by decide) (hw _ kF_M_22) rfl d_M_nextHere_55 ?_
              refine lv_iload hx hb d_M_nextHere_58 (lv_at hl 4 rfl) ?_
              refine pw_iald (n := 200) (f := (a 5)) hx hb hK hP 0 (5) (by decide) rfl rfl (i) rfl (by omega) (by decide) d_M_nextHere_60 ?_
              refine lv_aload_n hx hb d_M_nextHere_61 rfl (lv_at hl 0 rfl) ?_
              refine pw_get (ci := 7) (v := .ref (bk (5))) hx hb hw i_M hown hK hP (0) (by decide) rfl rfl 6 (by decide) (hw _ kF_M_22) rfl d_M_nextHere_62 ?_
              refine lv_iload_n hx hb d_M_nextHere_65 rfl (lv_at hl 3 rfl) ?_
              refine pw_ialdC (n := 200) (f := (a 5)) hx hb hK hP 0 (5) (by decide) rfl rfl (hbe.elim (fun h => absurd h c_105) (fun h => h)) d_M_nextHere_66 ?_
              refine lv_icmp_ge (tgt := 73) hx hb d_M_nextHere_67 (by decide) (fun c_106 => ?_) (fun c_106 => ?_)
              · have c_106 : ((a 5) (best).toNatClampNeg) ≤ ((a 5) (i)) := c_106
                refine lv_iinc (v := nI (i + 1)) (lv' := [(4, .int (nI (i + 1))), (0, .ref (bk (0))), (1, .int (pt)), (2, .int (above)), (3, .int (best))]) hx hb d_M_nextHere_73 hl (k := 4) rfl (nI_1 _) (by decide) rfl (fun ls hl => ?_)
                refine lv_goto (tgt := 5) hx hb d_M_nextHere_76 (by decide) ?_
                exact ih (i + 1) best (by omega) hbe (by rw [hR, lp_nextHere, if_pos c_102, if_pos c_103, if_pos c_104, if_neg c_105, if_pos c_106]) _ (lv_sub hl [1, 2, 3, 4, 0] rfl)
              · have c_106 : ¬ ((a 5) (best).toNatClampNeg) ≤ ((a 5) (i)) := c_106
                refine lv_iload hx hb d_M_nextHere_70 (lv_at hl 4 rfl) ?_
                refine lv_istore_n (lv' := [(3, .int (nI i)), (0, .ref (bk (0))), (1, .int (pt)), (2, .int (above)), (4, .int (nI i))]) hx hb d_M_nextHere_72 rfl hl (by decide) rfl (fun ls hl => ?_)
                refine lv_iinc (v := nI (i + 1)) (lv' := [(4, .int (nI (i + 1))), (3, .int (nI i)), (0, .ref (bk (0))), (1, .int (pt)), (2, .int (above))]) hx hb d_M_nextHere_73 hl (k := 4) rfl (nI_1 _) (by decide) rfl (fun ls hl => ?_)
                refine lv_goto (tgt := 5) hx hb d_M_nextHere_76 (by decide) ?_
                exact ih (i + 1) (nI i) (by omega) (Or.inr (vp_in_nI (by omega) (by decide))) (by rw [hR, lp_nextHere, if_pos c_102, if_pos c_103, if_pos c_104, if_neg c_105, if_neg c_106]) _ (lv_sub hl [2, 3, 4, 1, 0] rfl)
          · have c_104 : ¬ above < ((a 5) (i)) := c_104
            refine lv_goto (tgt := 73) hx hb d_M_nextHere_47 (by decide) ?_
            refine lv_iinc (v := nI (i + 1)) (lv' := [(4, .int (nI (i + 1))), (0, .ref (bk (0))), (1, .int (pt)), (2, .int (above)), (3, .int (best))]) hx hb d_M_nextHere_73 hl (k := 4) rfl (nI_1 _) (by decide) rfl (fun ls hl => ?_)
            refine lv_goto (tgt := 5) hx hb d_M_nextHere_76 (by decide) ?_
            exact ih (i + 1) best (by omega) hbe (by rw [hR, lp_nextHere, if_pos c_102, if_pos c_103, if_neg c_104]) _ (lv_sub hl [1, 2, 3, 4, 0] rfl)
set_option maxHeartbeats 4000000 in
set_option maxRecDepth 100000 in
theorem c_M_nextHere (l : Launch) (D : va_G) (cs : Nat → ClassId) (bk : Nat → Nat) (sz : Nat) (th : Int32) (z : Nat → Nat) (a : Nat → Nat → Int32) (hz : z 0 ≤ 200) (pt above : Int32) : Met l y_M_nextHere w_M_nextHere ({ frames := 0, cells := 0, slots := 0, locals := 0 }) (va_Pc [.ref (bk (0)), .int (pt), .int (above)] (PB D classes (TY cs) 28 bk (MW cs th z a bk) sz)) (vp_Si (fun r => r = lp_nextHere a pt above (z 0) 0 (-1))) 0 0 (fun _ => False) := by
  refine pw_entry (cc := b_M_nextHere) (maxL := 5) (ret := (some .int)) (by decide +kernel) rfl (Nat.le_of_ble_eq_true rfl) ?_
  intro p_ e_ s m below_ meth_ c_ ls hx hb hr hml hts hown hlocks hin hsz hP hK hD hS hA hN hl
  have hw : ∀ w ∈ WA, w.before _ s = true := fun w h => hts w (List.mem_cons_of_mem _ h)
  have hown : s.vm.findClass "IssueRowsModel" = some m.cls := hown
  have hl : lv_has ls 5 [(0, .ref (bk (0))), (1, .int (pt)), (2, .int (above))] := hl
  refine lv_iconst (v := -1) hx hb d_M_nextHere_0 (by decide) ?_
  refine lv_istore_n (lv' := [(3, .int (-1)), (0, .ref (bk (0))), (1, .int (pt)), (2, .int (above))]) hx hb d_M_nextHere_1 rfl hl (by decide) rfl (fun ls hl => ?_)
  refine lv_iconst (v := 0) hx hb d_M_nextHere_2 (by decide) ?_
  refine lv_istore (lv' := [(4, .int (0)), (3, .int (-1)), (0, .ref (bk (0))), (1, .int (pt)), (2, .int (above))]) hx hb d_M_nextHere_3 hl (by decide) rfl (fun ls hl => ?_)
  exact l_M_nextHere th z a hz pt above _ hx hb hr hml hw hown hlocks hA hN hK hP hD (z 0) 0 (-1) (by omega) (Or.inl (by decide)) rfl _ (lv_sub hl [2, 3, 4, 1, 0] rfl)
def lp_next (a : Nat → Nat → Int32) (pt above : Int32) : Nat → Nat → Int32 → Int32
  | 0, i, best => best
  | k + 1, i, best => (if ((a 4) (i)) = pt then (if ((a 6) (i)) = 6 then (lp_next a pt above k (i + 1) best) else (if above < ((a 5) (i)) then (if best < 0 then (lp_next a pt above k (i + 1) (nI i)) else (if ((a 5) (best).toNatClampNeg) ≤ ((a 5) (i)) then (lp_next a pt above k (i + 1) best) else (lp_next a pt above k (i + 1) (nI i)))) else (lp_next a pt above k (i + 1) best))) else (lp_next a pt above k (i + 1) best))
set_option maxHeartbeats 4000000 in
set_option maxRecDepth 100000 in
theorem l_M_next {p_ : Program} {l : Launch} {e_ : Env} {s : State} {m : MethodId} {below_ : List Frame} {meth_ : Method} {c_ : Code} {D : va_G} {cs : Nat → ClassId} {bk : Nat → Nat} {sz : Nat} (th : Int32) (z : Nat → Nat) (a : Nat → Nat → Int32) (hz : z 0 ≤ 200) (pt above : Int32) (R : Int32) (hx : p_.tables.exec = Jvm.exec) (hb : c_.code = b_M_next) (hr : meth_.sig.returnType = (some .int)) (hml : c_.maxLocals = 5) (hw : ∀ w ∈ WA, w.before ([.ref (bk (0)), .int (pt), .int (above)] : List Value).toArray s = true) (hown : s.vm.findClass "IssueRowsModel" = some m.cls) (hlocks : meth_.locks = false) (hA : ∀ q, s.heap.size ≤ q → AA 28 bk sz q) (hN : NN s) (hK : va_K D classes (TY cs) s) (hP : va_P D classes (wl 28 bk (MW cs th z a bk)) s.heap) (hD : va_D (AA 28 bk sz) (wl 28 bk (MW cs th z a bk))) : ∀ (k : Nat) (i : Nat) (best : Int32), (i + k = z 0) → (best < 0 ∨ vp_in best 200) → (R = lp_next a pt above k i best) → ∀ (ls : Array Slot), lv_has ls 5 [(0, .ref (bk (0))), (1, .int (pt)), (2, .int (above)), (3, .int (best)), (4, .int (nI i))] → W p_ l e_ ({ frames := 0, cells := 0, slots := 0, locals := 0 }) s m ([.ref (bk (0)), .int (pt), .int (above)] : List Value).toArray below_ meth_ c_ s.heap [] 0 0 (MQ below_ (vp_Si (fun r => r = R)) ([.ref (bk (0)), .int (pt), .int (above)] : List Value).toArray s 0 0 (fun _ => False)) (F0 m 5 ls []) := by
  intro k
  induction k with
  | zero =>
    intro i best hf hbe hR ls hl
    refine lv_iload hx hb d_M_next_5 (lv_at hl 4 rfl) ?_
    refine lv_aload_n hx hb d_M_next_7 rfl (lv_at hl 0 rfl) ?_
    refine pw_get (ci := 7) (v := .int (nI (z 0))) hx hb hw i_M hown hK hP (0) (by decide) rfl rfl 4 (by decide) (hw _ kF_M_101) rfl d_M_next_8 ?_
    refine lv_icmp_ge (tgt := 80) hx hb d_M_next_11 (by decide) (fun c_1 => ?_) (fun c_1 => ?_)
    · have c_1 : (nI (z 0)) ≤ (nI i) := c_1
      refine lv_iload_n hx hb d_M_next_80 rfl (lv_at hl 3 rfl) ?_
      exact W.iret (v := best) hx hb hr (fun t ht hW => ⟨best, rfl, (by rw [hR, lp_next]), ht⟩) (fun q h => by cases h) d_M_next_81
    · have c_1 : ¬ (nI (z 0)) ≤ (nI i) := c_1
      exact absurd ((nI_leI (by omega) (by omega)).mpr (by omega)) c_1
  | succ k ih =>
    intro i best hf hbe hR ls hl
    refine lv_iload hx hb d_M_next_5 (lv_at hl 4 rfl) ?_
    refine lv_aload_n hx hb d_M_next_7 rfl (lv_at hl 0 rfl) ?_
    refine pw_get (ci := 7) (v := .int (nI (z 0))) hx hb hw i_M hown hK hP (0) (by decide) rfl rfl 4 (by decide) (hw _ kF_M_101) rfl d_M_next_8 ?_
    refine lv_icmp_ge (tgt := 80) hx hb d_M_next_11 (by decide) (fun c_101 => ?_) (fun c_101 => ?_)
    · have c_101 : (nI (z 0)) ≤ (nI i) := c_101
      exact absurd ((nI_leI (by omega) (by omega)).mp c_101) (by omega)
    · have c_101 : ¬ (nI (z 0)) ≤ (nI i) := c_101
      refine lv_aload_n hx hb d_M_next_14 rfl (lv_at hl 0 rfl) ?_
      refine pw_get (ci := 7) (v := .ref (bk (4))) hx hb hw i_M hown hK hP (0) (by decide) rfl rfl 5 (by decide) (hw _ kF_M_19) rfl d_M_next_15 ?_
      refine lv_iload hx hb d_M_next_18 (lv_at hl 4 rfl) ?_
      refine pw_iald (n := 200) (f := (a 4)) hx hb hK hP 0 (4) (by decide) rfl rfl (i) rfl (by omega) (by decide) d_M_next_20 ?_
      refine lv_iload_n hx hb d_M_next_21 rfl (lv_at hl 1 rfl) ?_
      refine lv_icmp_ne (tgt := 74) hx hb d_M_next_22 (by decide) (fun c_102 => ?_) (fun c_102 => ?_)
      · have c_102 : ¬ ((a 4) (i)) = pt := c_102
        refine lv_iinc (v := nI (i + 1)) (lv' := [(4, .int (nI (i + 1))), (0, .ref (bk (0))), (1, .int (pt)), (2, .int (above)), (3, .int (best))]) hx hb d_M_next_74 hl (k := 4) rfl (nI_1 _) (by decide) rfl (fun ls hl => ?_)
        refine lv_goto (tgt := 5) hx hb d_M_next_77 (by decide) ?_
        exact ih (i + 1) best (by omega) hbe (by rw [hR, lp_next, if_neg c_102]) _ (lv_sub hl [1, 2, 3, 4, 0] rfl)
      · have c_102 : ((a 4) (i)) = pt := c_102
        refine lv_aload_n hx hb d_M_next_25 rfl (lv_at hl 0 rfl) ?_
        refine pw_get (ci := 7) (v := .ref (bk (6))) hx hb hw i_M hown hK hP (0) (by decide) rfl rfl 7 (by decide) (hw _ kF_M_25) rfl d_M_next_26 ?_
        refine lv_iload hx hb d_M_next_29 (lv_at hl 4 rfl) ?_
        refine pw_iald (n := 200) (f := (a 6)) hx hb hK hP 0 (6) (by decide) rfl rfl (i) rfl (by omega) (by decide) d_M_next_31 ?_
        refine lv_bipush (v := 6) hx hb d_M_next_32 (by decide) ?_
        refine lv_icmp_eq (tgt := 74) hx hb d_M_next_34 (by decide) (fun c_103 => ?_) (fun c_103 => ?_)
        · have c_103 : ((a 6) (i)) = 6 := c_103
          refine lv_iinc (v := nI (i + 1)) (lv' := [(4, .int (nI (i + 1))), (0, .ref (bk (0))), (1, .int (pt)), (2, .int (above)), (3, .int (best))]) hx hb d_M_next_74 hl (k := 4) rfl (nI_1 _) (by decide) rfl (fun ls hl => ?_)
          refine lv_goto (tgt := 5) hx hb d_M_next_77 (by decide) ?_
          exact ih (i + 1) best (by omega) hbe (by rw [hR, lp_next, if_pos c_102, if_pos c_103]) _ (lv_sub hl [1, 2, 3, 4, 0] rfl)
        · have c_103 : ¬ ((a 6) (i)) = 6 := c_103
          refine lv_aload_n hx hb d_M_next_37 rfl (lv_at hl 0 rfl) ?_
          refine pw_get (ci := 7) (v := .ref (bk (5))) hx hb hw i_M hown hK hP (0) (by decide) rfl rfl 6 (by decide) (hw _ kF_M_22) rfl d_M_next_38 ?_
          refine lv_iload hx hb d_M_next_41 (lv_at hl 4 rfl) ?_
          refine pw_iald (n := 200) (f := (a 5)) hx hb hK hP 0 (5) (by decide) rfl rfl (i) rfl (by omega) (by decide) d_M_next_43 ?_
          refine lv_iload_n hx hb d_M_next_44 rfl (lv_at hl 2 rfl) ?_
          refine lv_icmp_gt (tgt := 51) hx hb d_M_next_45 (by decide) (fun c_104 => ?_) (fun c_104 => ?_)
          · have c_104 : above < ((a 5) (i)) := c_104
            refine lv_iload_n hx hb d_M_next_51 rfl (lv_at hl 3 rfl) ?_
            refine lv_if_lt (tgt := 71) hx hb d_M_next_52 (by decide) (fun c_105 => ?_) (fun c_105 => ?_)
            · have c_105 : best < 0 := c_105
              refine lv_iload hx hb d_M_next_71 (lv_at hl 4 rfl) ?_
              refine lv_istore_n (lv' := [(3, .int (nI i)), (0, .ref (bk (0))), (1, .int (pt)), (2, .int (above)), (4, .int (nI i))]) hx hb d_M_next_73 rfl hl (by decide) rfl (fun ls hl => ?_)
              refine lv_iinc (v := nI (i + 1)) (lv' := [(4, .int (nI (i + 1))), (3, .int (nI i)), (0, .ref (bk (0))), (1, .int (pt)), (2, .int (above))]) hx hb d_M_next_74 hl (k := 4) rfl (nI_1 _) (by decide) rfl (fun ls hl => ?_)
              refine lv_goto (tgt := 5) hx hb d_M_next_77 (by decide) ?_
              exact ih (i + 1) (nI i) (by omega) (Or.inr (vp_in_nI (by omega) (by decide))) (by rw [hR, lp_next, if_pos c_102, if_neg c_103, if_pos c_104, if_pos c_105]) _ (lv_sub hl [2, 3, 4, 1, 0] rfl)
            · have c_105 : ¬ best < 0 := c_105
              refine lv_aload_n hx hb d_M_next_55 rfl (lv_at hl 0 rfl) ?_
              refine pw_get (ci := 7) (v := .ref (bk (5))) hx hb hw i_M hown hK hP (0) (by decide) rfl rfl 6 (by decide) (hw _ kF_M_22) rfl d_M_next_56 ?_
              refine lv_iload hx hb d_M_next_59 (lv_at hl 4 rfl) ?_
              refine pw_iald (n := 200) (f := (a 5)) hx hb hK hP 0 (5) (by decide) rfl rfl (i) rfl (by omega) (by decide) d_M_next_61 ?_
              refine lv_aload_n hx hb d_M_next_62 rfl (lv_at hl 0 rfl) ?_
              refine pw_get (ci := 7) (v := .ref (bk (5))) hx hb hw i_M hown hK hP (0) (by decide) rfl rfl 6 (by decide) (hw _ kF_M_22) rfl d_M_next_63 ?_
              refine lv_iload_n hx hb d_M_next_66 rfl (lv_at hl 3 rfl) ?_
              refine pw_ialdC (n := 200) (f := (a 5)) hx hb hK hP 0 (5) (by decide) rfl rfl (hbe.elim (fun h => absurd h c_105) (fun h => h)) d_M_next_67 ?_
              refine lv_icmp_ge (tgt := 74) hx hb d_M_next_68 (by decide) (fun c_106 => ?_) (fun c_106 => ?_)
              · have c_106 : ((a 5) (best).toNatClampNeg) ≤ ((a 5) (i)) := c_106
                refine lv_iinc (v := nI (i + 1)) (lv' := [(4, .int (nI (i + 1))), (0, .ref (bk (0))), (1, .int (pt)), (2, .int (above)), (3, .int (best))]) hx hb d_M_next_74 hl (k := 4) rfl (nI_1 _) (by decide) rfl (fun ls hl => ?_)
                refine lv_goto (tgt := 5) hx hb d_M_next_77 (by decide) ?_
                exact ih (i + 1) best (by omega) hbe (by rw [hR, lp_next, if_pos c_102, if_neg c_103, if_pos c_104, if_neg c_105, if_pos c_106]) _ (lv_sub hl [1, 2, 3, 4, 0] rfl)
              · have c_106 : ¬ ((a 5) (best).toNatClampNeg) ≤ ((a 5) (i)) := c_106
                refine lv_iload hx hb d_M_next_71 (lv_at hl 4 rfl) ?_
                refine lv_istore_n (lv' := [(3, .int (nI i)), (0, .ref (bk (0))), (1, .int (pt)), (2, .int (above)), (4, .int (nI i))]) hx hb d_M_next_73 rfl hl (by decide) rfl (fun ls hl => ?_)
                refine lv_iinc (v := nI (i + 1)) (lv' := [(4, .int (nI (i + 1))), (3, .int (nI i)), (0, .ref (bk (0))), (1, .int (pt)), (2, .int (above))]) hx hb d_M_next_74 hl (k := 4) rfl (nI_1 _) (by decide) rfl (fun ls hl => ?_)
                refine lv_goto (tgt := 5) hx hb d_M_next_77 (by decide) ?_
                exact ih (i + 1) (nI i) (by omega) (Or.inr (vp_in_nI (by omega) (by decide))) (by rw [hR, lp_next, if_pos c_102, if_neg c_103, if_pos c_104, if_neg c_105, if_neg c_106]) _ (lv_sub hl [2, 3, 4, 1, 0] rfl)
          · have c_104 : ¬ above < ((a 5) (i)) := c_104
            refine lv_goto (tgt := 74) hx hb d_M_next_48 (by decide) ?_
            refine lv_iinc (v := nI (i + 1)) (lv' := [(4, .int (nI (i + 1))), (0, .ref (bk (0))), (1, .int (pt)), (2, .int (above)), (3, .int (best))]) hx hb d_M_next_74 hl (k := 4) rfl (nI_1 _) (by decide) rfl (fun ls hl => ?_)
            refine lv_goto (tgt := 5) hx hb d_M_next_77 (by decide) ?_
            exact ih (i + 1) best (by omega) hbe (by rw [hR, lp_next, if_pos c_102, if_neg c_103, if_neg c_104]) _ (lv_sub hl [1, 2, 3, 4, 0] rfl)
set_option maxHeartbeats 4000000 in
set_option maxRecDepth 100000 in
theorem c_M_next (l : Launch) (D : va_G) (cs : Nat → ClassId) (bk : Nat → Nat) (sz : Nat) (th : Int32) (z : Nat → Nat) (a : Nat → Nat → Int32) (hz : z 0 ≤ 200) (pt above : Int32) : Met l y_M_next w_M_next ({ frames := 0, cells := 0, slots := 0, locals := 0 }) (va_Pc [.ref (bk (0)), .int (pt), .int (above)] (PB D classes (TY cs) 28 bk (MW cs th z a bk) sz)) (vp_Si (fun r => r = lp_next a pt above (z 0) 0 (-1))) 0 0 (fun _ => False) := by
  refine pw_entry (cc := b_M_next) (maxL := 5) (ret := (some .int)) (by decide +kernel) rfl (Nat.le_of_ble_eq_true rfl) ?_
  intro p_ e_ s m below_ meth_ c_ ls hx hb hr hml hts hown hlocks hin hsz hP hK hD hS hA hN hl
  have hw : ∀ w ∈ WA, w.before _ s = true := fun w h => hts w (List.mem_cons_of_mem _ h)
  have hown : s.vm.findClass "IssueRowsModel" = some m.cls := hown
  have hl : lv_has ls 5 [(0, .ref (bk (0))), (1, .int (pt)), (2, .int (above))] := hl
  refine lv_iconst (v := -1) hx hb d_M_next_0 (by decide) ?_
  refine lv_istore_n (lv' := [(3, .int (-1)), (0, .ref (bk (0))), (1, .int (pt)), (2, .int (above))]) hx hb d_M_next_1 rfl hl (by decide) rfl (fun ls hl => ?_)
  refine lv_iconst (v := 0) hx hb d_M_next_2 (by decide) ?_
  refine lv_istore (lv' := [(4, .int (0)), (3, .int (-1)), (0, .ref (bk (0))), (1, .int (pt)), (2, .int (above))]) hx hb d_M_next_3 hl (by decide) rfl (fun ls hl => ?_)
  exact l_M_next th z a hz pt above _ hx hb hr hml hw hown hlocks hA hN hK hP hD (z 0) 0 (-1) (by omega) (Or.inl (by decide)) rfl _ (lv_sub hl [2, 3, 4, 1, 0] rfl)

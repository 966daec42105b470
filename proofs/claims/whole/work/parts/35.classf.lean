def cB (g : Nat → Nat → Int32) : Nat → Nat
  | 0 => 0
  | n + 1 => cB g n + (if g n 4 = 5 then 1 else 0)
theorem cB_le {g : Nat → Nat → Int32} : ∀ n, cB g n ≤ n
  | 0 => Nat.le_refl _
  | n + 1 => by
    have h := cB_le (g := g) n
    unfold cB
    split <;> omega
theorem cB_lt {g : Nat → Nat → Int32} {j : Nat} (h5 : g j 4 ≠ 5) : ∀ n, j < n → cB g n < n
  | 0, h => absurd h (by omega)
  | n + 1, h => by
    unfold cB
    by_cases hj : j = n
    · subst hj
      rw [if_neg h5]
      have := cB_le (g := g) j
      omega
    · have := cB_lt h5 n (by omega)
      split <;> omega
theorem cB_ne {g : Nat → Nat → Int32} {j : Nat} {h : Nat → Int32} : ∀ n, n ≤ j → cB (va_up g j h) n = cB g n
  | 0, _ => rfl
  | n + 1, hn => by
    unfold cB
    rw [cB_ne n (by omega), va_up_ne _ _ (by omega)]
theorem cB_up {g : Nat → Nat → Int32} {j : Nat} {h : Nat → Int32} (h5 : g j 4 ≠ 5) (hh : h 4 = 5) : ∀ n, j < n → cB (va_up g j h) n = cB g n + 1
  | 0, hn => absurd hn (by omega)
  | n + 1, hn => by
    unfold cB
    by_cases hj : j = n
    · subst hj
      rw [cB_ne j (Nat.le_refl _), va_up_self, if_pos hh, if_neg h5]
    · rw [cB_up h5 hh n (by omega), va_up_ne _ _ (fun e => hj e.symm)]
      omega
def lp_isB (bo : Nat → Nat) (g : Nat → Nat → Int32) (pt : Int32) (nb : Nat) : Nat → Nat → Nat → Int32
  | 0, i, f => (if (nI f) = (nI nb) then 1 else 0)
  | k + 1, i, f => (if (nI nb) ≤ (nI f) then (if (nI f) = (nI nb) then 1 else 0) else (if ((g (bo i)) 0) = pt then (if ((g (bo i)) 4) = 3 then (if 0 ≤ ((g (bo i)) 13) ∧ ((g (bo i)) 13) < ((g (bo i)) 12) then 0 else (lp_isB bo g pt nb k (i + 1) (f + 1))) else (lp_isB bo g pt nb k (i + 1) f)) else (lp_isB bo g pt nb k (i + 1) f)))
set_option maxHeartbeats 4000000 in
set_option maxRecDepth 100000 in
theorem l_X_isBindable {p_ : Program} {l : Launch} {e_ : Env} {s : State} {m : MethodId} {below_ : List Frame} {meth_ : Method} {c_ : Code} {D : va_G} {cs : Nat → ClassId} {bk : Nat → Nat} {sz : Nat} (z : Nat → Nat) (bo : Nat → Nat) (g : Nat → Nat → Int32) (q : Nat → Nat → Int32) (pp : Nat → Nat → Int32) (dd : Nat → Nat → Int32) (n : Nat) (hn : n ≤ 200) (hzn : z 0 = n) (hbo : ∀ t, t < n → bo t < n) (pt : Int32) (nb : Nat) (hnb : nb ≤ 50) (R : Int32) (hx : p_.tables.exec = Jvm.exec) (hb : c_.code = b_X_isBindable) (hr : meth_.sig.returnType = (some .boolean)) (hml : c_.maxLocals = 6) (hw : ∀ w ∈ WA, w.before ([.ref (bk (0)), .int (pt), .int (nI nb)] : List Value).toArray s = true) (hown : s.vm.findClass "IssueRows" = some m.cls) (hlocks : meth_.locks = false) (hA : ∀ q, s.heap.size ≤ q → AA (27 + 4 * n) bk sz q) (hN : NN s) (hK : va_K D classes (TY cs) s) (hP : va_P D classes (wl (27 + 4 * n) bk (CW cs z bo g q pp dd bk)) s.heap) (hD : va_D (AA (27 + 4 * n) bk sz) (wl (27 + 4 * n) bk (CW cs z bo g q pp dd bk))) : ∀ (k : Nat) (i : Nat) (f : Nat), (i + k = n) → (R = lp_isB bo g pt nb k i f) → ∀ (ls : Array Slot), lv_has ls 6 [(0, .ref (bk (0))), (1, .int (pt)), (2, .int (nI nb)), (3, .int (nI f)), (4, .int (nI i))] → W p_ l e_ ({ frames := 1, cells := 0, slots := 0, locals := 20 }) s m ([.ref (bk (0)), .int (pt), .int (nI nb)] : List Value).toArray below_ meth_ c_ s.heap [] 0 0 (MQ below_ (vp_Si (fun r => r = R)) ([.ref (bk (0)), .int (pt), .int (nI nb)] : List Value).toArray s 0 0 (fun _ => False)) (F0 m 5 ls []) := by
  intro k
  induction k with
  | zero =>
    intro i f hf hR ls hl
    refine lv_iload hx hb d_X_isBindable_5 (lv_at hl 4 rfl) ?_
    refine lv_aload_n hx hb d_X_isBindable_7 rfl (lv_at hl 0 rfl) ?_
    refine pw_get (ci := 0) (v := .int (nI (z 0))) hx hb hw i_X hown hK hP (0) (by omega) rfl rfl 3 (by decide) (hw _ kF_X_24) rfl d_X_isBindable_8 ?_
    refine lv_icmp_ge (tgt := 68) hx hb d_X_isBindable_11 (by decide) (fun c_1 => ?_) (fun c_1 => ?_)
    · have c_1 : (nI (z 0)) ≤ (nI i) := c_1
      refine lv_iload_n hx hb d_X_isBindable_68 rfl (lv_at hl 3 rfl) ?_
      refine lv_iload_n hx hb d_X_isBindable_69 rfl (lv_at hl 2 rfl) ?_
      refine lv_icmp_ne (tgt := 77) hx hb d_X_isBindable_70 (by decide) (fun c_2 => ?_) (fun c_2 => ?_)
      · have c_2 : ¬ (nI f) = (nI nb) := c_2
        refine lv_iconst (v := 0) hx hb d_X_isBindable_77 (by decide) ?_
        exact W.zret (v := 0) (ty := .boolean) hx hb hr (by decide) (fun t ht hW => ⟨0, rfl, (by rw [hR, lp_isB, if_neg c_2]), ht⟩) (fun q h => by cases h) d_X_isBindable_78
      · have c_2 : (nI f) = (nI nb) := c_2
        refine lv_iconst (v := 1) hx hb d_X_isBindable_73 (by decide) ?_
        refine lv_goto (tgt := 78) hx hb d_X_isBindable_74 (by decide) ?_
        exact W.zret (v := 1) (ty := .boolean) hx hb hr (by decide) (fun t ht hW => ⟨1, rfl, (by rw [hR, lp_isB, if_pos c_2]), ht⟩) (fun q h => by cases h) d_X_isBindable_78
    · have c_1 : ¬ (nI (z 0)) ≤ (nI i) := c_1
      exact absurd ((nI_leI (by omega) (by omega)).mpr (by omega)) c_1
  | succ k ih =>
    intro i f hf hR ls hl
    have hbi := hbo i (by omega)
    refine lv_iload hx hb d_X_isBindable_5 (lv_at hl 4 rfl) ?_
    refine lv_aload_n hx hb d_X_isBindable_7 rfl (lv_at hl 0 rfl) ?_
    refine pw_get (ci := 0) (v := .int (nI (z 0))) hx hb hw i_X hown hK hP (0) (by omega) rfl rfl 3 (by decide) (hw _ kF_X_24) rfl d_X_isBindable_8 ?_
    refine lv_icmp_ge (tgt := 68) hx hb d_X_isBindable_11 (by decide) (fun c_101 => ?_) (fun c_101 => ?_)
    · have c_101 : (nI (z 0)) ≤ (nI i) := c_101
      exact absurd ((nI_leI (by omega) (by omega)).mp c_101) (by omega)
    · have c_101 : ¬ (nI (z 0)) ≤ (nI i) := c_101
      refine lv_iload_n hx hb d_X_isBindable_14 rfl (lv_at hl 3 rfl) ?_
      refine lv_iload_n hx hb d_X_isBindable_15 rfl (lv_at hl 2 rfl) ?_
      refine lv_icmp_ge (tgt := 68) hx hb d_X_isBindable_16 (by decide) (fun c_102 => ?_) (fun c_102 => ?_)
      · have c_102 : (nI nb) ≤ (nI f) := c_102
        refine lv_iload_n hx hb d_X_isBindable_68 rfl (lv_at hl 3 rfl) ?_
        refine lv_iload_n hx hb d_X_isBindable_69 rfl (lv_at hl 2 rfl) ?_
        refine lv_icmp_ne (tgt := 77) hx hb d_X_isBindable_70 (by decide) (fun c_103 => ?_) (fun c_103 => ?_)
        · have c_103 : ¬ (nI f) = (nI nb) := c_103
          refine lv_iconst (v := 0) hx hb d_X_isBindable_77 (by decide) ?_
          exact W.zret (v := 0) (ty := .boolean) hx hb hr (by decide) (fun t ht hW => ⟨0, rfl, (by rw [hR, lp_isB, if_pos c_102, if_neg c_103]), ht⟩) (fun q h => by cases h) d_X_isBindable_78
        · have c_103 : (nI f) = (nI nb) := c_103
          refine lv_iconst (v := 1) hx hb d_X_isBindable_73 (by decide) ?_
          refine lv_goto (tgt := 78) hx hb d_X_isBindable_74 (by decide) ?_
          exact W.zret (v := 1) (ty := .boolean) hx hb hr (by decide) (fun t ht hW => ⟨1, rfl, (by rw [hR, lp_isB, if_pos c_102, if_pos c_103]), ht⟩) (fun q h => by cases h) d_X_isBindable_78
      · have c_102 : ¬ (nI nb) ≤ (nI f) := c_102
        refine lv_aload_n hx hb d_X_isBindable_19 rfl (lv_at hl 0 rfl) ?_
        refine pw_get (ci := 0) (v := .ref (bk (3))) hx hb hw i_X hown hK hP (0) (by omega) rfl rfl 2 (by decide) (hw _ kF_X_21) rfl d_X_isBindable_20 ?_
        refine lv_iload hx hb d_X_isBindable_23 (lv_at hl 4 rfl) ?_
        refine pw_aldq hx hb hK hP 3 (3) (by omega) rfl rfl (i) rfl (by omega) (by decide) (r := bk (27 + 4 * (bo i))) (if_pos (by omega)) d_X_isBindable_25 ?_
        refine lv_astore (lv' := [(5, .ref (bk (27 + 4 * (bo i)))), (0, .ref (bk (0))), (1, .int (pt)), (2, .int (nI nb)), (3, .int (nI f)), (4, .int (nI i))]) hx hb d_X_isBindable_26 hl (by decide) rfl (fun ls hl => ?_)
        refine lv_aload hx hb d_X_isBindable_28 (lv_at hl 0 rfl) ?_
        refine pw_get (ci := 2) (v := .int ((g (bo i)) 0)) hx hb hw i_I hown hK hP (27 + 4 * (bo i)) (by omega) (CW_iss (bo i)) rfl 1 (by decide) (hw _ kF_X_167) rfl d_X_isBindable_30 ?_
        refine lv_iload_n hx hb d_X_isBindable_33 rfl (lv_at hl 2 rfl) ?_
        refine lv_icmp_ne (tgt := 62) hx hb d_X_isBindable_34 (by decide) (fun c_104 => ?_) (fun c_104 => ?_)
        · have c_104 : ¬ ((g (bo i)) 0) = pt := c_104
          refine lv_iinc (v := nI (i + 1)) (lv' := [(4, .int (nI (i + 1))), (5, .ref (bk (27 + 4 * (bo i)))), (0, .ref (bk (0))), (1, .int (pt)), (2, .int (nI nb)), (3, .int (nI f))]) hx hb d_X_isBindable_62 hl (k := 5) rfl (nI_1 _) (by decide) rfl (fun ls hl => ?_)
          refine lv_goto (tgt := 5) hx hb d_X_isBindable_65 (by decide) ?_
          exact ih (i + 1) f (by omega) (by rw [hR, lp_isB, if_neg c_102, if_neg c_104]) _ (lv_sub hl [2, 3, 4, 5, 0] rfl)
        · have c_104 : ((g (bo i)) 0) = pt := c_104
          refine lv_aload hx hb d_X_isBindable_37 (lv_at hl 0 rfl) ?_
          refine pw_get (ci := 2) (v := .int ((g (bo i)) 4)) hx hb hw i_I hown hK hP (27 + 4 * (bo i)) (by omega) (CW_iss (bo i)) rfl 6 (by decide) (hw _ kF_X_97) rfl d_X_isBindable_39 ?_
          refine lv_iconst (v := 3) hx hb d_X_isBindable_42 (by decide) ?_
          refine lv_icmp_ne (tgt := 62) hx hb d_X_isBindable_43 (by decide) (fun c_105 => ?_) (fun c_105 => ?_)
          · have c_105 : ¬ ((g (bo i)) 4) = 3 := c_105
            refine lv_iinc (v := nI (i + 1)) (lv' := [(4, .int (nI (i + 1))), (5, .ref (bk (27 + 4 * (bo i)))), (0, .ref (bk (0))), (1, .int (pt)), (2, .int (nI nb)), (3, .int (nI f))]) hx hb d_X_isBindable_62 hl (k := 5) rfl (nI_1 _) (by decide) rfl (fun ls hl => ?_)
            refine lv_goto (tgt := 5) hx hb d_X_isBindable_65 (by decide) ?_
            exact ih (i + 1) f (by omega) (by rw [hR, lp_isB, if_neg c_102, if_pos c_104, if_neg c_105]) _ (lv_sub hl [2, 3, 4, 5, 0] rfl)
          · have c_105 : ((g (bo i)) 4) = 3 := c_105
            refine lv_aload hx hb d_X_isBindable_46 (lv_at hl 0 rfl) ?_
            refine pw_get (ci := 2) (v := .ref (bk (28 + 4 * (bo i)))) hx hb hw i_I hown hK hP (27 + 4 * (bo i)) (by omega) (CW_iss (bo i)) rfl 5 (by decide) (hw _ kF_X_134) rfl d_X_isBindable_48 ?_
            refine pw_callSi (va_runV (As := []) (rest := []) ⟨hx, hb, hml, hown, hw⟩ (c_G_isOut l D cs (27 + 4 * n) bk (CW cs z bo g q pp dd bk) s.heap.size (28 + 4 * (bo i)) (29 + 4 * (bo i)) (30 + 4 * (bo i)) (by omega) ((g (bo i)) 12) ((g (bo i)) 13) ((g (bo i)) 14) (CW_rou (bo i))) (cw_V 0 hw kM_X_155 kI_G_isOut kV_G_isOut kZ_G kC_G_isOut rfl rfl ⟨rfl, by decide, by decide, by decide +kernel⟩ ⟨Nat.le_of_ble_eq_true rfl, Nat.le_of_ble_eq_true rfl⟩) (pw_preV hN hK hP hD (28 + 4 * (bo i)) (by omega) (CW_rou (bo i)) rfl) rfl rfl hl.1 rfl (lv_room (Nat.le_of_ble_eq_true rfl)) d_X_isBindable_51 ⟨Nat.le_of_ble_eq_true rfl, Nat.le_of_ble_eq_true rfl⟩) (fun r_106 hr_106 => ?_)
            have hr_106 : r_106 = bI (0 ≤ ((g (bo i)) 13) ∧ ((g (bo i)) 13) < ((g (bo i)) 12)) := hr_106
            subst hr_106
            refine pw_ifeq (tgt := 59) hx hb d_X_isBindable_54 (by decide) (fun c_107 => ?_) (fun c_107 => ?_)
            · have c_107 : ¬ (0 ≤ ((g (bo i)) 13) ∧ ((g (bo i)) 13) < ((g (bo i)) 12)) := c_107
              refine lv_iinc (v := nI (f + 1)) (lv' := [(3, .int (nI (f + 1))), (5, .ref (bk (27 + 4 * (bo i)))), (0, .ref (bk (0))), (1, .int (pt)), (2, .int (nI nb)), (4, .int (nI i))]) hx hb d_X_isBindable_59 hl (k := 4) rfl (nI_1 _) (by decide) rfl (fun ls hl => ?_)
              refine lv_iinc (v := nI (i + 1)) (lv' := [(4, .int (nI (i + 1))), (3, .int (nI (f + 1))), (5, .ref (bk (27 + 4 * (bo i)))), (0, .ref (bk (0))), (1, .int (pt)), (2, .int (nI nb))]) hx hb d_X_isBindable_62 hl (k := 5) rfl (nI_1 _) (by decide) rfl (fun ls hl => ?_)
              refine lv_goto (tgt := 5) hx hb d_X_isBindable_65 (by decide) ?_
              exact ih (i + 1) (f + 1) (by omega) (by rw [hR, lp_isB, if_neg c_102, if_pos c_104, if_pos c_105, if_neg c_107]) _ (lv_sub hl [3, 4, 5, 1, 0] rfl)
            · have c_107 : 0 ≤ ((g (bo i)) 13) ∧ ((g (bo i)) 13) < ((g (bo i)) 12) := c_107
              refine lv_iconst (v := 0) hx hb d_X_isBindable_57 (by decide) ?_
              exact W.zret (v := 0) (ty := .boolean) hx hb hr (by decide) (fun t ht hW => ⟨0, rfl, (by rw [hR, lp_isB, if_neg c_102, if_pos c_104, if_pos c_105, if_pos c_107]), ht⟩) (fun q h => by cases h) d_X_isBindable_58
set_option maxHeartbeats 4000000 in
set_option maxRecDepth 100000 in
theorem c_X_isBindable (l : Launch) (D : va_G) (cs : Nat → ClassId) (bk : Nat → Nat) (sz : Nat) (z bo : Nat → Nat) (g q pp dd : Nat → Nat → Int32) (hz0 : z 0 ≤ 200) (hbo : ∀ t, t < z 0 → bo t < z 0) (pt : Int32) (nb : Nat) (hnb : nb ≤ 50) : Met l y_X_isBindable w_X_isBindable ({ frames := 1, cells := 0, slots := 0, locals := 20 }) (va_Pc [.ref (bk (0)), .int (pt), .int (nI nb)] (PB D classes (TY cs) (27 + 4 * z 0) bk (CW cs z bo g q pp dd bk) sz)) (vp_Si (fun r => r = lp_isB bo g pt nb (z 0) 0 0)) 0 0 (fun _ => False) := by
  refine pw_entry (cc := b_X_isBindable) (maxL := 6) (ret := (some .boolean)) (by decide +kernel) rfl (Nat.le_of_ble_eq_true rfl) ?_
  intro p_ e_ s m below_ meth_ c_ ls hx hb hr hml hts hown hlocks hin hsz hP hK hD hS hA hN hl
  have hw : ∀ w ∈ WA, w.before _ s = true := fun w h => hts w (List.mem_cons_of_mem _ h)
  have hown : s.vm.findClass "IssueRows" = some m.cls := hown
  have hl : lv_has ls 6 [(0, .ref (bk (0))), (1, .int (pt)), (2, .int (nI nb))] := hl
  refine lv_iconst (v := 0) hx hb d_X_isBindable_0 (by decide) ?_
  refine lv_istore_n (lv' := [(3, .int (0)), (0, .ref (bk (0))), (1, .int (pt)), (2, .int (nI nb))]) hx hb d_X_isBindable_1 rfl hl (by decide) rfl (fun ls hl => ?_)
  refine lv_iconst (v := 0) hx hb d_X_isBindable_2 (by decide) ?_
  refine lv_istore (lv' := [(4, .int (0)), (3, .int (0)), (0, .ref (bk (0))), (1, .int (pt)), (2, .int (nI nb))]) hx hb d_X_isBindable_3 hl (by decide) rfl (fun ls hl => ?_)
  exact l_X_isBindable z bo g q pp dd (z 0) hz0 rfl hbo pt nb hnb _ hx hb hr hml hw hown hlocks hA hN hK hP hD (z 0) 0 0 (by omega) rfl _ (lv_sub hl [2, 3, 4, 1, 0] rfl)
def lp_bindN (pt : Int32) (nb v : Nat) : Nat → (Nat → Nat) → (Nat → Nat) → (Nat → Nat → Int32) → (Nat → Nat → Int32) → (Nat → Nat → Int32) → (Nat → Nat → Int32) → Nat → Nat → Nat → XS
  | 0, z, bo, g, q, pp, dd, i, f, e => (nI v, z, bo, g, q, pp, dd)
  | k + 1, z, bo, g, q, pp, dd, i, f, e => (if (nI nb) ≤ (nI f) then (nI v, z, bo, g, q, pp, dd) else (if ((g (bo i)) 0) = pt then (if ((g (bo i)) 4) = 3 then (lp_bindN pt nb v k z bo (va_up g (bo i) (upd (upd (g (bo i)) 4 5) 9 (nI v))) (va_up (va_up q 7 (upd (q 7) e (nI (bo i)))) 8 (upd (q 8) (z 3) (nI (e + 1)))) pp dd (i + 1) (f + 1) (e + 1)) else (lp_bindN pt nb v k z bo g q pp dd (i + 1) f e)) else (lp_bindN pt nb v k z bo g q pp dd (i + 1) f e)))
set_option maxHeartbeats 4000000 in
set_option maxRecDepth 100000 in
theorem l_X_bindNext {p_ : Program} {l : Launch} {e_ : Env} {s : State} {m : MethodId} {below_ : List Frame} {meth_ : Method} {c_ : Code} {D : va_G} {cs : Nat → ClassId} {bk : Nat → Nat} {sz : Nat} (n : Nat) (hn : n ≤ 200) (pt : Int32) (nb : Nat) (hnb : nb ≤ 50) (v : Nat) (hv : v < 40) (R : XS) (hx : p_.tables.exec = Jvm.exec) (hb : c_.code = b_X_bindNext) (hr : meth_.sig.returnType = (some .int)) (hml : c_.maxLocals = 7) (hw : ∀ w ∈ WA, w.before ([.ref (bk (0)), .int (pt), .int (nI nb)] : List Value).toArray s = true) (hown : s.vm.findClass "IssueRows" = some m.cls) (hlocks : meth_.locks = false) (hA : ∀ q, s.heap.size ≤ q → AA (27 + 4 * n) bk sz q) (hN : NN s) (hK : va_K D classes (TY cs) s) : ∀ (k : Nat) (z : Nat → Nat) (bo : Nat → Nat) (g : Nat → Nat → Int32) (q : Nat → Nat → Int32) (pp : Nat → Nat → Int32) (dd : Nat → Nat → Int32) (i : Nat) (f : Nat) (e : Nat), (i + k = n) → (z 0 = n) → (∀ t, t < n → bo t < n) → (z 3 = v + 1) → (q 8 (z 3) = nI e) → (e ≤ cB g n) → (R = lp_bindN pt nb v k z bo g q pp dd i f e) → ∀ (H : Heap) (locs : List Loc) (ls : Array Slot), va_P D classes (wl (27 + 4 * n) bk (CW cs z bo g q pp dd bk)) H → va_D (AA (27 + 4 * n) bk sz) (wl (27 + 4 * n) bk (CW cs z bo g q pp dd bk)) → va_S (AA (27 + 4 * n) bk sz) s.heap H locs → lv_has ls 7 [(0, .ref (bk (0))), (1, .int (pt)), (2, .int (nI nb)), (3, .int (nI v)), (4, .int (nI f)), (5, .int (nI i))] → W p_ l e_ ({ frames := 2, cells := 0, slots := 0, locals := 43 }) s m ([.ref (bk (0)), .int (pt), .int (nI nb)] : List Value).toArray below_ meth_ c_ H locs 0 0 (MQ below_ (va_Qi (Xr cs bk R) (Wd D classes (TY cs) (AA (27 + 4 * n) bk sz)) (AA (27 + 4 * n) bk sz)) ([.ref (bk (0)), .int (pt), .int (nI nb)] : List Value).toArray s 0 0 (AA (27 + 4 * n) bk sz)) (F0 m 14 ls []) := by
  intro k
  induction k with
  | zero =>
    intro z bo g q pp dd i f e hf hzn hbo hz3 he hct hR H locs ls hP hD hS hl
    refine lv_iload hx hb d_X_bindNext_14 (lv_at hl 5 rfl) ?_
    refine lv_aload_n hx hb d_X_bindNext_16 rfl (lv_at hl 0 rfl) ?_
    refine pw_get (ci := 0) (v := .int (nI (z 0))) hx hb hw i_X hown hK hP (0) (by omega) rfl rfl 3 (by decide) (hw _ kF_X_24) rfl d_X_bindNext_17 ?_
    refine lv_icmp_ge (tgt := 89) hx hb d_X_bindNext_20 (by decide) (fun c_1 => ?_) (fun c_1 => ?_)
    · have c_1 : (nI (z 0)) ≤ (nI i) := c_1
      refine lv_iload_n hx hb d_X_bindNext_89 rfl (lv_at hl 3 rfl) ?_
      exact W.iret (v := nI v) hx hb hr (fun t ht hW => ⟨⟨nI v, ((27 + 4 * n), bk, CW cs z bo g q pp dd bk), rfl, Xr_of (by rw [hR, lp_bindN]) (congrArg (fun t => 27 + 4 * t) hzn.symm), by rw [ht]; exact hP, va_K.moved hW.alike hK, hD⟩, hS.F ht⟩) hS.2.2 d_X_bindNext_90
    · have c_1 : ¬ (nI (z 0)) ≤ (nI i) := c_1
      exact absurd ((nI_leI (by omega) (by omega)).mpr (by omega)) c_1
  | succ k ih =>
    intro z bo g q pp dd i f e hf hzn hbo hz3 he hct hR H locs ls hP hD hS hl
    have hbi := hbo i (by omega)
    refine lv_iload hx hb d_X_bindNext_14 (lv_at hl 5 rfl) ?_
    refine lv_aload_n hx hb d_X_bindNext_16 rfl (lv_at hl 0 rfl) ?_
    refine pw_get (ci := 0) (v := .int (nI (z 0))) hx hb hw i_X hown hK hP (0) (by omega) rfl rfl 3 (by decide) (hw _ kF_X_24) rfl d_X_bindNext_17 ?_
    refine lv_icmp_ge (tgt := 89) hx hb d_X_bindNext_20 (by decide) (fun c_101 => ?_) (fun c_101 => ?_)
    · have c_101 : (nI (z 0)) ≤ (nI i) := c_101
      exact absurd ((nI_leI (by omega) (by omega)).mp c_101) (by omega)
    · have c_101 : ¬ (nI (z 0)) ≤ (nI i) := c_101
      refine lv_iload hx hb d_X_bindNext_23 (lv_at hl 4 rfl) ?_
      refine lv_iload_n hx hb d_X_bindNext_25 rfl (lv_at hl 2 rfl) ?_
      refine lv_icmp_ge (tgt := 89) hx hb d_X_bindNext_26 (by decide) (fun c_102 => ?_) (fun c_102 => ?_)
      · have c_102 : (nI nb) ≤ (nI f) := c_102
        refine lv_iload_n hx hb d_X_bindNext_89 rfl (lv_at hl 3 rfl) ?_
        exact W.iret (v := nI v) hx hb hr (fun t ht hW => ⟨⟨nI v, ((27 + 4 * n), bk, CW cs z bo g q pp dd bk), rfl, Xr_of (by rw [hR, lp_bindN, if_pos c_102]) (congrArg (fun t => 27 + 4 * t) hzn.symm), by rw [ht]; exact hP, va_K.moved hW.alike hK, hD⟩, hS.F ht⟩) hS.2.2 d_X_bindNext_90
      · have c_102 : ¬ (nI nb) ≤ (nI f) := c_102
        refine lv_aload_n hx hb d_X_bindNext_29 rfl (lv_at hl 0 rfl) ?_
        refine pw_get (ci := 0) (v := .ref (bk (3))) hx hb hw i_X hown hK hP (0) (by omega) rfl rfl 2 (by decide) (hw _ kF_X_21) rfl d_X_bindNext_30 ?_
        refine lv_iload hx hb d_X_bindNext_33 (lv_at hl 5 rfl) ?_
        refine pw_aldq hx hb hK hP 3 (3) (by omega) rfl rfl (i) rfl (by omega) (by decide) (r := bk (27 + 4 * (bo i))) (if_pos (by omega)) d_X_bindNext_35 ?_
        refine lv_astore (lv' := [(6, .ref (bk (27 + 4 * (bo i)))), (0, .ref (bk (0))), (1, .int (pt)), (2, .int (nI nb)), (3, .int (nI v)), (4, .int (nI f)), (5, .int (nI i))]) hx hb d_X_bindNext_36 hl (by decide) rfl (fun ls hl => ?_)
        refine lv_aload hx hb d_X_bindNext_38 (lv_at hl 0 rfl) ?_
        refine pw_get (ci := 2) (v := .int ((g (bo i)) 0)) hx hb hw i_I hown hK hP (27 + 4 * (bo i)) (by omega) (CW_iss (bo i)) rfl 1 (by decide) (hw _ kF_X_167) rfl d_X_bindNext_40 ?_
        refine lv_iload_n hx hb d_X_bindNext_43 rfl (lv_at hl 2 rfl) ?_
        refine lv_icmp_ne (tgt := 83) hx hb d_X_bindNext_44 (by decide) (fun c_103 => ?_) (fun c_103 => ?_)
        · have c_103 : ¬ ((g (bo i)) 0) = pt := c_103
          refine lv_iinc (v := nI (i + 1)) (lv' := [(5, .int (nI (i + 1))), (6, .ref (bk (27 + 4 * (bo i)))), (0, .ref (bk (0))), (1, .int (pt)), (2, .int (nI nb)), (3, .int (nI v)), (4, .int (nI f))]) hx hb d_X_bindNext_83 hl (k := 6) rfl (nI_1 _) (by decide) rfl (fun ls hl => ?_)
          refine lv_goto (tgt := 14) hx hb d_X_bindNext_86 (by decide) ?_
          exact ih z bo g q pp dd (i + 1) f e (by omega) hzn hbo hz3 he hct (by rw [hR, lp_bindN, if_neg c_102, if_neg c_103]) _ _ _ hP hD hS (lv_sub hl [2, 3, 4, 5, 6, 0] rfl)
        · have c_103 : ((g (bo i)) 0) = pt := c_103
          refine lv_aload hx hb d_X_bindNext_47 (lv_at hl 0 rfl) ?_
          refine pw_get (ci := 2) (v := .int ((g (bo i)) 4)) hx hb hw i_I hown hK hP (27 + 4 * (bo i)) (by omega) (CW_iss (bo i)) rfl 6 (by decide) (hw _ kF_X_97) rfl d_X_bindNext_49 ?_
          refine lv_iconst (v := 3) hx hb d_X_bindNext_52 (by decide) ?_
          refine lv_icmp_ne (tgt := 83) hx hb d_X_bindNext_53 (by decide) (fun c_104 => ?_) (fun c_104 => ?_)
          · have c_104 : ¬ ((g (bo i)) 4) = 3 := c_104
            refine lv_iinc (v := nI (i + 1)) (lv' := [(5, .int (nI (i + 1))), (6, .ref (bk (27 + 4 * (bo i)))), (0, .ref (bk (0))), (1, .int (pt)), (2, .int (nI nb)), (3, .int (nI v)), (4, .int (nI f))]) hx hb d_X_bindNext_83 hl (k := 6) rfl (nI_1 _) (by decide) rfl (fun ls hl => ?_)
            refine lv_goto (tgt := 14) hx hb d_X_bindNext_86 (by decide) ?_
            exact ih z bo g q pp dd (i + 1) f e (by omega) hzn hbo hz3 he hct (by rw [hR, lp_bindN, if_neg c_102, if_pos c_103, if_neg c_104]) _ _ _ hP hD hS (lv_sub hl [2, 3, 4, 5, 6, 0] rfl)
          · have c_104 : ((g (bo i)) 4) = 3 := c_104
            refine lv_aload hx hb d_X_bindNext_56 (lv_at hl 0 rfl) ?_
            refine lv_iconst (v := 5) hx hb d_X_bindNext_58 (by decide) ?_
            refine pw_put (ci := 2) (v := .int (5)) (ty := .int) (fs' := [.int (nI (bo i)), .int ((g (bo i)) 0), .int ((g (bo i)) 1), .int ((g (bo i)) 2), .int ((g (bo i)) 3), .ref (bk (28 + 4 * (bo i))), .int (5), .int ((g (bo i)) 5), .int ((g (bo i)) 6), .int ((g (bo i)) 7), .int ((g (bo i)) 8), .int ((g (bo i)) 9), .int ((g (bo i)) 10), .int ((g (bo i)) 11)]) hx hb hw i_I t_I t_I_ok n_I hown hK hP hD hS (27 + 4 * (bo i)) (by omega) (CW_iss (bo i)) rfl 6 (by decide) (hw _ kF_X_97) rfl (t_I_ok 6 (by decide)) rfl rfl (Nat.le_of_ble_eq_true rfl) rfl d_X_bindNext_59 (fun cw_105 H locs ecw_105 hP hD hS => ?_)
            obtain rfl : cw_105 = CW cs z bo (va_up g (bo i) (upd (g (bo i)) 4 5)) q pp dd bk := by rw [ecw_105]; exact (CW_setI (bo i) (upd (g (bo i)) 4 5) rfl rfl rfl)
            refine lv_aload hx hb d_X_bindNext_62 (lv_at hl 0 rfl) ?_
            refine lv_iload_n hx hb d_X_bindNext_64 rfl (lv_at hl 4 rfl) ?_
            refine pw_put (ci := 2) (v := .int (nI v)) (ty := .int) (fs' := [.int (nI (bo i)), .int ((g (bo i)) 0), .int ((g (bo i)) 1), .int ((g (bo i)) 2), .int ((g (bo i)) 3), .ref (bk (28 + 4 * (bo i))), .int (5), .int ((g (bo i)) 5), .int ((g (bo i)) 6), .int ((g (bo i)) 7), .int ((g (bo i)) 8), .int (nI v), .int ((g (bo i)) 10), .int ((g (bo i)) 11)]) hx hb hw i_I t_I t_I_ok n_I hown hK hP hD hS (27 + 4 * (bo i)) (by omega) (CW_issU (bo i)) rfl 11 (by decide) (hw _ kF_X_226) rfl (t_I_ok 11 (by decide)) rfl rfl (Nat.le_of_ble_eq_true rfl) rfl d_X_bindNext_65 (fun cw_106 H locs ecw_106 hP hD hS => ?_)
            obtain rfl : cw_106 = CW cs z bo (va_up g (bo i) (upd (upd (g (bo i)) 4 5) 9 (nI v))) q pp dd bk := by rw [ecw_106]; exact ((CW_setI (bo i) (upd (upd (g (bo i)) 4 5) 9 (nI v)) (by first | (rw [va_up_self]; rfl) | rw [va_up_self]) (by first | (rw [va_up_self]; rfl) | rw [va_up_self]) (by first | (rw [va_up_self]; rfl) | rw [va_up_self])).trans (by rw [bx_uu]))
            refine lv_aload_n hx hb d_X_bindNext_68 rfl (lv_at hl 1 rfl) ?_
            refine pw_get (ci := 0) (v := .ref (bk (10))) hx hb hw i_X hown hK hP (0) (by omega) rfl rfl 6 (by decide) (hw _ kF_X_43) rfl d_X_bindNext_69 ?_
            refine lv_aload hx hb d_X_bindNext_72 (lv_at hl 0 rfl) ?_
            refine pw_get (ci := 2) (v := .int (nI (bo i))) hx hb hw i_I hown hK hP (27 + 4 * (bo i)) (by omega) (CW_issU (bo i)) rfl 0 (by decide) (hw _ kF_X_86) rfl d_X_bindNext_74 ?_
            refine pw_callv (va_runV (As := [.int (nI (bo i))]) (rest := []) ⟨hx, hb, hml, hown, hw⟩ (c_V_add l D cs (27 + 4 * n) bk (CW cs z bo (va_up g (bo i) (upd (upd (g (bo i)) 4 5) 9 (nI v))) q pp dd bk) H.size (10) (11) (12) (by omega) (z 3) (by omega) rfl (q 7) (q 8) (by omega) rfl (by omega) rfl (by decide) (by decide) (by decide) (by omega) e he (by have h6 := cB_lt (n := n) (g := g) (j := bo i) (by rw [c_104]; decide) (by omega); omega) (nI (bo i))) (cw_V 1 hw kM_X_229 kI_V_add kV_V_add kZ_V kC_V_add rfl rfl ⟨rfl, by decide, by decide, by decide +kernel⟩ ⟨Nat.le_of_ble_eq_true rfl, Nat.le_of_ble_eq_true rfl⟩) (pw_preV hN hK hP hD (10) (by omega) rfl rfl) rfl rfl hl.1 rfl (lv_room (Nat.le_of_ble_eq_true rfl)) d_X_bindNext_77 ⟨Nat.le_of_ble_eq_true rfl, Nat.le_of_ble_eq_true rfl⟩) hS (wl_free hD hS hA) (fun N1 bk1 cw1 H locs hu hP hD hS => ?_)
            have hP : va_P D classes (wl (27 + 4 * n) bk (CW cs z bo (va_up g (bo i) (upd (upd (g (bo i)) 4 5) 9 (nI v))) (va_up (va_up q 7 (upd (q 7) e (nI (bo i)))) 8 (upd (q 8) (z 3) (nI (e + 1)))) pp dd bk)) H := wl_eqP2 hu (by rw [CW_set11, CW_set12]) hP
            have hD : va_D (AA (27 + 4 * n) bk sz) (wl (27 + 4 * n) bk (CW cs z bo (va_up g (bo i) (upd (upd (g (bo i)) 4 5) 9 (nI v))) (va_up (va_up q 7 (upd (q 7) e (nI (bo i)))) 8 (upd (q 8) (z 3) (nI (e + 1)))) pp dd bk)) := wl_eqD2 hu (by rw [CW_set11, CW_set12]) hD
            refine lv_iinc (v := nI (f + 1)) (lv' := [(4, .int (nI (f + 1))), (6, .ref (bk (27 + 4 * (bo i)))), (0, .ref (bk (0))), (1, .int (pt)), (2, .int (nI nb)), (3, .int (nI v)), (5, .int (nI i))]) hx hb d_X_bindNext_80 hl (k := 5) rfl (nI_1 _) (by decide) rfl (fun ls hl => ?_)
            refine lv_iinc (v := nI (i + 1)) (lv' := [(5, .int (nI (i + 1))), (4, .int (nI (f + 1))), (6, .ref (bk (27 + 4 * (bo i)))), (0, .ref (bk (0))), (1, .int (pt)), (2, .int (nI nb)), (3, .int (nI v))]) hx hb d_X_bindNext_83 hl (k := 6) rfl (nI_1 _) (by decide) rfl (fun ls hl => ?_)
            refine lv_goto (tgt := 14) hx hb d_X_bindNext_86 (by decide) ?_
            exact ih z bo (va_up g (bo i) (upd (upd (g (bo i)) 4 5) 9 (nI v))) (va_up (va_up q 7 (upd (q 7) e (nI (bo i)))) 8 (upd (q 8) (z 3) (nI (e + 1)))) pp dd (i + 1) (f + 1) (e + 1) (by omega) hzn hbo hz3 pk_us (by rw [cB_up (g := g) (j := bo i) (by rw [c_104]; decide) rfl n (by omega)]; omega) (by rw [hR, lp_bindN, if_neg c_102, if_pos c_103, if_pos c_104]) _ _ _ hP hD hS (lv_sub hl [3, 4, 5, 6, 1, 0] rfl)
def s_X_bindNext (z bo : Nat → Nat) (g q pp dd : Nat → Nat → Int32) (pt : Int32) (nb : Nat) (eb : Nat) : XS := (lp_bindN pt nb (z 3) (z 0) (va_up z 3 (z 3 + 1)) bo g (va_up q 8 (upd (q 8) (z 3 + 1) (q 8 (z 3)))) pp dd 0 0 eb)
set_option maxHeartbeats 4000000 in
set_option maxRecDepth 100000 in
theorem c_X_bindNext (l : Launch) (D : va_G) (cs : Nat → ClassId) (bk : Nat → Nat) (sz : Nat) (z bo : Nat → Nat) (g q pp dd : Nat → Nat → Int32) (hz0 : z 0 ≤ 200) (hbo : ∀ t, t < z 0 → bo t < z 0) (hv : z 3 < 40) (pt : Int32) (nb : Nat) (hnb : nb ≤ 50) (eb : Nat) (heb : q 8 (z 3) = nI eb) (hct : eb ≤ cB g (z 0)) : Met l y_X_bindNext w_X_bindNext ({ frames := 2, cells := 0, slots := 0, locals := 43 }) (va_Pc [.ref (bk (0)), .int (pt), .int (nI nb)] (PB D classes (TY cs) (27 + 4 * z 0) bk (CW cs z bo g q pp dd bk) sz)) (va_Qi (Xr cs bk (s_X_bindNext z bo g q pp dd pt nb eb)) (Wd D classes (TY cs) (AA (27 + 4 * z 0) bk sz)) (AA (27 + 4 * z 0) bk sz)) 0 0 (AA (27 + 4 * z 0) bk sz) := by
  refine pw_entry (cc := b_X_bindNext) (maxL := 7) (ret := (some .int)) (by decide +kernel) rfl (Nat.le_of_ble_eq_true rfl) ?_
  intro p_ e_ s m below_ meth_ c_ ls hx hb hr hml hts hown hlocks hin hsz hP hK hD hS hA hN hl
  have hw : ∀ w ∈ WA, w.before _ s = true := fun w h => hts w (List.mem_cons_of_mem _ h)
  have hown : s.vm.findClass "IssueRows" = some m.cls := hown
  have hl : lv_has ls 7 [(0, .ref (bk (0))), (1, .int (pt)), (2, .int (nI nb))] := hl
  refine lv_aload_n hx hb d_X_bindNext_0 rfl (lv_at hl 0 rfl) ?_
  refine pw_get (ci := 0) (v := .ref (bk (10))) hx hb hw i_X hown hK hP (0) (by omega) rfl rfl 6 (by decide) (hw _ kF_X_43) rfl d_X_bindNext_1 ?_
  refine pw_calli (va_runV (As := []) (rest := []) ⟨hx, hb, hml, hown, hw⟩ (c_V_open l D cs (27 + 4 * z 0) bk (CW cs z bo g q pp dd bk) s.heap.size (10) (11) (12) (by omega) (z 3) (by omega) rfl (q 7) (q 8) (by omega) rfl (by omega) rfl (by decide) (by decide) (by decide)) (cw_V 0 hw kM_X_223 kI_V_open kV_V_open kZ_V kC_V_open rfl rfl ⟨rfl, by decide, by decide, by decide +kernel⟩ ⟨Nat.le_of_ble_eq_true rfl, Nat.le_of_ble_eq_true rfl⟩) (pw_preV hN hK hP hD (10) (by omega) rfl rfl) rfl rfl hl.1 rfl (lv_room (Nat.le_of_ble_eq_true rfl)) d_X_bindNext_4 ⟨Nat.le_of_ble_eq_true rfl, Nat.le_of_ble_eq_true rfl⟩) hS (wl_free hD hS hA) (fun r N1 bk1 cw1 H locs hu hP hD hS => ?_)
  obtain ⟨hr1, hu2⟩ := hu.1 hv
  subst hr1
  have hP : va_P D classes (wl (27 + 4 * z 0) bk (CW cs (va_up z 3 (z 3 + 1)) bo g (va_up q 8 (upd (q 8) (z 3 + 1) (q 8 (z 3)))) pp dd bk)) H := wl_eqP2 hu2 (by rw [CW_set12, CW_set10]) hP
  have hD : va_D (AA (27 + 4 * z 0) bk sz) (wl (27 + 4 * z 0) bk (CW cs (va_up z 3 (z 3 + 1)) bo g (va_up q 8 (upd (q 8) (z 3 + 1) (q 8 (z 3)))) pp dd bk)) := wl_eqD2 hu2 (by rw [CW_set12, CW_set10]) hD
  refine lv_istore_n (lv' := [(3, .int (nI (z 3))), (0, .ref (bk (0))), (1, .int (pt)), (2, .int (nI nb))]) hx hb d_X_bindNext_7 rfl hl (by decide) rfl (fun ls hl => ?_)
  refine lv_iconst (v := 0) hx hb d_X_bindNext_8 (by decide) ?_
  refine lv_istore (lv' := [(4, .int (0)), (3, .int (nI (z 3))), (0, .ref (bk (0))), (1, .int (pt)), (2, .int (nI nb))]) hx hb d_X_bindNext_9 hl (by decide) rfl (fun ls hl => ?_)
  refine lv_iconst (v := 0) hx hb d_X_bindNext_11 (by decide) ?_
  refine lv_istore (lv' := [(5, .int (0)), (4, .int (0)), (3, .int (nI (z 3))), (0, .ref (bk (0))), (1, .int (pt)), (2, .int (nI nb))]) hx hb d_X_bindNext_12 hl (by decide) rfl (fun ls hl => ?_)
  exact l_X_bindNext (z 0) hz0 pt nb hnb (z 3) hv _ hx hb hr hml hw hown hlocks hA hN hK (z 0) (va_up z 3 (z 3 + 1)) bo g (va_up q 8 (upd (q 8) (z 3 + 1) (q 8 (z 3)))) pp dd 0 0 eb (by omega) rfl hbo rfl (pk_us.trans heb) hct (by rw [s_X_bindNext]) _ _ _ hP hD hS (lv_sub hl [3, 4, 5, 2, 1, 0] rfl)
def s_X_bind (z bo : Nat → Nat) (g q pp dd : Nat → Nat → Int32) (pt : Int32) (nb : Nat) (eb : Nat) : XS := (if 0 ≤ pt ∧ pt ≤ 9 then (if (lp_isB bo g pt nb (z 0) 0 0) = 0 then (-3, z, bo, g, q, pp, dd) else (if 40 ≤ (z 3) then (-4, z, bo, g, q, pp, dd) else ((s_X_bindNext z bo g q pp dd pt nb eb).1, (s_X_bindNext z bo g q pp dd pt nb eb).2.1, (s_X_bindNext z bo g q pp dd pt nb eb).2.2.1, (s_X_bindNext z bo g q pp dd pt nb eb).2.2.2.1, (s_X_bindNext z bo g q pp dd pt nb eb).2.2.2.2.1, (s_X_bindNext z bo g q pp dd pt nb eb).2.2.2.2.2.1, (s_X_bindNext z bo g q pp dd pt nb eb).2.2.2.2.2.2))) else (-1, z, bo, g, q, pp, dd))
set_option maxHeartbeats 4000000 in
set_option maxRecDepth 100000 in
theorem c_X_bind (l : Launch) (D : va_G) (cs : Nat → ClassId) (bk : Nat → Nat) (sz : Nat) (z bo : Nat → Nat) (g q pp dd : Nat → Nat → Int32) (hz0 : z 0 ≤ 200) (hbo : ∀ t, t < z 0 → bo t < z 0) (hv : z 3 ≤ 40) (pt : Int32) (nb : Nat) (hnb : 1 ≤ nb ∧ nb ≤ 50) (eb : Nat) (heb : q 8 (z 3) = nI eb) (hct : eb ≤ cB g (z 0)) : Met l y_X_bind w_X_bind ({ frames := 3, cells := 0, slots := 0, locals := 69 }) (va_Pc [.ref (bk (0)), .int (pt), .int (nI nb)] (PB D classes (TY cs) (27 + 4 * z 0) bk (CW cs z bo g q pp dd bk) sz)) (va_Qi (Xr cs bk (s_X_bind z bo g q pp dd pt nb eb)) (Wd D classes (TY cs) (AA (27 + 4 * z 0) bk sz)) (AA (27 + 4 * z 0) bk sz)) 0 0 (AA (27 + 4 * z 0) bk sz) := by
  refine pw_entry (cc := b_X_bind) (maxL := 3) (ret := (some .int)) (by decide +kernel) rfl (Nat.le_of_ble_eq_true rfl) ?_
  intro p_ e_ s m below_ meth_ c_ ls hx hb hr hml hts hown hlocks hin hsz hP hK hD hS hA hN hl
  have hw : ∀ w ∈ WA, w.before _ s = true := fun w h => hts w (List.mem_cons_of_mem _ h)
  have hown : s.vm.findClass "IssueRows" = some m.cls := hown
  have hl : lv_has ls 3 [(0, .ref (bk (0))), (1, .int (pt)), (2, .int (nI nb))] := hl
  refine lv_iload_n hx hb d_X_bind_0 rfl (lv_at hl 1 rfl) ?_
  refine pw_callSi (va_runS (As := [.int (pt)]) (rest := []) ⟨hx, hb, hml, hown, hw⟩ (c_X_isPattern l D cs (27 + 4 * z 0) bk (CW cs z bo g q pp dd bk) s.heap.size pt) (cw_S 1 hw kM_X_55 kS_X_isPattern kZ_X kC_X_isPattern rfl rfl ⟨rfl, by decide, by decide, by decide +kernel⟩ ⟨Nat.le_of_ble_eq_true rfl, Nat.le_of_ble_eq_true rfl⟩) (pw_preS hN hK hP hD) rfl rfl hl.1 rfl (lv_room (Nat.le_of_ble_eq_true rfl)) d_X_bind_1 ⟨Nat.le_of_ble_eq_true rfl, Nat.le_of_ble_eq_true rfl⟩) (fun r_1 hr_1 => ?_)
  have hr_1 : r_1 = bI (0 ≤ pt ∧ pt ≤ 9) := hr_1
  subst hr_1
  refine pw_ifne (tgt := 9) hx hb d_X_bind_4 (by decide) (fun c_2 => ?_) (fun c_2 => ?_)
  · have c_2 : 0 ≤ pt ∧ pt ≤ 9 := c_2
    refine lv_iload_n hx hb d_X_bind_9 rfl (lv_at hl 2 rfl) ?_
    refine lv_iconst (v := 1) hx hb d_X_bind_10 (by decide) ?_
    refine lv_bipush (v := 50) hx hb d_X_bind_11 (by decide) ?_
    refine pw_callSi (va_runS (As := [.int (nI nb), .int (1), .int (50)]) (rest := []) ⟨hx, hb, hml, hown, hw⟩ (c_X_within l D cs (27 + 4 * z 0) bk (CW cs z bo g q pp dd bk) s.heap.size (nI nb) 1 50) (cw_S 3 hw kM_X_59 kS_X_within kZ_X kC_X_within rfl rfl ⟨rfl, by decide, by decide, by decide +kernel⟩ ⟨Nat.le_of_ble_eq_true rfl, Nat.le_of_ble_eq_true rfl⟩) (pw_preS hN hK hP hD) rfl rfl hl.1 rfl (lv_room (Nat.le_of_ble_eq_true rfl)) d_X_bind_13 ⟨Nat.le_of_ble_eq_true rfl, Nat.le_of_ble_eq_true rfl⟩) (fun r_3 hr_3 => ?_)
    have hr_3 : r_3 = bI (1 ≤ (nI nb) ∧ (nI nb) ≤ 50) := hr_3
    subst hr_3
    refine pw_ifne (tgt := 22) hx hb d_X_bind_16 (by decide) (fun c_4 => ?_) (fun c_4 => ?_)
    · have c_4 : 1 ≤ (nI nb) ∧ (nI nb) ≤ 50 := c_4
      refine lv_aload_n hx hb d_X_bind_22 rfl (lv_at hl 0 rfl) ?_
      refine lv_iload_n hx hb d_X_bind_23 rfl (lv_at hl 1 rfl) ?_
      refine lv_iload_n hx hb d_X_bind_24 rfl (lv_at hl 2 rfl) ?_
      refine pw_callSi (va_runV (As := [.int (pt), .int (nI nb)]) (rest := []) ⟨hx, hb, hml, hown, hw⟩ (c_X_isBindable l D cs bk s.heap.size z bo g q pp dd hz0 hbo pt nb hnb.2) (cw_V 2 hw kM_X_176 kI_X_isBindable kV_X_isBindable kZ_X kC_X_isBindable rfl rfl ⟨rfl, by decide, by decide, by decide +kernel⟩ ⟨Nat.le_of_ble_eq_true rfl, Nat.le_of_ble_eq_true rfl⟩) (pw_preV hN hK hP hD (0) (by omega) rfl rfl) rfl rfl hl.1 rfl (lv_room (Nat.le_of_ble_eq_true rfl)) d_X_bind_25 ⟨Nat.le_of_ble_eq_true rfl, Nat.le_of_ble_eq_true rfl⟩) (fun r_5 hr_5 => ?_)
      have hr_5 : r_5 = lp_isB bo g pt nb (z 0) 0 0 := hr_5
      subst hr_5
      refine lv_if_ne (tgt := 34) hx hb d_X_bind_28 (by decide) (fun c_6 => ?_) (fun c_6 => ?_)
      · have c_6 : ¬ (lp_isB bo g pt nb (z 0) 0 0) = 0 := c_6
        refine lv_aload_n hx hb d_X_bind_34 rfl (lv_at hl 0 rfl) ?_
        refine pw_get (ci := 0) (v := .ref (bk (10))) hx hb hw i_X hown hK hP (0) (by omega) rfl rfl 6 (by decide) (hw _ kF_X_43) rfl d_X_bind_35 ?_
        refine pw_callSi (va_runV (As := []) (rest := []) ⟨hx, hb, hml, hown, hw⟩ (c_V_isFull l D cs (27 + 4 * z 0) bk (CW cs z bo g q pp dd bk) s.heap.size (10) (11) (12) (by omega) (z 3) hv rfl (q 7) (q 8) (by omega) rfl (by omega) rfl) (cw_V 0 hw kM_X_179 kI_V_isFull kV_V_isFull kZ_V kC_V_isFull rfl rfl ⟨rfl, by decide, by decide, by decide +kernel⟩ ⟨Nat.le_of_ble_eq_true rfl, Nat.le_of_ble_eq_true rfl⟩) (pw_preV hN hK hP hD (10) (by omega) rfl rfl) rfl rfl hl.1 rfl (lv_room (Nat.le_of_ble_eq_true rfl)) d_X_bind_38 ⟨Nat.le_of_ble_eq_true rfl, Nat.le_of_ble_eq_true rfl⟩) (fun r_7 hr_7 => ?_)
        have hr_7 : r_7 = bI (40 ≤ (z 3)) := hr_7
        subst hr_7
        refine pw_ifeq (tgt := 47) hx hb d_X_bind_41 (by decide) (fun c_8 => ?_) (fun c_8 => ?_)
        · have c_8 : ¬ (40 ≤ (z 3)) := c_8
          refine lv_aload_n hx hb d_X_bind_47 rfl (lv_at hl 0 rfl) ?_
          refine lv_iload_n hx hb d_X_bind_48 rfl (lv_at hl 1 rfl) ?_
          refine lv_iload_n hx hb d_X_bind_49 rfl (lv_at hl 2 rfl) ?_
          refine pw_calli (va_runV (As := [.int (pt), .int (nI nb)]) (rest := []) ⟨hx, hb, hml, hown, hw⟩ (c_X_bindNext l D cs bk s.heap.size z bo g q pp dd hz0 hbo (by omega) pt nb hnb.2 eb heb hct) (cw_V 2 hw kM_X_180 kI_X_bindNext kV_X_bindNext kZ_X kC_X_bindNext rfl rfl ⟨rfl, by decide, by decide, by decide +kernel⟩ ⟨Nat.le_of_ble_eq_true rfl, Nat.le_of_ble_eq_true rfl⟩) (pw_preV hN hK hP hD (0) (by omega) rfl rfl) rfl rfl hl.1 rfl (lv_room (Nat.le_of_ble_eq_true rfl)) d_X_bind_50 ⟨Nat.le_of_ble_eq_true rfl, Nat.le_of_ble_eq_true rfl⟩) hS (wl_free hD hS hA) (fun r N1 bk1 cw1 H locs hu hP hD hS => ?_)
          obtain ⟨hr1, hu⟩ := hu
          subst hr1
          have hP := wl_eqP hu hP
          have hD := wl_eqD hu hD
          exact W.iret (v := (s_X_bindNext z bo g q pp dd pt nb eb).1) hx hb hr (fun t ht hW => ⟨⟨(s_X_bindNext z bo g q pp dd pt nb eb).1, (27 + 4 * (s_X_bindNext z bo g q pp dd pt nb eb).2.1 0, bk, CW cs ((s_X_bindNext z bo g q pp dd pt nb eb).2.1) ((s_X_bindNext z bo g q pp dd pt nb eb).2.2.1) ((s_X_bindNext z bo g q pp dd pt nb eb).2.2.2.1) ((s_X_bindNext z bo g q pp dd pt nb eb).2.2.2.2.1) ((s_X_bindNext z bo g q pp dd pt nb eb).2.2.2.2.2.1) ((s_X_bindNext z bo g q pp dd pt nb eb).2.2.2.2.2.2) bk), rfl, Xr_of (by rw [s_X_bind, if_pos c_2, if_neg c_6, if_neg c_8]) rfl, by rw [ht]; exact hP, va_K.moved hW.alike hK, hD⟩, hS.F ht⟩) hS.2.2 d_X_bind_53
        · have c_8 : 40 ≤ (z 3) := c_8
          refine lv_bipush (v := -4) hx hb d_X_bind_44 (by decide) ?_
          exact W.iret (v := -4) hx hb hr (fun t ht hW => ⟨⟨-4, (27 + 4 * z 0, bk, CW cs z bo g q pp dd bk), rfl, Xr_of (by rw [s_X_bind, if_pos c_2, if_neg c_6, if_pos c_8]) rfl, by rw [ht]; exact hP, va_K.moved hW.alike hK, hD⟩, hS.F ht⟩) hS.2.2 d_X_bind_46
      · have c_6 : (lp_isB bo g pt nb (z 0) 0 0) = 0 := c_6
        refine lv_bipush (v := -3) hx hb d_X_bind_31 (by decide) ?_
        exact W.iret (v := -3) hx hb hr (fun t ht hW => ⟨⟨-3, (27 + 4 * z 0, bk, CW cs z bo g q pp dd bk), rfl, Xr_of (by rw [s_X_bind, if_pos c_2, if_pos c_6]) rfl, by rw [ht]; exact hP, va_K.moved hW.alike hK, hD⟩, hS.F ht⟩) hS.2.2 d_X_bind_33
    · have c_4 : ¬ (1 ≤ (nI nb) ∧ (nI nb) ≤ 50) := c_4
      exact absurd (by simp only [Int32.le_iff_toInt_le, nI_toInt (show nb < 2 ^ 31 by omega), T1, T50]; omega) c_4
  · have c_2 : ¬ (0 ≤ pt ∧ pt ≤ 9) := c_2
    refine lv_iconst (v := -1) hx hb d_X_bind_7 (by decide) ?_
    exact W.iret (v := -1) hx hb hr (fun t ht hW => ⟨⟨-1, (27 + 4 * z 0, bk, CW cs z bo g q pp dd bk), rfl, Xr_of (by rw [s_X_bind, if_neg c_2]) rfl, by rw [ht]; exact hP, va_K.moved hW.alike hK, hD⟩, hS.F ht⟩) hS.2.2 d_X_bind_8
def s_X_bind_out (z bo : Nat → Nat) (g q pp dd : Nat → Nat → Int32) (pt : Int32) (x : Int32) : XS := (if 0 ≤ pt ∧ pt ≤ 9 then (-2, z, bo, g, q, pp, dd) else (-1, z, bo, g, q, pp, dd))
set_option maxHeartbeats 4000000 in
set_option maxRecDepth 100000 in
theorem c_X_bind_out (l : Launch) (D : va_G) (cs : Nat → ClassId) (bk : Nat → Nat) (sz : Nat) (z bo : Nat → Nat) (g q pp dd : Nat → Nat → Int32) (pt x : Int32) (ho : ¬ (1 ≤ x ∧ x ≤ 50)) : Met l y_X_bind w_X_bind ({ frames := 3, cells := 0, slots := 0, locals := 69 }) (va_Pc [.ref (bk (0)), .int (pt), .int (x)] (PB D classes (TY cs) (27 + 4 * z 0) bk (CW cs z bo g q pp dd bk) sz)) (va_Qi (Xr cs bk (s_X_bind_out z bo g q pp dd pt x)) (Wd D classes (TY cs) (AA (27 + 4 * z 0) bk sz)) (AA (27 + 4 * z 0) bk sz)) 0 0 (AA (27 + 4 * z 0) bk sz) := by
  refine pw_entry (cc := b_X_bind) (maxL := 3) (ret := (some .int)) (by decide +kernel) rfl (Nat.le_of_ble_eq_true rfl) ?_
  intro p_ e_ s m below_ meth_ c_ ls hx hb hr hml hts hown hlocks hin hsz hP hK hD hS hA hN hl
  have hw : ∀ w ∈ WA, w.before _ s = true := fun w h => hts w (List.mem_cons_of_mem _ h)
  have hown : s.vm.findClass "IssueRows" = some m.cls := hown
  have hl : lv_has ls 3 [(0, .ref (bk (0))), (1, .int (pt)), (2, .int (x))] := hl
  refine lv_iload_n hx hb d_X_bind_0 rfl (lv_at hl 1 rfl) ?_
  refine pw_callSi (va_runS (As := [.int (pt)]) (rest := []) ⟨hx, hb, hml, hown, hw⟩ (c_X_isPattern l D cs (27 + 4 * z 0) bk (CW cs z bo g q pp dd bk) s.heap.size pt) (cw_S 1 hw kM_X_55 kS_X_isPattern kZ_X kC_X_isPattern rfl rfl ⟨rfl, by decide, by decide, by decide +kernel⟩ ⟨Nat.le_of_ble_eq_true rfl, Nat.le_of_ble_eq_true rfl⟩) (pw_preS hN hK hP hD) rfl rfl hl.1 rfl (lv_room (Nat.le_of_ble_eq_true rfl)) d_X_bind_1 ⟨Nat.le_of_ble_eq_true rfl, Nat.le_of_ble_eq_true rfl⟩) (fun r_1 hr_1 => ?_)
  have hr_1 : r_1 = bI (0 ≤ pt ∧ pt ≤ 9) := hr_1
  subst hr_1
  refine pw_ifne (tgt := 9) hx hb d_X_bind_4 (by decide) (fun c_2 => ?_) (fun c_2 => ?_)
  · have c_2 : 0 ≤ pt ∧ pt ≤ 9 := c_2
    refine lv_iload_n hx hb d_X_bind_9 rfl (lv_at hl 2 rfl) ?_
    refine lv_iconst (v := 1) hx hb d_X_bind_10 (by decide) ?_
    refine lv_bipush (v := 50) hx hb d_X_bind_11 (by decide) ?_
    refine pw_callSi (va_runS (As := [.int (x), .int (1), .int (50)]) (rest := []) ⟨hx, hb, hml, hown, hw⟩ (c_X_within l D cs (27 + 4 * z 0) bk (CW cs z bo g q pp dd bk) s.heap.size x 1 50) (cw_S 3 hw kM_X_59 kS_X_within kZ_X kC_X_within rfl rfl ⟨rfl, by decide, by decide, by decide +kernel⟩ ⟨Nat.le_of_ble_eq_true rfl, Nat.le_of_ble_eq_true rfl⟩) (pw_preS hN hK hP hD) rfl rfl hl.1 rfl (lv_room (Nat.le_of_ble_eq_true rfl)) d_X_bind_13 ⟨Nat.le_of_ble_eq_true rfl, Nat.le_of_ble_eq_true rfl⟩) (fun r_3 hr_3 => ?_)
    have hr_3 : r_3 = bI (1 ≤ x ∧ x ≤ 50) := hr_3
    subst hr_3
    refine pw_ifne (tgt := 22) hx hb d_X_bind_16 (by decide) (fun c_4 => ?_) (fun c_4 => ?_)
    · have c_4 : 1 ≤ x ∧ x ≤ 50 := c_4
      exact absurd c_4 ho
    · have c_4 : ¬ (1 ≤ x ∧ x ≤ 50) := c_4
      refine lv_bipush (v := -2) hx hb d_X_bind_19 (by decide) ?_
      exact W.iret (v := -2) hx hb hr (fun t ht hW => ⟨⟨-2, (27 + 4 * z 0, bk, CW cs z bo g q pp dd bk), rfl, Xr_of (by rw [s_X_bind_out, if_pos c_2]) rfl, by rw [ht]; exact hP, va_K.moved hW.alike hK, hD⟩, hS.F ht⟩) hS.2.2 d_X_bind_21
  · have c_2 : ¬ (0 ≤ pt ∧ pt ≤ 9) := c_2
    refine lv_iconst (v := -1) hx hb d_X_bind_7 (by decide) ?_
    exact W.iret (v := -1) hx hb hr (fun t ht hW => ⟨⟨-1, (27 + 4 * z 0, bk, CW cs z bo g q pp dd bk), rfl, Xr_of (by rw [s_X_bind_out, if_neg c_2]) rfl, by rw [ht]; exact hP, va_K.moved hW.alike hK, hD⟩, hS.F ht⟩) hS.2.2 d_X_bind_8

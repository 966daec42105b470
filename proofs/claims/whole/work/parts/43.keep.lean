def insP (bo : Nat → Nat) (g : Nat → Nat → Int32) (x : Int32) : Nat → Nat
  | 0 => 0
  | k + 1 => if g (bo k) 1 ≤ x then k + 1 else insP bo g x k
def insB (bo : Nat → Nat) (P n : Nat) : Nat → Nat := fun t => if t < P then bo t else if t = P then n else bo (t - 1)
theorem keep_fin {cs : Nat → ClassId} {z bo : Nat → Nat} {g q pp dd : Nat → Nat → Int32} {bk : Nat → Nat} {cw : Nat → va_E} {h : Nat → Option Nat} {n P : Nat} (hz : z 0 = n) (hn : n < 200) (hPn : P ≤ n) (hoth : ∀ k, k ≠ 3 → cw k = CW cs z bo g q pp dd bk k)
    (h1 : ∀ t, t < P → h t = some (bk (27 + 4 * bo t))) (h2 : ∀ t, P < t → t ≤ n → h t = some (bk (27 + 4 * bo (t - 1)))) (h3 : ∀ t, n < t → h t = none) :
    va_up (va_up (va_up cw 3 (.inl (cs 3, 200, .inr (.inr (.inr (.inr (va_up h P (some (bk (27 + 4 * n)))))))))) 2 (.inl (cs 3, 200, .inr (.inr (.inr (.inr (va_up (fun j => if j < z 0 then some (bk (27 + 4 * j)) else none) n (some (bk (27 + 4 * n)))))))))) 0 (.inr (0, [.ref (bk 1), .ref (bk 2), .ref (bk 3), .int (nI (n + 1)), .ref (bk 4), .ref (bk 7), .ref (bk 10), .ref (bk 13)]))
      = CW cs (va_up z 0 (n + 1)) (insB bo P n) g q pp dd bk := by
  subst hz
  funext k
  by_cases k0 : k = 0
  · subst k0; rw [va_up_self]; rfl
  · rw [va_up_ne _ _ k0]
    by_cases k2 : k = 2
    · subst k2
      rw [va_up_self, CW_lo (by decide)]
      show _ = Sum.inl (cs 3, 200, Sum.inr (Sum.inr (Sum.inr (Sum.inr (fun j => if j < z 0 + 1 then some (bk (27 + 4 * j)) else none)))))
      congr 7
      funext t
      by_cases ht : t = z 0
      · subst ht; rw [va_up_self, if_pos (by omega)]
      · rw [va_up_ne _ _ ht]
        by_cases h4 : t < z 0
        · rw [if_pos h4, if_pos (by omega)]
        · rw [if_neg h4, if_neg (by omega)]
    · rw [va_up_ne _ _ k2]
      by_cases k3 : k = 3
      · subst k3
        rw [va_up_self, CW_lo (by decide)]
        show _ = Sum.inl (cs 3, 200, Sum.inr (Sum.inr (Sum.inr (Sum.inr (fun j => if j < z 0 + 1 then some (bk (27 + 4 * insB bo P (z 0) j)) else none)))))
        congr 7
        funext t
        unfold insB
        by_cases ht : t = P
        · subst ht; rw [va_up_self, if_pos (by omega), if_neg (by omega), if_pos rfl]
        · rw [va_up_ne _ _ ht]
          by_cases h4 : t < P
          · rw [h1 t h4, if_pos (by omega), if_pos h4]
          · by_cases h5 : t ≤ z 0
            · rw [h2 t (by omega) h5, if_pos (by omega), if_neg h4, if_neg ht]
            · rw [h3 t (by omega), if_neg (by omega)]
      · rw [va_up_ne _ _ k3, hoth k k3]
        by_cases h27 : k < 27
        · rw [CW_lo h27, CW_lo h27]
          match k, h27, k0, k2, k3 with
          | 0, _, h, _, _ => exact absurd rfl h
          | 1, _, _, _, _ => rfl
          | 2, _, _, h, _ => exact absurd rfl h
          | 3, _, _, _, h => exact absurd rfl h
          | j + 4, _, _, _, _ =>
            match j with
            | 0 => rfl
            | 1 => rfl
            | 2 => rfl
            | 3 => rfl
            | 4 => rfl
            | 5 => rfl
            | 6 => rfl
            | 7 => rfl
            | 8 => rfl
            | 9 => rfl
            | 10 => rfl
            | 11 => rfl
            | 12 => rfl
            | t + 13 => rfl
        · rw [CW_hi h27, CW_hi h27]
set_option maxHeartbeats 4000000 in
set_option maxRecDepth 100000 in
theorem l_X_keep {p_ : Program} {l : Launch} {e_ : Env} {s : State} {m : MethodId} {below_ : List Frame} {meth_ : Method} {c_ : Code} {D : va_G} {cs : Nat → ClassId} {bk : Nat → Nat} {sz : Nat} (z bo : Nat → Nat) (g q pp dd : Nat → Nat → Int32) (n P : Nat) (hzn : z 0 = n) (hn : n < 200) (hbo : ∀ t, t < n → bo t < n) (hx : p_.tables.exec = Jvm.exec) (hb : c_.code = b_X_keep) (hr : meth_.sig.returnType = none) (hml : c_.maxLocals = 3) (hw : ∀ w ∈ WA, w.before ([.ref (bk (0)), .ref (bk (27 + 4 * n))] : List Value).toArray s = true) (hown : s.vm.findClass "IssueRows" = some m.cls) (hlocks : meth_.locks = false) (hA : ∀ q, s.heap.size ≤ q → AA (27 + 4 * (n + 1)) bk sz q) (hN : NN s) (hK : va_K D classes (TY cs) s) : ∀ (k : Nat) (cw : Nat → va_E) (h : Nat → Option Nat), k ≤ n → P = insP bo g (g n 1) k → (∀ i, i ≠ 3 → cw i = CW cs z bo g q pp dd bk i) → cw 3 = .inl (cs 3, 200, .inr (.inr (.inr (.inr h)))) → (∀ t, t < k → h t = some (bk (27 + 4 * bo t))) → (∀ t, k < t → t ≤ n → h t = some (bk (27 + 4 * bo (t - 1)))) → (∀ t, n < t → h t = none) → ∀ (H : Heap) (locs : List Loc) (ls : Array Slot), va_P D classes (wl (27 + 4 * (n + 1)) bk cw) H → va_D (AA (27 + 4 * (n + 1)) bk sz) (wl (27 + 4 * (n + 1)) bk cw) → va_S (AA (27 + 4 * (n + 1)) bk sz) s.heap H locs → lv_has ls 3 [(0, .ref (bk (0))), (1, .ref (bk (27 + 4 * n))), (2, .int (nI k))] → W p_ l e_ ({ frames := 0, cells := 0, slots := 0, locals := 0 }) s m ([.ref (bk (0)), .ref (bk (27 + 4 * n))] : List Value).toArray below_ meth_ c_ H locs 0 0 (MQ below_ (va_Qv (fun u : Wt => u = ((27 + 4 * (n + 1)), bk, CW cs (va_up z 0 (n + 1)) (insB bo P n) g q pp dd bk)) (Wd D classes (TY cs) (AA (27 + 4 * (n + 1)) bk sz)) (AA (27 + 4 * (n + 1)) bk sz)) ([.ref (bk (0)), .ref (bk (27 + 4 * n))] : List Value).toArray s 0 0 (AA (27 + 4 * (n + 1)) bk sz)) (F0 m 16 ls []) := by
  intro k
  induction k with
  | zero =>
    intro cw h hkn hP0 hoth he3 h1 h2 h3 H locs ls hP hD hS hl
    have hbk := fun t ht => hbo t ht
    refine lv_iload_n hx hb d_X_keep_16 rfl (lv_at hl 2 rfl) ?_
    refine lv_if_le (tgt := 58) hx hb d_X_keep_17 (by decide) (fun c_1 => ?_) (fun c_1 => ?_)
    · have c_1 : (nI 0) ≤ 0 := c_1
      refine lv_aload_n hx hb d_X_keep_58 rfl (lv_at hl 0 rfl) ?_
      refine pw_get (ci := 0) (v := .ref (bk (3))) hx hb hw i_X hown hK hP (0) (by omega) ((hoth 0 (by decide)).trans rfl) rfl 2 (by decide) (hw _ kF_X_21) rfl d_X_keep_59 ?_
      refine lv_iload_n hx hb d_X_keep_62 rfl (lv_at hl 2 rfl) ?_
      refine lv_aload_n hx hb d_X_keep_63 rfl (lv_at hl 1 rfl) ?_
      refine pw_astq (n := 200) (f := h) hx hb hK hP hD hS 3 (3) (by omega) he3 rfl (27 + 4 * n) (by omega) ((hoth (27 + 4 * n) (by omega)).trans (CW_iss n)) rfl (0) rfl (by omega) (by decide) d_X_keep_64 (fun cw_2 H locs ecw_2 hP hD hS => ?_)
      have h_3 : cw_2 (0) = .inr (0, [.ref (bk (1)), .ref (bk (2)), .ref (bk (3)), .int (nI (z 0)), .ref (bk (4)), .ref (bk (7)), .ref (bk (10)), .ref (bk (13))]) := by rw [ecw_2, va_up_ne _ _ (by omega)]; exact ((hoth 0 (by decide)).trans rfl)
      have h_4 : cw_2 (2) = .inl (cs 3, 200, .inr (.inr (.inr (.inr (fun j => if j < z 0 then some (bk (27 + 4 * j)) else none))))) := by rw [ecw_2, va_up_ne _ _ (by omega)]; exact ((hoth 2 (by decide)).trans rfl)
      have h_5 : cw_2 (3) = .inl (cs 3, 200, .inr (.inr (.inr (.inr (va_up h (0) (some (bk (27 + 4 * n)))))))) := by rw [ecw_2]; exact va_up_self _ _ _
      have h_6 : cw_2 (27 + 4 * n) = .inr (2, [.int (nI n), .int (g n 0), .int (g n 1), .int (g n 2), .int (g n 3), .ref (bk (28 + 4 * n)), .int (g n 4), .int (g n 5), .int (g n 6), .int (g n 7), .int (g n 8), .int (g n 9), .int (g n 10), .int (g n 11)]) := by rw [ecw_2, va_up_ne _ _ (by omega)]; exact ((hoth (27 + 4 * n) (by omega)).trans (CW_iss n))
      refine lv_aload_n hx hb d_X_keep_65 rfl (lv_at hl 0 rfl) ?_
      refine pw_get (ci := 0) (v := .ref (bk (2))) hx hb hw i_X hown hK hP (0) (by omega) h_3 rfl 1 (by decide) (hw _ kF_X_17) rfl d_X_keep_66 ?_
      refine lv_aload_n hx hb d_X_keep_69 rfl (lv_at hl 0 rfl) ?_
      refine pw_get (ci := 0) (v := .int (nI (z 0))) hx hb hw i_X hown hK hP (0) (by omega) h_3 rfl 3 (by decide) (hw _ kF_X_24) rfl d_X_keep_70 ?_
      refine lv_aload_n hx hb d_X_keep_73 rfl (lv_at hl 1 rfl) ?_
      refine pw_astq (n := 200) (f := (fun j => if j < z 0 then some (bk (27 + 4 * j)) else none)) hx hb hK hP hD hS 3 (2) (by omega) h_4 rfl (27 + 4 * n) (by omega) h_6 rfl ((z 0)) rfl (by omega) (by decide) d_X_keep_74 (fun cw_7 H locs ecw_7 hP hD hS => ?_)
      have h_8 : cw_7 (0) = .inr (0, [.ref (bk (1)), .ref (bk (2)), .ref (bk (3)), .int (nI (z 0)), .ref (bk (4)), .ref (bk (7)), .ref (bk (10)), .ref (bk (13))]) := by rw [ecw_7, va_up_ne _ _ (by omega)]; exact h_3
      have h_9 : cw_7 (2) = .inl (cs 3, 200, .inr (.inr (.inr (.inr (va_up (fun j => if j < z 0 then some (bk (27 + 4 * j)) else none) ((z 0)) (some (bk (27 + 4 * n)))))))) := by rw [ecw_7]; exact va_up_self _ _ _
      have h_10 : cw_7 (3) = .inl (cs 3, 200, .inr (.inr (.inr (.inr (va_up h (0) (some (bk (27 + 4 * n)))))))) := by rw [ecw_7, va_up_ne _ _ (by omega)]; exact h_5
      have h_11 : cw_7 (27 + 4 * n) = .inr (2, [.int (nI n), .int (g n 0), .int (g n 1), .int (g n 2), .int (g n 3), .ref (bk (28 + 4 * n)), .int (g n 4), .int (g n 5), .int (g n 6), .int (g n 7), .int (g n 8), .int (g n 9), .int (g n 10), .int (g n 11)]) := by rw [ecw_7, va_up_ne _ _ (by omega)]; exact h_6
      refine lv_aload_n hx hb d_X_keep_75 rfl (lv_at hl 0 rfl) ?_
      refine lv_dup hx hb d_X_keep_76 rfl ?_
      refine pw_get (ci := 0) (v := .int (nI (z 0))) hx hb hw i_X hown hK hP (0) (by omega) h_8 rfl 3 (by decide) (hw _ kF_X_24) rfl d_X_keep_77 ?_
      refine lv_iconst (v := 1) hx hb d_X_keep_80 (by decide) ?_
      refine lv_iadd hx hb d_X_keep_81 ?_
      rw [show (nI (z 0)) + 1 = nI ((z 0) + 1) from nI_1 _]
      refine pw_put (ci := 0) (v := .int (nI ((z 0) + 1))) (ty := .int) (fs' := [.ref (bk (1)), .ref (bk (2)), .ref (bk (3)), .int (nI ((z 0) + 1)), .ref (bk (4)), .ref (bk (7)), .ref (bk (10)), .ref (bk (13))]) hx hb hw i_X t_X t_X_ok n_X hown hK hP hD hS (0) (by omega) h_8 rfl 3 (by decide) (hw _ kF_X_24) rfl (t_X_ok 3 (by decide)) rfl rfl (Nat.le_of_ble_eq_true rfl) rfl d_X_keep_82 (fun cw_12 H locs ecw_12 hP hD hS => ?_)
      have h_13 : cw_12 (0) = .inr (0, [.ref (bk (1)), .ref (bk (2)), .ref (bk (3)), .int (nI ((z 0) + 1)), .ref (bk (4)), .ref (bk (7)), .ref (bk (10)), .ref (bk (13))]) := by rw [ecw_12]; exact va_up_self _ _ _
      have h_14 : cw_12 (2) = .inl (cs 3, 200, .inr (.inr (.inr (.inr (va_up (fun j => if j < z 0 then some (bk (27 + 4 * j)) else none) ((z 0)) (some (bk (27 + 4 * n)))))))) := by rw [ecw_12, va_up_ne _ _ (by omega)]; exact h_9
      have h_15 : cw_12 (3) = .inl (cs 3, 200, .inr (.inr (.inr (.inr (va_up h (0) (some (bk (27 + 4 * n)))))))) := by rw [ecw_12, va_up_ne _ _ (by omega)]; exact h_10
      have h_16 : cw_12 (27 + 4 * n) = .inr (2, [.int (nI n), .int (g n 0), .int (g n 1), .int (g n 2), .int (g n 3), .ref (bk (28 + 4 * n)), .int (g n 4), .int (g n 5), .int (g n 6), .int (g n 7), .int (g n 8), .int (g n 9), .int (g n 10), .int (g n 11)]) := by rw [ecw_12, va_up_ne _ _ (by omega)]; exact h_11
      have hPP : P = 0 := by rw [hP0, insP]
      have hfin := keep_fin (cs := cs) (q := q) (g := g) (pp := pp) (dd := dd) (P := 0) hzn hn hkn hoth h1 h2 h3
      exact W.vret hx hb hr (fun t ht hW => ⟨⟨((27 + 4 * (n + 1)), bk, cw_12), rfl, by rw [hPP, ← hfin, ecw_12, ecw_7, ecw_2, hzn], by rw [ht]; exact hP, va_K.moved hW.alike hK, hD⟩, hS.F ht⟩) hS.2.2 d_X_keep_85
    · have c_1 : ¬ (nI 0) ≤ 0 := c_1
      exact absurd (by decide) c_1
  | succ k ih =>
    intro cw h hkn hP0 hoth he3 h1 h2 h3 H locs ls hP hD hS hl
    have hbk := fun t ht => hbo t ht
    have hbk1 := hbo k (by omega)
    refine lv_iload_n hx hb d_X_keep_16 rfl (lv_at hl 2 rfl) ?_
    refine lv_if_le (tgt := 58) hx hb d_X_keep_17 (by decide) (fun c_101 => ?_) (fun c_101 => ?_)
    · have c_101 : (nI (k + 1)) ≤ 0 := c_101
      exact absurd c_101 (nI_nle (by omega) (by omega))
    · have c_101 : ¬ (nI (k + 1)) ≤ 0 := c_101
      refine lv_aload_n hx hb d_X_keep_20 rfl (lv_at hl 0 rfl) ?_
      refine pw_get (ci := 0) (v := .ref (bk (3))) hx hb hw i_X hown hK hP (0) (by omega) ((hoth 0 (by decide)).trans rfl) rfl 2 (by decide) (hw _ kF_X_21) rfl d_X_keep_21 ?_
      refine lv_iload_n hx hb d_X_keep_24 rfl (lv_at hl 2 rfl) ?_
      refine lv_iconst (v := 1) hx hb d_X_keep_25 (by decide) ?_
      refine lv_isub hx hb d_X_keep_26 ?_
      rw [show (nI (k + 1)) - 1 = nI k from nI_pred k]
      refine pw_aldq hx hb hK hP 3 (3) (by omega) he3 rfl (k) rfl (by omega) (by decide) (r := bk (27 + 4 * (bo k))) (h1 k (by omega)) d_X_keep_27 ?_
      refine pw_get (ci := 2) (v := .int (g (bo k) 1)) hx hb hw i_I hown hK hP (27 + 4 * (bo k)) (by omega) ((hoth (27 + 4 * (bo k)) (by omega)).trans (CW_iss (bo k))) rfl 2 (by decide) (hw _ kF_X_170) rfl d_X_keep_28 ?_
      refine lv_aload_n hx hb d_X_keep_31 rfl (lv_at hl 1 rfl) ?_
      refine pw_get (ci := 2) (v := .int (g n 1)) hx hb hw i_I hown hK hP (27 + 4 * n) (by omega) ((hoth (27 + 4 * n) (by omega)).trans (CW_iss n)) rfl 2 (by decide) (hw _ kF_X_170) rfl d_X_keep_32 ?_
      refine lv_icmp_le (tgt := 58) hx hb d_X_keep_35 (by decide) (fun c_102 => ?_) (fun c_102 => ?_)
      · have c_102 : (g (bo k) 1) ≤ (g n 1) := c_102
        refine lv_aload_n hx hb d_X_keep_58 rfl (lv_at hl 0 rfl) ?_
        refine pw_get (ci := 0) (v := .ref (bk (3))) hx hb hw i_X hown hK hP (0) (by omega) ((hoth 0 (by decide)).trans rfl) rfl 2 (by decide) (hw _ kF_X_21) rfl d_X_keep_59 ?_
        refine lv_iload_n hx hb d_X_keep_62 rfl (lv_at hl 2 rfl) ?_
        refine lv_aload_n hx hb d_X_keep_63 rfl (lv_at hl 1 rfl) ?_
        refine pw_astq (n := 200) (f := h) hx hb hK hP hD hS 3 (3) (by omega) he3 rfl (27 + 4 * n) (by omega) ((hoth (27 + 4 * n) (by omega)).trans (CW_iss n)) rfl ((k + 1)) rfl (by omega) (by decide) d_X_keep_64 (fun cw_103 H locs ecw_103 hP hD hS => ?_)
        have h_104 : cw_103 (0) = .inr (0, [.ref (bk (1)), .ref (bk (2)), .ref (bk (3)), .int (nI (z 0)), .ref (bk (4)), .ref (bk (7)), .ref (bk (10)), .ref (bk (13))]) := by rw [ecw_103, va_up_ne _ _ (by omega)]; exact ((hoth 0 (by decide)).trans rfl)
        have h_105 : cw_103 (2) = .inl (cs 3, 200, .inr (.inr (.inr (.inr (fun j => if j < z 0 then some (bk (27 + 4 * j)) else none))))) := by rw [ecw_103, va_up_ne _ _ (by omega)]; exact ((hoth 2 (by decide)).trans rfl)
        have h_106 : cw_103 (3) = .inl (cs 3, 200, .inr (.inr (.inr (.inr (va_up h ((k + 1)) (some (bk (27 + 4 * n)))))))) := by rw [ecw_103]; exact va_up_self _ _ _
        have h_107 : cw_103 (27 + 4 * n) = .inr (2, [.int (nI n), .int (g n 0), .int (g n 1), .int (g n 2), .int (g n 3), .ref (bk (28 + 4 * n)), .int (g n 4), .int (g n 5), .int (g n 6), .int (g n 7), .int (g n 8), .int (g n 9), .int (g n 10), .int (g n 11)]) := by rw [ecw_103, va_up_ne _ _ (by omega)]; exact ((hoth (27 + 4 * n) (by omega)).trans (CW_iss n))
        refine lv_aload_n hx hb d_X_keep_65 rfl (lv_at hl 0 rfl) ?_
        refine pw_get (ci := 0) (v := .ref (bk (2))) hx hb hw i_X hown hK hP (0) (by omega) h_104 rfl 1 (by decide) (hw _ kF_X_17) rfl d_X_keep_66 ?_
        refine lv_aload_n hx hb d_X_keep_69 rfl (lv_at hl 0 rfl) ?_
        refine pw_get (ci := 0) (v := .int (nI (z 0))) hx hb hw i_X hown hK hP (0) (by omega) h_104 rfl 3 (by decide) (hw _ kF_X_24) rfl d_X_keep_70 ?_
        refine lv_aload_n hx hb d_X_keep_73 rfl (lv_at hl 1 rfl) ?_
        refine pw_astq (n := 200) (f := (fun j => if j < z 0 then some (bk (27 + 4 * j)) else none)) hx hb hK hP hD hS 3 (2) (by omega) h_105 rfl (27 + 4 * n) (by omega) h_107 rfl ((z 0)) rfl (by omega) (by decide) d_X_keep_74 (fun cw_108 H locs ecw_108 hP hD hS => ?_)
        have h_109 : cw_108 (0) = .inr (0, [.ref (bk (1)), .ref (bk (2)), .ref (bk (3)), .int (nI (z 0)), .ref (bk (4)), .ref (bk (7)), .ref (bk (10)), .ref (bk (13))]) := by rw [ecw_108, va_up_ne _ _ (by omega)]; exact h_104
        have h_110 : cw_108 (2) = .inl (cs 3, 200, .inr (.inr (.inr (.inr (va_up (fun j => if j < z 0 then some (bk (27 + 4 * j)) else none) ((z 0)) (some (bk (27 + 4 * n)))))))) := by rw [ecw_108]; exact va_up_self _ _ _
        have h_111 : cw_108 (3) = .inl (cs 3, 200, .inr (.inr (.inr (.inr (va_up h ((k + 1)) (some (bk (27 + 4 * n)))))))) := by rw [ecw_108, va_up_ne _ _ (by omega)]; exact h_106
        have h_112 : cw_108 (27 + 4 * n) = .inr (2, [.int (nI n), .int (g n 0), .int (g n 1), .int (g n 2), .int (g n 3), .ref (bk (28 + 4 * n)), .int (g n 4), .int (g n 5), .int (g n 6), .int (g n 7), .int (g n 8), .int (g n 9), .int (g n 10), .int (g n 11)]) := by rw [ecw_108, va_up_ne _ _ (by omega)]; exact h_107
        refine lv_aload_n hx hb d_X_keep_75 rfl (lv_at hl 0 rfl) ?_
        refine lv_dup hx hb d_X_keep_76 rfl ?_
        refine pw_get (ci := 0) (v := .int (nI (z 0))) hx hb hw i_X hown hK hP (0) (by omega) h_109 rfl 3 (by decide) (hw _ kF_X_24) rfl d_X_keep_77 ?_
        refine lv_iconst (v := 1) hx hb d_X_keep_80 (by decide) ?_
        refine lv_iadd hx hb d_X_keep_81 ?_
        rw [show (nI (z 0)) + 1 = nI ((z 0) + 1) from nI_1 _]
        refine pw_put (ci := 0) (v := .int (nI ((z 0) + 1))) (ty := .int) (fs' := [.ref (bk (1)), .ref (bk (2)), .ref (bk (3)), .int (nI ((z 0) + 1)), .ref (bk (4)), .ref (bk (7)), .ref (bk (10)), .ref (bk (13))]) hx hb hw i_X t_X t_X_ok n_X hown hK hP hD hS (0) (by omega) h_109 rfl 3 (by decide) (hw _ kF_X_24) rfl (t_X_ok 3 (by decide)) rfl rfl (Nat.le_of_ble_eq_true rfl) rfl d_X_keep_82 (fun cw_113 H locs ecw_113 hP hD hS => ?_)
        have h_114 : cw_113 (0) = .inr (0, [.ref (bk (1)), .ref (bk (2)), .ref (bk (3)), .int (nI ((z 0) + 1)), .ref (bk (4)), .ref (bk (7)), .ref (bk (10)), .ref (bk (13))]) := by rw [ecw_113]; exact va_up_self _ _ _
        have h_115 : cw_113 (2) = .inl (cs 3, 200, .inr (.inr (.inr (.inr (va_up (fun j => if j < z 0 then some (bk (27 + 4 * j)) else none) ((z 0)) (some (bk (27 + 4 * n)))))))) := by rw [ecw_113, va_up_ne _ _ (by omega)]; exact h_110
        have h_116 : cw_113 (3) = .inl (cs 3, 200, .inr (.inr (.inr (.inr (va_up h ((k + 1)) (some (bk (27 + 4 * n)))))))) := by rw [ecw_113, va_up_ne _ _ (by omega)]; exact h_111
        have h_117 : cw_113 (27 + 4 * n) = .inr (2, [.int (nI n), .int (g n 0), .int (g n 1), .int (g n 2), .int (g n 3), .ref (bk (28 + 4 * n)), .int (g n 4), .int (g n 5), .int (g n 6), .int (g n 7), .int (g n 8), .int (g n 9), .int (g n 10), .int (g n 11)]) := by rw [ecw_113, va_up_ne _ _ (by omega)]; exact h_112
        have hPP : P = (k + 1) := by rw [hP0, insP, if_pos c_102]
        have hfin := keep_fin (cs := cs) (q := q) (g := g) (pp := pp) (dd := dd) (P := (k + 1)) hzn hn hkn hoth h1 h2 h3
        exact W.vret hx hb hr (fun t ht hW => ⟨⟨((27 + 4 * (n + 1)), bk, cw_113), rfl, by rw [hPP, ← hfin, ecw_113, ecw_108, ecw_103, hzn], by rw [ht]; exact hP, va_K.moved hW.alike hK, hD⟩, hS.F ht⟩) hS.2.2 d_X_keep_85
      · have c_102 : ¬ (g (bo k) 1) ≤ (g n 1) := c_102
        refine lv_aload_n hx hb d_X_keep_38 rfl (lv_at hl 0 rfl) ?_
        refine pw_get (ci := 0) (v := .ref (bk (3))) hx hb hw i_X hown hK hP (0) (by omega) ((hoth 0 (by decide)).trans rfl) rfl 2 (by decide) (hw _ kF_X_21) rfl d_X_keep_39 ?_
        refine lv_iload_n hx hb d_X_keep_42 rfl (lv_at hl 2 rfl) ?_
        refine lv_aload_n hx hb d_X_keep_43 rfl (lv_at hl 0 rfl) ?_
        refine pw_get (ci := 0) (v := .ref (bk (3))) hx hb hw i_X hown hK hP (0) (by omega) ((hoth 0 (by decide)).trans rfl) rfl 2 (by decide) (hw _ kF_X_21) rfl d_X_keep_44 ?_
        refine lv_iload_n hx hb d_X_keep_47 rfl (lv_at hl 2 rfl) ?_
        refine lv_iconst (v := 1) hx hb d_X_keep_48 (by decide) ?_
        refine lv_isub hx hb d_X_keep_49 ?_
        rw [show (nI (k + 1)) - 1 = nI k from nI_pred k]
        refine pw_aldq hx hb hK hP 3 (3) (by omega) he3 rfl (k) rfl (by omega) (by decide) (r := bk (27 + 4 * (bo k))) (h1 k (by omega)) d_X_keep_50 ?_
        refine pw_astq (n := 200) (f := h) hx hb hK hP hD hS 3 (3) (by omega) he3 rfl (27 + 4 * (bo k)) (by omega) ((hoth (27 + 4 * (bo k)) (by omega)).trans (CW_iss (bo k))) rfl ((k + 1)) rfl (by omega) (by decide) d_X_keep_51 (fun cw_118 H locs ecw_118 hP hD hS => ?_)
        have h_119 : cw_118 (0) = .inr (0, [.ref (bk (1)), .ref (bk (2)), .ref (bk (3)), .int (nI (z 0)), .ref (bk (4)), .ref (bk (7)), .ref (bk (10)), .ref (bk (13))]) := by rw [ecw_118, va_up_ne _ _ (by omega)]; exact ((hoth 0 (by decide)).trans rfl)
        have h_120 : cw_118 (2) = .inl (cs 3, 200, .inr (.inr (.inr (.inr (fun j => if j < z 0 then some (bk (27 + 4 * j)) else none))))) := by rw [ecw_118, va_up_ne _ _ (by omega)]; exact ((hoth 2 (by decide)).trans rfl)
        have h_121 : cw_118 (3) = .inl (cs 3, 200, .inr (.inr (.inr (.inr (va_up h ((k + 1)) (some (bk (27 + 4 * (bo k))))))))) := by rw [ecw_118]; exact va_up_self _ _ _
        have h_122 : cw_118 (27 + 4 * n) = .inr (2, [.int (nI n), .int (g n 0), .int (g n 1), .int (g n 2), .int (g n 3), .ref (bk (28 + 4 * n)), .int (g n 4), .int (g n 5), .int (g n 6), .int (g n 7), .int (g n 8), .int (g n 9), .int (g n 10), .int (g n 11)]) := by rw [ecw_118, va_up_ne _ _ (by omega)]; exact ((hoth (27 + 4 * n) (by omega)).trans (CW_iss n))
        refine lv_iinc (v := nI k) (lv' := [(2, .int (nI k)), (0, .ref (bk (0))), (1, .ref (bk (27 + 4 * n)))]) hx hb d_X_keep_52 hl (k := 2) rfl (pk_m1 k) (by decide) rfl (fun ls hl => ?_)
        refine lv_goto (tgt := 16) hx hb d_X_keep_55 (by decide) ?_
        exact ih cw_118 (va_up h ((k + 1)) (some (bk (27 + 4 * (bo k))))) (by omega) (by rw [hP0, insP, if_neg c_102]) (fun i hi => by rw [ecw_118, va_up_ne _ _ hi]; exact hoth i hi) h_121 (fun t ht => by rw [va_up_ne _ _ (by omega)]; exact h1 t (by omega)) (fun t ht htn => if e : t = k + 1 then by subst e; exact va_up_self _ _ _ else by rw [va_up_ne _ _ e]; exact h2 t (by omega) htn) (fun t ht => by rw [va_up_ne _ _ (by omega)]; exact h3 t ht) _ _ _ hP hD hS (lv_sub hl [1, 2, 0] rfl)
set_option maxHeartbeats 4000000 in
set_option maxRecDepth 100000 in
theorem c_X_keep (l : Launch) (D : va_G) (cs : Nat → ClassId) (bk : Nat → Nat) (sz : Nat) (z bo : Nat → Nat) (g q pp dd : Nat → Nat → Int32) (n : Nat) (hzn : z 0 = n) (hn : n < 200) (hbo : ∀ t, t < n → bo t < n) : Met l y_X_keep w_X_keep ({ frames := 0, cells := 0, slots := 0, locals := 0 }) (va_Pc [.ref (bk (0)), .ref (bk (27 + 4 * n))] (PB D classes (TY cs) (27 + 4 * (n + 1)) bk (CW cs z bo g q pp dd bk) sz)) (va_Qv (fun u : Wt => u = ((27 + 4 * (n + 1)), bk, CW cs (va_up z 0 (n + 1)) (insB bo (insP bo g (g n 1) n) n) g q pp dd bk)) (Wd D classes (TY cs) (AA (27 + 4 * (n + 1)) bk sz)) (AA (27 + 4 * (n + 1)) bk sz)) 0 0 (AA (27 + 4 * (n + 1)) bk sz) := by
  refine pw_entry (cc := b_X_keep) (maxL := 3) (ret := none) (by decide +kernel) rfl (Nat.le_of_ble_eq_true rfl) ?_
  intro p_ e_ s m below_ meth_ c_ ls hx hb hr hml hts hown hlocks hin hsz hP hK hD hS hA hN hl
  have hw : ∀ w ∈ WA, w.before _ s = true := fun w h => hts w (List.mem_cons_of_mem _ h)
  have hown : s.vm.findClass "IssueRows" = some m.cls := hown
  have hl : lv_has ls 3 [(0, .ref (bk (0))), (1, .ref (bk (27 + 4 * n)))] := hl
  refine lv_aload_n hx hb d_X_keep_0 rfl (lv_at hl 0 rfl) ?_
  refine pw_get (ci := 0) (v := .int (nI (z 0))) hx hb hw i_X hown hK hP (0) (by omega) rfl rfl 3 (by decide) (hw _ kF_X_24) rfl d_X_keep_1 ?_
  refine lv_sipush (v := 200) hx hb d_X_keep_4 (by decide) ?_
  refine lv_icmp_lt (tgt := 11) hx hb d_X_keep_7 (by decide) (fun c_1 => ?_) (fun c_1 => ?_)
  · have c_1 : (nI (z 0)) < 200 := c_1
    refine lv_aload_n hx hb d_X_keep_11 rfl (lv_at hl 0 rfl) ?_
    refine pw_get (ci := 0) (v := .int (nI (z 0))) hx hb hw i_X hown hK hP (0) (by omega) rfl rfl 3 (by decide) (hw _ kF_X_24) rfl d_X_keep_12 ?_
    refine lv_istore_n (lv' := [(2, .int (nI (z 0))), (0, .ref (bk (0))), (1, .ref (bk (27 + 4 * n)))]) hx hb d_X_keep_15 rfl hl (by decide) rfl (fun ls hl => ?_)
    subst hzn
    exact l_X_keep z bo g q pp dd (z 0) _ rfl hn hbo hx hb hr hml hw hown hlocks hA hN hK (z 0) _ _ (Nat.le_refl _) rfl (fun _ _ => rfl) rfl (fun t ht => if_pos ht) (fun t h1 h2 => absurd h2 (by omega)) (fun t ht => if_neg (by omega)) _ _ _ hP hD hS (lv_sub hl [1, 2, 0] rfl)
  · have c_1 : ¬ (nI (z 0)) < 200 := c_1
    exact absurd (by rw [show (200 : Int32) = nI 200 from rfl, nI_ltI (by omega) (by decide)]; omega) c_1

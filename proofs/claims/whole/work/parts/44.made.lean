def recI (pt od ex rp : Int32) : Nat → Int32 := fun f => match f with
  | 0 => pt
  | 1 => od
  | 2 => ex
  | 3 => rp
  | 4 => (if ex = -1 then 0 else 1)
  | 5 => 0
  | 6 => -1
  | 7 => 0
  | 8 => -1
  | 9 => -1
  | 10 => -1
  | 11 => 0
  | 12 => 0
  | 13 => -1
  | 14 => -1
  | _ => 0
theorem CW_grow {cs : Nat → ClassId} {z bo : Nat → Nat} {g q pp dd : Nat → Nat → Int32} {bk : Nat → Nat} {bk2 : Nat → Nat} {h f1 f2 : Nat → Int32} (hb : ∀ k, k < 27 + 4 * z 0 → bk2 k = bk k) (hbo : ∀ t, t < z 0 → bo t < z 0) (k : Nat) (hk : k < 27 + 4 * z 0) : CW cs z bo (va_up g (z 0) h) q (va_up pp (z 0) f1) (va_up dd (z 0) f2) bk2 k = CW cs z bo g q pp dd bk k := by
  by_cases h27 : k < 27
  · rw [CW_lo h27, CW_lo h27]
    have e : ∀ t, t < 27 → bk2 t = bk t := fun t ht => hb t (by omega)
    match k, h27 with
    | 0, _ => simp only [CWf, e 1 (by decide), e 2 (by decide), e 3 (by decide), e 4 (by decide), e 7 (by decide), e 10 (by decide), e 13 (by decide)]
    | 1, _ =>
      show Sum.inl (cs 2, 10, Sum.inr (Sum.inr (Sum.inr (Sum.inr (fun j => if j < 10 then some (bk2 (j + 17)) else none))))) = Sum.inl (cs 2, 10, Sum.inr (Sum.inr (Sum.inr (Sum.inr (fun j => if j < 10 then some (bk (j + 17)) else none)))))
      congr 7
      funext j
      by_cases hj : j < 10
      · rw [if_pos hj, if_pos hj, e _ (by omega)]
      · rw [if_neg hj, if_neg hj]
    | 2, _ =>
      show Sum.inl (cs 3, 200, Sum.inr (Sum.inr (Sum.inr (Sum.inr (fun j => if j < z 0 then some (bk2 (27 + 4 * j)) else none))))) = Sum.inl (cs 3, 200, Sum.inr (Sum.inr (Sum.inr (Sum.inr (fun j => if j < z 0 then some (bk (27 + 4 * j)) else none)))))
      congr 7
      funext j
      by_cases hj : j < z 0
      · rw [if_pos hj, if_pos hj, hb _ (by omega)]
      · rw [if_neg hj, if_neg hj]
    | 3, _ =>
      show Sum.inl (cs 3, 200, Sum.inr (Sum.inr (Sum.inr (Sum.inr (fun j => if j < z 0 then some (bk2 (27 + 4 * bo j)) else none))))) = Sum.inl (cs 3, 200, Sum.inr (Sum.inr (Sum.inr (Sum.inr (fun j => if j < z 0 then some (bk (27 + 4 * bo j)) else none)))))
      congr 7
      funext j
      by_cases hj : j < z 0
      · have := hbo j hj
        rw [if_pos hj, if_pos hj, hb _ (by omega)]
      · rw [if_neg hj, if_neg hj]
    | 4, _ => simp only [CWf, e 5 (by decide), e 6 (by decide)]
    | 5, _ => rfl
    | 6, _ => rfl
    | 7, _ => simp only [CWf, e 8 (by decide), e 9 (by decide)]
    | 8, _ => rfl
    | 9, _ => rfl
    | 10, _ => simp only [CWf, e 11 (by decide), e 12 (by decide)]
    | 11, _ => rfl
    | 12, _ => rfl
    | 13, _ => simp only [CWf, e 14 (by decide), e 15 (by decide), e 16 (by decide)]
    | 14, _ => rfl
    | 15, _ => rfl
    | 16, _ => rfl
    | j + 17, _ => rfl
  · rw [CW_hi h27, CW_hi h27]
    have hr : (k - 27) % 4 < 4 := Nat.mod_lt _ (by decide)
    have hd : k = 27 + 4 * ((k - 27) / 4) + (k - 27) % 4 := by omega
    generalize (k - 27) % 4 = r at hr hd ⊢
    generalize (k - 27) / 4 = t at hd ⊢
    have ht : t ≠ z 0 := by omega
    have htl : t < z 0 := by omega
    match r, hr with
    | 0, _ => simp only [CWi, issF, va_up_ne _ _ ht, hb (28 + 4 * t) (by omega)]
    | 1, _ => simp only [CWi, rouF, va_up_ne _ _ ht, hb (29 + 4 * t) (by omega), hb (30 + 4 * t) (by omega)]
    | 2, _ => simp only [CWi, va_up_ne _ _ ht]
    | 3, _ => simp only [CWi, va_up_ne _ _ ht]
theorem CW_made {cs : Nat → ClassId} {z bo : Nat → Nat} {g q pp dd : Nat → Nat → Int32} {bk : Nat → Nat} {n : Nat} {bk1 bk2 : Nat → Nat} {cw1 cw2 : Nat → va_E} {pt od ex rp : Int32} (hz : z 0 = n) (hbo : ∀ t, t < n → bo t < n) (hb1 : ∀ k, k < 27 + 4 * n → bk1 k = bk k) (hc1 : ∀ k, k < 27 + 4 * n → cw1 k = CW cs z bo g q pp dd bk k)
    (e2 : ∀ k, k < 27 + 4 * n + 1 → bk2 k = bk1 k) (e3 : ∀ k, k < 27 + 4 * n + 1 → k ≠ 27 + 4 * n → cw2 k = cw1 k)
    (e4 : cw2 (27 + 4 * n) = .inr (2, [.int (nI n), .int pt, .int od, .int ex, .int rp, .ref (bk2 (27 + 4 * n + 1)), .int (if ex = -1 then 0 else 1), .int 0, .int (-1), .int 0, .int (-1), .int (-1), .int (-1), .int 0]))
    (e5 : cw2 (27 + 4 * n + 1) = .inr (3, [.ref (bk2 (27 + 4 * n + 1 + 1)), .ref (bk2 (27 + 4 * n + 1 + 1 + 1)), .int 0, .int (-1), .int (-1)])) (e6 : cw2 (27 + 4 * n + 1 + 1) = .inl (cs 0, 8, .inl (fun _ => 0))) (e7 : cw2 (27 + 4 * n + 1 + 1 + 1) = .inl (cs 0, 8, .inl (fun _ => 0))) :
    wl (27 + 4 * n + 1 + 1 + 1 + 1) bk2 cw2 = wl (27 + 4 * (n + 1)) bk2 (CW cs z bo (va_up g n (recI pt od ex rp)) q (va_up pp n (fun _ => 0)) (va_up dd n (fun _ => 0)) bk2) := by
  subst hz
  rw [show 27 + 4 * z 0 + 1 + 1 + 1 + 1 = 27 + 4 * (z 0 + 1) by omega]
  refine wl_congr (fun _ _ => rfl) (fun k hk => ?_)
  by_cases h : k < 27 + 4 * z 0
  · rw [e3 k (by omega) (by omega), hc1 k h, CW_grow (bk := bk) (fun t ht => (e2 t (by omega)).trans (hb1 t ht)) hbo k h]
  · by_cases h0 : k = 27 + 4 * z 0
    · subst h0
      rw [e4, CW_issU (z 0), show 27 + 4 * z 0 + 1 = 28 + 4 * z 0 by omega]; rfl
    · by_cases h1 : k = 27 + 4 * z 0 + 1
      · subst h1
        rw [e5, show 27 + 4 * z 0 + 1 + 1 + 1 = 30 + 4 * z 0 by omega, show 27 + 4 * z 0 + 1 + 1 = 29 + 4 * z 0 by omega, show 27 + 4 * z 0 + 1 = 28 + 4 * z 0 by omega, CW_rouU (z 0)]; rfl
      · by_cases h2 : k = 27 + 4 * z 0 + 1 + 1
        · subst h2
          rw [e6, show 27 + 4 * z 0 + 1 + 1 = 29 + 4 * z 0 by omega, CW_perU (z 0)]
        · have h3 : k = 27 + 4 * z 0 + 1 + 1 + 1 := by omega
          subst h3
          rw [e7, show 27 + 4 * z 0 + 1 + 1 + 1 = 30 + 4 * z 0 by omega, CW_dayU (z 0)]
def Xg (cs : Nat → ClassId) (bk : Nat → Nat) (n : Nat) (R : XS) (r : Int32) (u : Wt) : Prop := r = R.1 ∧ ∃ bk2 : Nat → Nat, (∀ k, k < 27 + 4 * n → bk2 k = bk k) ∧ u = (27 + 4 * R.2.1 0, bk2, Xw cs bk2 R)
theorem Xg_of {cs : Nat → ClassId} {z bo : Nat → Nat} {g q pp dd : Nat → Nat → Int32} {bk : Nat → Nat} {n N : Nat} {R : XS} {r : Int32} {bk2 : Nat → Nat} (h : R = (r, z, bo, g, q, pp, dd)) (hN : N = 27 + 4 * z 0) (hb : ∀ k, k < 27 + 4 * n → bk2 k = bk k) : Xg cs bk n R r (N, bk2, CW cs z bo g q pp dd bk2) := by subst h; subst hN; exact ⟨rfl, bk2, hb, rfl⟩
def s_X_issue (z bo : Nat → Nat) (g q pp dd : Nat → Nat → Int32) (pt : Int32) (od : Int32) (day : Int32) : XS := (if 0 ≤ pt ∧ pt ≤ 9 then (if 1 ≤ od ∧ od ≤ 9999 then (if day = (-1) then (if (lp_has g pt od (z 0) 0) = 0 then (if (nI (z 0)) < 200 then (nI (z 0), va_up z 0 (z 0 + 1), insB bo (insP bo (va_up g (z 0) (recI pt od day 0)) ((va_up g (z 0) (recI pt od day 0)) (z 0) 1) (z 0)) (z 0), va_up g (z 0) (recI pt od day 0), q, va_up pp (z 0) (fun _ => 0), va_up dd (z 0) (fun _ => 0)) else (-4, z, bo, g, q, pp, dd)) else (-3, z, bo, g, q, pp, dd)) else (if 0 ≤ day ∧ day ≤ 1000000 then (if (lp_has g pt od (z 0) 0) = 0 then (if (nI (z 0)) < 200 then (nI (z 0), va_up z 0 (z 0 + 1), insB bo (insP bo (va_up g (z 0) (recI pt od day 0)) ((va_up g (z 0) (recI pt od day 0)) (z 0) 1) (z 0)) (z 0), va_up g (z 0) (recI pt od day 0), q, va_up pp (z 0) (fun _ => 0), va_up dd (z 0) (fun _ => 0)) else (-4, z, bo, g, q, pp, dd)) else (-3, z, bo, g, q, pp, dd)) else (-2, z, bo, g, q, pp, dd))) else (-2, z, bo, g, q, pp, dd)) else (-1, z, bo, g, q, pp, dd))
set_option maxHeartbeats 4000000 in
set_option maxRecDepth 100000 in
theorem c_X_issue (l : Launch) (D : va_G) (cs : Nat → ClassId) (bk : Nat → Nat) (sz : Nat) (z bo : Nat → Nat) (g q pp dd : Nat → Nat → Int32) (hz0 : z 0 ≤ 200) (hbo : ∀ t, t < z 0 → bo t < z 0) (pt od day : Int32) : Met l y_X_issue w_X_issue ({ frames := 3, cells := 4, slots := 35, locals := 57 }) (va_Pc [.ref (bk (0)), .int (pt), .int (od), .int (day)] (PB D classes (TY cs) (27 + 4 * z 0) bk (CW cs z bo g q pp dd bk) sz)) (va_Qi (Xg cs bk (z 0) (s_X_issue z bo g q pp dd pt od day)) (Wd D classes (TY cs) (AA (27 + 4 * z 0) bk sz)) (AA (27 + 4 * z 0) bk sz)) 4 35 (AA (27 + 4 * z 0) bk sz) := by
  refine pw_entry (cc := b_X_issue) (maxL := 5) (ret := (some .int)) (by decide +kernel) rfl (Nat.le_of_ble_eq_true rfl) ?_
  intro p_ e_ s m below_ meth_ c_ ls hx hb hr hml hts hown hlocks hin hsz hP hK hD hS hA hN hl
  have hw : ∀ w ∈ WA, w.before _ s = true := fun w h => hts w (List.mem_cons_of_mem _ h)
  have hown : s.vm.findClass "IssueRows" = some m.cls := hown
  have hl : lv_has ls 5 [(0, .ref (bk (0))), (1, .int (pt)), (2, .int (od)), (3, .int (day))] := hl
  refine lv_iload_n hx hb d_X_issue_0 rfl (lv_at hl 1 rfl) ?_
  refine pw_callSi (va_runS (As := [.int (pt)]) (rest := []) ⟨hx, hb, hml, hown, hw⟩ (c_X_isPattern l D cs (27 + 4 * z 0) bk (CW cs z bo g q pp dd bk) s.heap.size pt) (cw_S 1 hw kM_X_55 kS_X_isPattern kZ_X kC_X_isPattern rfl rfl ⟨rfl, by decide, by decide, by decide +kernel⟩ ⟨Nat.le_of_ble_eq_true rfl, Nat.le_of_ble_eq_true rfl⟩) (pw_preS hN hK hP hD) rfl rfl hl.1 rfl (lv_room (Nat.le_of_ble_eq_true rfl)) d_X_issue_1 ⟨Nat.le_of_ble_eq_true rfl, Nat.le_of_ble_eq_true rfl⟩) (fun r_1 hr_1 => ?_)
  have hr_1 : r_1 = bI (0 ≤ pt ∧ pt ≤ 9) := hr_1
  subst hr_1
  refine pw_ifne (tgt := 9) hx hb d_X_issue_4 (by decide) (fun c_2 => ?_) (fun c_2 => ?_)
  · have c_2 : 0 ≤ pt ∧ pt ≤ 9 := c_2
    refine lv_iload_n hx hb d_X_issue_9 rfl (lv_at hl 2 rfl) ?_
    refine lv_iconst (v := 1) hx hb d_X_issue_10 (by decide) ?_
    refine lv_sipush (v := 9999) hx hb d_X_issue_11 (by decide) ?_
    refine pw_callSi (va_runS (As := [.int (od), .int (1), .int (9999)]) (rest := []) ⟨hx, hb, hml, hown, hw⟩ (c_X_within l D cs (27 + 4 * z 0) bk (CW cs z bo g q pp dd bk) s.heap.size od 1 9999) (cw_S 3 hw kM_X_59 kS_X_within kZ_X kC_X_within rfl rfl ⟨rfl, by decide, by decide, by decide +kernel⟩ ⟨Nat.le_of_ble_eq_true rfl, Nat.le_of_ble_eq_true rfl⟩) (pw_preS hN hK hP hD) rfl rfl hl.1 rfl (lv_room (Nat.le_of_ble_eq_true rfl)) d_X_issue_14 ⟨Nat.le_of_ble_eq_true rfl, Nat.le_of_ble_eq_true rfl⟩) (fun r_3 hr_3 => ?_)
    have hr_3 : r_3 = bI (1 ≤ od ∧ od ≤ 9999) := hr_3
    subst hr_3
    refine pw_ifeq (tgt := 32) hx hb d_X_issue_17 (by decide) (fun c_4 => ?_) (fun c_4 => ?_)
    · have c_4 : ¬ (1 ≤ od ∧ od ≤ 9999) := c_4
      refine lv_bipush (v := -2) hx hb d_X_issue_32 (by decide) ?_
      refine W.widen (k := 4) (n := 35) (by decide) (by decide) ?_
      exact W.iret (v := -2) hx hb hr (fun t ht hW => ⟨⟨-2, (27 + 4 * z 0, bk, CW cs z bo g q pp dd bk), rfl, Xg_of (by rw [s_X_issue, if_pos c_2, if_neg c_4]) rfl (fun _ _ => rfl), by rw [ht]; exact hP, va_K.moved hW.alike hK, hD⟩, hS.F ht⟩) hS.2.2 d_X_issue_34
    · have c_4 : 1 ≤ od ∧ od ≤ 9999 := c_4
      refine lv_iload_n hx hb d_X_issue_20 rfl (lv_at hl 3 rfl) ?_
      refine lv_iconst (v := -1) hx hb d_X_issue_21 (by decide) ?_
      refine lv_icmp_eq (tgt := 35) hx hb d_X_issue_22 (by decide) (fun c_5 => ?_) (fun c_5 => ?_)
      · have c_5 : day = (-1) := c_5
        refine lv_aload_n hx hb d_X_issue_35 rfl (lv_at hl 0 rfl) ?_
        refine lv_iload_n hx hb d_X_issue_36 rfl (lv_at hl 1 rfl) ?_
        refine lv_iload_n hx hb d_X_issue_37 rfl (lv_at hl 2 rfl) ?_
        refine pw_callSi (va_runV (As := [.int (pt), .int (od)]) (rest := []) ⟨hx, hb, hml, hown, hw⟩ (c_X_hasOrdinal l D cs bk s.heap.size z bo g q pp dd hz0 pt od) (cw_V 2 hw kM_X_75 kI_X_hasOrdinal kV_X_hasOrdinal kZ_X kC_X_hasOrdinal rfl rfl ⟨rfl, by decide, by decide, by decide +kernel⟩ ⟨Nat.le_of_ble_eq_true rfl, Nat.le_of_ble_eq_true rfl⟩) (pw_preV hN hK hP hD (0) (by omega) rfl rfl) rfl rfl hl.1 rfl (lv_room (Nat.le_of_ble_eq_true rfl)) d_X_issue_38 ⟨Nat.le_of_ble_eq_true rfl, Nat.le_of_ble_eq_true rfl⟩) (fun r_6 hr_6 => ?_)
        have hr_6 : r_6 = lp_has g pt od (z 0) 0 := hr_6
        subst hr_6
        refine lv_if_eq (tgt := 47) hx hb d_X_issue_41 (by decide) (fun c_7 => ?_) (fun c_7 => ?_)
        · have c_7 : (lp_has g pt od (z 0) 0) = 0 := c_7
          refine lv_aload_n hx hb d_X_issue_47 rfl (lv_at hl 0 rfl) ?_
          refine pw_get (ci := 0) (v := .int (nI (z 0))) hx hb hw i_X hown hK hP (0) (by omega) rfl rfl 3 (by decide) (hw _ kF_X_24) rfl d_X_issue_48 ?_
          refine lv_sipush (v := 200) hx hb d_X_issue_51 (by decide) ?_
          refine lv_icmp_lt (tgt := 60) hx hb d_X_issue_54 (by decide) (fun c_8 => ?_) (fun c_8 => ?_)
          · have c_8 : (nI (z 0)) < 200 := c_8
            have hz9 : z 0 < 200 := by have h7 := c_8; rw [show (200 : Int32) = nI 200 from rfl] at h7; (first | rw [nI_ltI (by omega) (by decide)] at h7 | rw [nI_leI (by decide) (by omega)] at h7); omega
            refine pw_new (ci := 2) (fs := [.int (0), .int (0), .int (0), .int (0), .int (0), .null, .int (0), .int (0), .int (0), .int (0), .int (0), .int (0), .int (0), .int (0)]) hx hb hw i_I t_I t_I_ok hown (hw _ kL_X_15) (hw _ kA_I) (hw _ kZ_I) hK hP hD hS hA rfl (fun j hj => by match j, hj with | 0, _ => rfl | 1, _ => rfl | 2, _ => rfl | 3, _ => rfl | 4, _ => rfl | 5, _ => rfl | 6, _ => rfl | 7, _ => rfl | 8, _ => rfl | 9, _ => rfl | 10, _ => rfl | 11, _ => rfl | 12, _ => rfl | 13, _ => rfl) (Nat.le_of_ble_eq_true rfl) (Nat.le_of_ble_eq_true rfl) d_X_issue_60 (fun qa H hP hD hS => ?_)
            obtain ⟨bk1, eb1⟩ : ∃ x, x = va_up bk (27 + 4 * z 0) qa := ⟨_, rfl⟩
            obtain ⟨cw1, ec1⟩ : ∃ x, x = va_up (CW cs z bo g q pp dd bk) (27 + 4 * z 0) (.inr (2, [.int (0), .int (0), .int (0), .int (0), .int (0), .null, .int (0), .int (0), .int (0), .int (0), .int (0), .int (0), .int (0), .int (0)])) := ⟨_, rfl⟩
            rw [← eb1, ← ec1] at hP hD
            have hqa1 : bk1 (27 + 4 * z 0) = qa := by rw [eb1]; exact va_up_self _ _ _
            have hb1 : ∀ k, k < 27 + 4 * z 0 → bk1 k = bk k := fun k h => by rw [eb1]; exact va_up_ne _ _ (by omega)
            have hc1 : ∀ k, k < 27 + 4 * z 0 → cw1 k = (CW cs z bo g q pp dd bk) k := fun k h => by rw [ec1]; exact va_up_ne _ _ (by omega)
            have hcn : cw1 (27 + 4 * z 0) = .inr (2, [.int (0), .int (0), .int (0), .int (0), .int (0), .null, .int (0), .int (0), .int (0), .int (0), .int (0), .int (0), .int (0), .int (0)]) := by rw [ec1]; exact va_up_self _ _ _
            refine lv_dup hx hb d_X_issue_63 rfl ?_
            refine lv_aload_n hx hb d_X_issue_64 rfl (lv_at hl 0 rfl) ?_
            refine pw_getA (ci := 0) (v := .int (nI (z 0))) hx hb hw i_X hown hK hP (0) (by omega) (hb1 (0) (by omega)) ((hc1 (0) (by omega)).trans rfl) rfl 3 (by decide) (hw _ kF_X_24) rfl d_X_issue_65 ?_
            refine lv_iload_n hx hb d_X_issue_68 rfl (lv_at hl 1 rfl) ?_
            refine lv_iload_n hx hb d_X_issue_69 rfl (lv_at hl 2 rfl) ?_
            refine lv_iload_n hx hb d_X_issue_70 rfl (lv_at hl 3 rfl) ?_
            refine lv_iconst (v := 0) hx hb d_X_issue_71 (by decide) ?_
            refine pw_callv (va_runI (As := [.int (nI (z 0)), .int (pt), .int (od), .int (day), .int (0)]) (rest := [.ref (qa)]) ⟨hx, hb, hml, hown, hw⟩ (c_I_init l D cs (27 + 4 * z 0 + 1) bk1 cw1 H.size (27 + 4 * z 0) (by omega) qa hqa1 hcn (nI (z 0)) pt od day 0 ⟨rfl, rfl⟩) (cw_I 5 hw kM_X_79 kI_I_init kZ_I kC_I_init rfl rfl rfl ⟨by decide, by decide, by decide +kernel⟩ ⟨Nat.le_of_ble_eq_true rfl, Nat.le_of_ble_eq_true rfl⟩) (pw_preS hN hK hP hD) rfl rfl hl.1 rfl (lv_room (Nat.le_of_ble_eq_true rfl)) d_X_issue_72 ⟨Nat.le_of_ble_eq_true rfl, Nat.le_of_ble_eq_true rfl⟩) hS (wl_free hD hS hA) (fun N1 bk2 cw2 H locs hu hP hD hS => ?_)
            obtain ⟨z1, z2, z3, z4, z5, z6, z7⟩ := hu
            dsimp only at z1 z2 z3 z4 z5 z6 z7
            subst z1
            rw [CW_made rfl hbo hb1 hc1 z2 z3 z4 z5 z6 z7] at hP hD
            have hb2 : ∀ k, k < 27 + 4 * z 0 → bk2 k = bk k := fun k h => (z2 k (by omega)).trans (hb1 k h)
            have hqa : bk2 (27 + 4 * z 0) = qa := (z2 _ (by omega)).trans hqa1
            refine lv_astore (lv' := [(4, .ref (qa)), (0, .ref (bk (0))), (1, .int (pt)), (2, .int (od)), (3, .int (day))]) hx hb d_X_issue_75 hl (by decide) rfl (fun ls hl => ?_)
            refine lv_aload_n hx hb d_X_issue_77 rfl (lv_at hl 1 rfl) ?_
            refine lv_aload hx hb d_X_issue_78 (lv_at hl 0 rfl) ?_
            refine W.eq (g2 := F0 m 80 ls [.ref (bk2 (27 + 4 * z 0)), .ref (bk2 0)]) (by rw [hqa, hb2 0 (by omega)]) ?_
            refine pw_callv (va_runV (As := [.ref (bk2 (27 + 4 * z 0))]) (rest := []) ⟨hx, hb, hml, hown, hw⟩ (c_X_keep l D cs bk2 H.size z bo (va_up g (z 0) (recI pt od day 0)) q (va_up pp (z 0) (fun _ => 0)) (va_up dd (z 0) (fun _ => 0)) (z 0) rfl (by omega) hbo) (cw_V 1 hw kM_X_82 kI_X_keep kV_X_keep kZ_X kC_X_keep rfl rfl ⟨rfl, by decide, by decide, by decide +kernel⟩ ⟨Nat.le_of_ble_eq_true rfl, Nat.le_of_ble_eq_true rfl⟩) (pw_preV hN hK hP hD (0) (by omega) rfl rfl) rfl rfl hl.1 rfl (lv_room (Nat.le_of_ble_eq_true rfl)) d_X_issue_80 ⟨Nat.le_of_ble_eq_true rfl, Nat.le_of_ble_eq_true rfl⟩) hS (wl_free hD hS hA) (fun N1 bk3 cw3 H locs hu hP hD hS => ?_)
            have hP := wl_eqP hu hP
            have hD := wl_eqD hu hD
            refine lv_aload hx hb d_X_issue_83 (lv_at hl 0 rfl) ?_
            refine pw_getA (ci := 2) (v := .int (nI (z 0))) hx hb hw i_I hown hK hP (27 + 4 * (z 0)) (by omega) hqa (CW_issU (z 0)) rfl 0 (by decide) (hw _ kF_X_86) rfl d_X_issue_85 ?_
            exact W.iret (v := nI (z 0)) hx hb hr (fun t ht hW => ⟨⟨nI (z 0), (27 + 4 * (z 0 + 1), bk2, CW cs (va_up z 0 (z 0 + 1)) (insB bo (insP bo (va_up g (z 0) (recI pt od day 0)) ((va_up g (z 0) (recI pt od day 0)) (z 0) 1) (z 0)) (z 0)) (va_up g (z 0) (recI pt od day 0)) q (va_up pp (z 0) (fun _ => 0)) (va_up dd (z 0) (fun _ => 0)) bk2), rfl, Xg_of (by rw [s_X_issue, if_pos c_2, if_pos c_4, if_pos c_5, if_pos c_7, if_pos c_8]) rfl hb2, by rw [ht]; exact hP, va_K.moved hW.alike hK, hD⟩, hS.F ht⟩) hS.2.2 d_X_issue_88
          · have c_8 : ¬ (nI (z 0)) < 200 := c_8
            refine lv_bipush (v := -4) hx hb d_X_issue_57 (by decide) ?_
            refine W.widen (k := 4) (n := 35) (by decide) (by decide) ?_
            exact W.iret (v := -4) hx hb hr (fun t ht hW => ⟨⟨-4, (27 + 4 * z 0, bk, CW cs z bo g q pp dd bk), rfl, Xg_of (by rw [s_X_issue, if_pos c_2, if_pos c_4, if_pos c_5, if_pos c_7, if_neg c_8]) rfl (fun _ _ => rfl), by rw [ht]; exact hP, va_K.moved hW.alike hK, hD⟩, hS.F ht⟩) hS.2.2 d_X_issue_59
        · have c_7 : ¬ (lp_has g pt od (z 0) 0) = 0 := c_7
          refine lv_bipush (v := -3) hx hb d_X_issue_44 (by decide) ?_
          refine W.widen (k := 4) (n := 35) (by decide) (by decide) ?_
          exact W.iret (v := -3) hx hb hr (fun t ht hW => ⟨⟨-3, (27 + 4 * z 0, bk, CW cs z bo g q pp dd bk), rfl, Xg_of (by rw [s_X_issue, if_pos c_2, if_pos c_4, if_pos c_5, if_neg c_7]) rfl (fun _ _ => rfl), by rw [ht]; exact hP, va_K.moved hW.alike hK, hD⟩, hS.F ht⟩) hS.2.2 d_X_issue_46
      · have c_5 : ¬ day = (-1) := c_5
        refine lv_iload_n hx hb d_X_issue_25 rfl (lv_at hl 3 rfl) ?_
        refine pw_callSi (va_runS (As := [.int (day)]) (rest := []) ⟨hx, hb, hml, hown, hw⟩ (c_X_isDay l D cs (27 + 4 * z 0) bk (CW cs z bo g q pp dd bk) s.heap.size day) (cw_S 1 hw kM_X_72 kS_X_isDay kZ_X kC_X_isDay rfl rfl ⟨rfl, by decide, by decide, by decide +kernel⟩ ⟨Nat.le_of_ble_eq_true rfl, Nat.le_of_ble_eq_true rfl⟩) (pw_preS hN hK hP hD) rfl rfl hl.1 rfl (lv_room (Nat.le_of_ble_eq_true rfl)) d_X_issue_26 ⟨Nat.le_of_ble_eq_true rfl, Nat.le_of_ble_eq_true rfl⟩) (fun r_9 hr_9 => ?_)
        have hr_9 : r_9 = bI (0 ≤ day ∧ day ≤ 1000000) := hr_9
        subst hr_9
        refine pw_ifne (tgt := 35) hx hb d_X_issue_29 (by decide) (fun c_10 => ?_) (fun c_10 => ?_)
        · have c_10 : 0 ≤ day ∧ day ≤ 1000000 := c_10
          refine lv_aload_n hx hb d_X_issue_35 rfl (lv_at hl 0 rfl) ?_
          refine lv_iload_n hx hb d_X_issue_36 rfl (lv_at hl 1 rfl) ?_
          refine lv_iload_n hx hb d_X_issue_37 rfl (lv_at hl 2 rfl) ?_
          refine pw_callSi (va_runV (As := [.int (pt), .int (od)]) (rest := []) ⟨hx, hb, hml, hown, hw⟩ (c_X_hasOrdinal l D cs bk s.heap.size z bo g q pp dd hz0 pt od) (cw_V 2 hw kM_X_75 kI_X_hasOrdinal kV_X_hasOrdinal kZ_X kC_X_hasOrdinal rfl rfl ⟨rfl, by decide, by decide, by decide +kernel⟩ ⟨Nat.le_of_ble_eq_true rfl, Nat.le_of_ble_eq_true rfl⟩) (pw_preV hN hK hP hD (0) (by omega) rfl rfl) rfl rfl hl.1 rfl (lv_room (Nat.le_of_ble_eq_true rfl)) d_X_issue_38 ⟨Nat.le_of_ble_eq_true rfl, Nat.le_of_ble_eq_true rfl⟩) (fun r_11 hr_11 => ?_)
          have hr_11 : r_11 = lp_has g pt od (z 0) 0 := hr_11
          subst hr_11
          refine lv_if_eq (tgt := 47) hx hb d_X_issue_41 (by decide) (fun c_12 => ?_) (fun c_12 => ?_)
          · have c_12 : (lp_has g pt od (z 0) 0) = 0 := c_12
            refine lv_aload_n hx hb d_X_issue_47 rfl (lv_at hl 0 rfl) ?_
            refine pw_get (ci := 0) (v := .int (nI (z 0))) hx hb hw i_X hown hK hP (0) (by omega) rfl rfl 3 (by decide) (hw _ kF_X_24) rfl d_X_issue_48 ?_
            refine lv_sipush (v := 200) hx hb d_X_issue_51 (by decide) ?_
            refine lv_icmp_lt (tgt := 60) hx hb d_X_issue_54 (by decide) (fun c_13 => ?_) (fun c_13 => ?_)
            · have c_13 : (nI (z 0)) < 200 := c_13
              have hz9 : z 0 < 200 := by have h7 := c_13; rw [show (200 : Int32) = nI 200 from rfl] at h7; (first | rw [nI_ltI (by omega) (by decide)] at h7 | rw [nI_leI (by decide) (by omega)] at h7); omega
              refine pw_new (ci := 2) (fs := [.int (0), .int (0), .int (0), .int (0), .int (0), .null, .int (0), .int (0), .int (0), .int (0), .int (0), .int (0), .int (0), .int (0)]) hx hb hw i_I t_I t_I_ok hown (hw _ kL_X_15) (hw _ kA_I) (hw _ kZ_I) hK hP hD hS hA rfl (fun j hj => by match j, hj with | 0, _ => rfl | 1, _ => rfl | 2, _ => rfl | 3, _ => rfl | 4, _ => rfl | 5, _ => rfl | 6, _ => rfl | 7, _ => rfl | 8, _ => rfl | 9, _ => rfl | 10, _ => rfl | 11, _ => rfl | 12, _ => rfl | 13, _ => rfl) (Nat.le_of_ble_eq_true rfl) (Nat.le_of_ble_eq_true rfl) d_X_issue_60 (fun qa H hP hD hS => ?_)
              obtain ⟨bk1, eb1⟩ : ∃ x, x = va_up bk (27 + 4 * z 0) qa := ⟨_, rfl⟩
              obtain ⟨cw1, ec1⟩ : ∃ x, x = va_up (CW cs z bo g q pp dd bk) (27 + 4 * z 0) (.inr (2, [.int (0), .int (0), .int (0), .int (0), .int (0), .null, .int (0), .int (0), .int (0), .int (0), .int (0), .int (0), .int (0), .int (0)])) := ⟨_, rfl⟩
              rw [← eb1, ← ec1] at hP hD
              have hqa1 : bk1 (27 + 4 * z 0) = qa := by rw [eb1]; exact va_up_self _ _ _
              have hb1 : ∀ k, k < 27 + 4 * z 0 → bk1 k = bk k := fun k h => by rw [eb1]; exact va_up_ne _ _ (by omega)
              have hc1 : ∀ k, k < 27 + 4 * z 0 → cw1 k = (CW cs z bo g q pp dd bk) k := fun k h => by rw [ec1]; exact va_up_ne _ _ (by omega)
              have hcn : cw1 (27 + 4 * z 0) = .inr (2, [.int (0), .int (0), .int (0), .int (0), .int (0), .null, .int (0), .int (0), .int (0), .int (0), .int (0), .int (0), .int (0), .int (0)]) := by rw [ec1]; exact va_up_self _ _ _
              refine lv_dup hx hb d_X_issue_63 rfl ?_
              refine lv_aload_n hx hb d_X_issue_64 rfl (lv_at hl 0 rfl) ?_
              refine pw_getA (ci := 0) (v := .int (nI (z 0))) hx hb hw i_X hown hK hP (0) (by omega) (hb1 (0) (by omega)) ((hc1 (0) (by omega)).trans rfl) rfl 3 (by decide) (hw _ kF_X_24) rfl d_X_issue_65 ?_
              refine lv_iload_n hx hb d_X_issue_68 rfl (lv_at hl 1 rfl) ?_
              refine lv_iload_n hx hb d_X_issue_69 rfl (lv_at hl 2 rfl) ?_
              refine lv_iload_n hx hb d_X_issue_70 rfl (lv_at hl 3 rfl) ?_
              refine lv_iconst (v := 0) hx hb d_X_issue_71 (by decide) ?_
              refine pw_callv (va_runI (As := [.int (nI (z 0)), .int (pt), .int (od), .int (day), .int (0)]) (rest := [.ref (qa)]) ⟨hx, hb, hml, hown, hw⟩ (c_I_init l D cs (27 + 4 * z 0 + 1) bk1 cw1 H.size (27 + 4 * z 0) (by omega) qa hqa1 hcn (nI (z 0)) pt od day 0 ⟨rfl, rfl⟩) (cw_I 5 hw kM_X_79 kI_I_init kZ_I kC_I_init rfl rfl rfl ⟨by decide, by decide, by decide +kernel⟩ ⟨Nat.le_of_ble_eq_true rfl, Nat.le_of_ble_eq_true rfl⟩) (pw_preS hN hK hP hD) rfl rfl hl.1 rfl (lv_room (Nat.le_of_ble_eq_true rfl)) d_X_issue_72 ⟨Nat.le_of_ble_eq_true rfl, Nat.le_of_ble_eq_true rfl⟩) hS (wl_free hD hS hA) (fun N1 bk2 cw2 H locs hu hP hD hS => ?_)
              obtain ⟨z1, z2, z3, z4, z5, z6, z7⟩ := hu
              dsimp only at z1 z2 z3 z4 z5 z6 z7
              subst z1
              rw [CW_made rfl hbo hb1 hc1 z2 z3 z4 z5 z6 z7] at hP hD
              have hb2 : ∀ k, k < 27 + 4 * z 0 → bk2 k = bk k := fun k h => (z2 k (by omega)).trans (hb1 k h)
              have hqa : bk2 (27 + 4 * z 0) = qa := (z2 _ (by omega)).trans hqa1
              refine lv_astore (lv' := [(4, .ref (qa)), (0, .ref (bk (0))), (1, .int (pt)), (2, .int (od)), (3, .int (day))]) hx hb d_X_issue_75 hl (by decide) rfl (fun ls hl => ?_)
              refine lv_aload_n hx hb d_X_issue_77 rfl (lv_at hl 1 rfl) ?_
              refine lv_aload hx hb d_X_issue_78 (lv_at hl 0 rfl) ?_
              refine W.eq (g2 := F0 m 80 ls [.ref (bk2 (27 + 4 * z 0)), .ref (bk2 0)]) (by rw [hqa, hb2 0 (by omega)]) ?_
              refine pw_callv (va_runV (As := [.ref (bk2 (27 + 4 * z 0))]) (rest := []) ⟨hx, hb, hml, hown, hw⟩ (c_X_keep l D cs bk2 H.size z bo (va_up g (z 0) (recI pt od day 0)) q (va_up pp (z 0) (fun _ => 0)) (va_up dd (z 0) (fun _ => 0)) (z 0) rfl (by omega) hbo) (cw_V 1 hw kM_X_82 kI_X_keep kV_X_keep kZ_X kC_X_keep rfl rfl ⟨rfl, by decide, by decide, by decide +kernel⟩ ⟨Nat.le_of_ble_eq_true rfl, Nat.le_of_ble_eq_true rfl⟩) (pw_preV hN hK hP hD (0) (by omega) rfl rfl) rfl rfl hl.1 rfl (lv_room (Nat.le_of_ble_eq_true rfl)) d_X_issue_80 ⟨Nat.le_of_ble_eq_true rfl, Nat.le_of_ble_eq_true rfl⟩) hS (wl_free hD hS hA) (fun N1 bk3 cw3 H locs hu hP hD hS => ?_)
              have hP := wl_eqP hu hP
              have hD := wl_eqD hu hD
              refine lv_aload hx hb d_X_issue_83 (lv_at hl 0 rfl) ?_
              refine pw_getA (ci := 2) (v := .int (nI (z 0))) hx hb hw i_I hown hK hP (27 + 4 * (z 0)) (by omega) hqa (CW_issU (z 0)) rfl 0 (by decide) (hw _ kF_X_86) rfl d_X_issue_85 ?_
              exact W.iret (v := nI (z 0)) hx hb hr (fun t ht hW => ⟨⟨nI (z 0), (27 + 4 * (z 0 + 1), bk2, CW cs (va_up z 0 (z 0 + 1)) (insB bo (insP bo (va_up g (z 0) (recI pt od day 0)) ((va_up g (z 0) (recI pt od day 0)) (z 0) 1) (z 0)) (z 0)) (va_up g (z 0) (recI pt od day 0)) q (va_up pp (z 0) (fun _ => 0)) (va_up dd (z 0) (fun _ => 0)) bk2), rfl, Xg_of (by rw [s_X_issue, if_pos c_2, if_pos c_4, if_neg c_5, if_pos c_10, if_pos c_12, if_pos c_13]) rfl hb2, by rw [ht]; exact hP, va_K.moved hW.alike hK, hD⟩, hS.F ht⟩) hS.2.2 d_X_issue_88
            · have c_13 : ¬ (nI (z 0)) < 200 := c_13
              refine lv_bipush (v := -4) hx hb d_X_issue_57 (by decide) ?_
              refine W.widen (k := 4) (n := 35) (by decide) (by decide) ?_
              exact W.iret (v := -4) hx hb hr (fun t ht hW => ⟨⟨-4, (27 + 4 * z 0, bk, CW cs z bo g q pp dd bk), rfl, Xg_of (by rw [s_X_issue, if_pos c_2, if_pos c_4, if_neg c_5, if_pos c_10, if_pos c_12, if_neg c_13]) rfl (fun _ _ => rfl), by rw [ht]; exact hP, va_K.moved hW.alike hK, hD⟩, hS.F ht⟩) hS.2.2 d_X_issue_59
          · have c_12 : ¬ (lp_has g pt od (z 0) 0) = 0 := c_12
            refine lv_bipush (v := -3) hx hb d_X_issue_44 (by decide) ?_
            refine W.widen (k := 4) (n := 35) (by decide) (by decide) ?_
            exact W.iret (v := -3) hx hb hr (fun t ht hW => ⟨⟨-3, (27 + 4 * z 0, bk, CW cs z bo g q pp dd bk), rfl, Xg_of (by rw [s_X_issue, if_pos c_2, if_pos c_4, if_neg c_5, if_pos c_10, if_neg c_12]) rfl (fun _ _ => rfl), by rw [ht]; exact hP, va_K.moved hW.alike hK, hD⟩, hS.F ht⟩) hS.2.2 d_X_issue_46
        · have c_10 : ¬ (0 ≤ day ∧ day ≤ 1000000) := c_10
          refine lv_bipush (v := -2) hx hb d_X_issue_32 (by decide) ?_
          refine W.widen (k := 4) (n := 35) (by decide) (by decide) ?_
          exact W.iret (v := -2) hx hb hr (fun t ht hW => ⟨⟨-2, (27 + 4 * z 0, bk, CW cs z bo g q pp dd bk), rfl, Xg_of (by rw [s_X_issue, if_pos c_2, if_pos c_4, if_neg c_5, if_neg c_10]) rfl (fun _ _ => rfl), by rw [ht]; exact hP, va_K.moved hW.alike hK, hD⟩, hS.F ht⟩) hS.2.2 d_X_issue_34
  · have c_2 : ¬ (0 ≤ pt ∧ pt ≤ 9) := c_2
    refine lv_iconst (v := -1) hx hb d_X_issue_7 (by decide) ?_
    refine W.widen (k := 4) (n := 35) (by decide) (by decide) ?_
    exact W.iret (v := -1) hx hb hr (fun t ht hW => ⟨⟨-1, (27 + 4 * z 0, bk, CW cs z bo g q pp dd bk), rfl, Xg_of (by rw [s_X_issue, if_neg c_2]) rfl (fun _ _ => rfl), by rw [ht]; exact hP, va_K.moved hW.alike hK, hD⟩, hS.F ht⟩) hS.2.2 d_X_issue_8

/-- the contracts of a read that may throw -/
def OpL (y : MethodName) (w : List Cond) (rm : Room) (mc ms : Nat) (x1 x2 : Int32) (z bo : Nat → Nat) (g q pp dd : Nat → Nat → Int32) (k : Int32) (f f' : Nat → Int64) : Prop :=
  ∀ (l : Launch) (D : va_G) (cs : Nat → ClassId) (bk : Nat → Nat) (sz ba : Nat), l.stackTraces = false → Met l y w rm (va_Pc [.ref (bk 0), .int x1, .int x2, .ref ba] (PT D classes (TY cs) ((27 + 4 * z 0) + 1) (va_up bk (27 + 4 * z 0) ba) (va_up (CW cs z bo g q pp dd bk) (27 + 4 * z 0) (.inl (cs 4, 1, .inr (.inl f)))) sz)) (va_Qi (fun r u => r = k ∧ u = ((27 + 4 * z 0) + 1, va_up bk (27 + 4 * z 0) ba, va_up (CW cs z bo g q pp dd bk) (27 + 4 * z 0) (.inl (cs 4, 1, .inr (.inl f'))))) (Wd D classes (TY cs) (AA ((27 + 4 * z 0) + 1) (va_up bk (27 + 4 * z 0) ba) sz)) (AA ((27 + 4 * z 0) + 1) (va_up bk (27 + 4 * z 0) ba) sz)) mc ms (AA ((27 + 4 * z 0) + 1) (va_up bk (27 + 4 * z 0) ba) sz)
section OPL
variable {z bo zm : Nat → Nat} {g q pp dd a : Nat → Nat → Int32}
theorem updL_0 {f : Nat → Int64} {x : Int64} : vp_updL f 0 x 0 = x := by simp [vp_updL]
theorem op_claimed (H : Rl z bo g q pp dd zm a) (th x1 x2 : Int32) (f : Nat → Int64) :
    (∃ (v : Int32) (f' : Nat → Int64), OpL y_L_claimed w_L_claimed ({ frames := 4, cells := 0, slots := 0, locals := 88 }) 0 0 x1 x2 z bo g q pp dd 0 f f' ∧ OpM y_M_claimed w_M_claimed ({ frames := 1, cells := 0, slots := 0, locals := 22 }) [.int x1, .int x2] th zm a (v, 0, zm, a) ∧ f' 0 = v.toInt64) ∨
    (OpL y_L_claimed w_L_claimed ({ frames := 7, cells := 1, slots := 6, locals := 104 }) 1 6 x1 x2 z bo g q pp dd 1 f f ∧ OpM y_M_claimed w_M_claimed ({ frames := 1, cells := 0, slots := 0, locals := 22 }) [.int x1, .int x2] th zm a (0, 1, zm, a)) := by
  obtain ⟨z0, zm0, z2, zm4, z3, ez⟩ := Rl_b H
  have e := eq_claimed (th := th) H x1 x2
  obtain ⟨r1, r2, -⟩ := H.2.2.2.1
  have C : OpM y_M_claimed w_M_claimed ({ frames := 1, cells := 0, slots := 0, locals := 22 }) [.int x1, .int x2] th zm a (s_M_claimed th zm a x1 x2) := fun l D cs bk sz => c_M_claimed l D cs bk sz th zm a (by omega) x1 x2
  rw [e] at C
  by_cases h : (0 ≤ x1 ∧ x1 < nI (z 1)) ∧ 0 ≤ x2 ∧ x2 ≤ 1
  · rw [if_pos h] at C
    exact Or.inl ⟨_, _, fun l D cs bk sz ba _ => c_L_claimed l D cs bk sz z bo g q pp dd ba f r2 x1 x2 h, C, updL_0⟩
  · rw [if_neg h] at C
    exact Or.inr ⟨fun l D cs bk sz ba hlt => t_L_claimed l D cs bk sz z bo g q pp dd ba f r2 x1 x2 h hlt, C⟩
theorem op_row (H : Rl z bo g q pp dd zm a) (th x1 x2 : Int32) (f : Nat → Int64) :
    (∃ (v : Int32) (f' : Nat → Int64), OpL y_L_row w_L_row ({ frames := 4, cells := 0, slots := 0, locals := 88 }) 0 0 x1 x2 z bo g q pp dd 0 f f' ∧ OpM y_M_row w_M_row ({ frames := 1, cells := 0, slots := 0, locals := 22 }) [.int x1, .int x2] th zm a (v, 0, zm, a) ∧ f' 0 = v.toInt64) ∨
    (OpL y_L_row w_L_row ({ frames := 7, cells := 1, slots := 6, locals := 104 }) 1 6 x1 x2 z bo g q pp dd 1 f f ∧ OpM y_M_row w_M_row ({ frames := 1, cells := 0, slots := 0, locals := 22 }) [.int x1, .int x2] th zm a (0, 1, zm, a)) := by
  obtain ⟨z0, zm0, z2, zm4, z3, ez⟩ := Rl_b H
  have e := eq_row (th := th) H x1 x2
  obtain ⟨r1, r2, -⟩ := H.2.2.2.2.2.1
  have C : OpM y_M_row w_M_row ({ frames := 1, cells := 0, slots := 0, locals := 22 }) [.int x1, .int x2] th zm a (s_M_row th zm a x1 x2) := fun l D cs bk sz => c_M_row l D cs bk sz th zm a (by omega) x1 x2
  rw [e] at C
  by_cases h : (0 ≤ x1 ∧ x1 < nI (z 4)) ∧ 0 ≤ x2 ∧ x2 ≤ 3
  · rw [if_pos h] at C
    exact Or.inl ⟨_, _, fun l D cs bk sz ba _ => c_L_row l D cs bk sz z bo g q pp dd ba f r2 x1 x2 h, C, updL_0⟩
  · rw [if_neg h] at C
    exact Or.inr ⟨fun l D cs bk sz ba hlt => t_L_row l D cs bk sz z bo g q pp dd ba f r2 x1 x2 h hlt, C⟩
theorem op_volume (H : Rl z bo g q pp dd zm a) (th x1 x2 : Int32) (f : Nat → Int64) :
    (∃ (v : Int32) (f' : Nat → Int64), OpL y_L_volume w_L_volume ({ frames := 4, cells := 0, slots := 0, locals := 88 }) 0 0 x1 x2 z bo g q pp dd 0 f f' ∧ OpM y_M_volume w_M_volume ({ frames := 1, cells := 0, slots := 0, locals := 22 }) [.int x1, .int x2] th zm a (v, 0, zm, a) ∧ f' 0 = v.toInt64) ∨
    (OpL y_L_volume w_L_volume ({ frames := 7, cells := 1, slots := 6, locals := 104 }) 1 6 x1 x2 z bo g q pp dd 1 f f ∧ OpM y_M_volume w_M_volume ({ frames := 1, cells := 0, slots := 0, locals := 22 }) [.int x1, .int x2] th zm a (0, 1, zm, a)) := by
  obtain ⟨z0, zm0, z2, zm4, z3, ez⟩ := Rl_b H
  have C : OpM y_M_volume w_M_volume ({ frames := 1, cells := 0, slots := 0, locals := 22 }) [.int x1, .int x2] th zm a (s_M_volume th zm a x1 x2) := fun l D cs bk sz => c_M_volume l D cs bk sz th zm a zm0 (fun j hj => Rl_ord H (by omega)) x1 x2
  by_cases h : 0 ≤ x1 ∧ x1 < nI (z 3)
  · obtain ⟨j, hj, rfl⟩ := ix_of h (by omega)
    obtain ⟨e0, ed, hed, h0, h1, hv⟩ := eq_volume (th := th) H hj
    rw [hv x2] at C
    by_cases hx : 0 ≤ x2 ∧ x2 < nI ed
    · rw [if_pos hx] at C
      obtain ⟨k, hk, rfl⟩ := ix_of hx (by omega)
      rw [nI_clamp (by omega)] at C
      exact Or.inl ⟨_, _, fun l D cs bk sz ba _ => c_L_volume l D cs bk sz z bo g q pp dd ba f z3 j hj e0 ed hed h0 h1 k hk hx, C, updL_0⟩
    · rw [if_neg hx] at C
      exact Or.inr ⟨fun l D cs bk sz ba hlt => t_L_volume l D cs bk sz z bo g q pp dd ba f z3 j hj e0 ed hed h0 h1 x2 hx hlt, C⟩
  · rw [eq_volume_out (th := th) H h] at C
    exact Or.inr ⟨fun l D cs bk sz ba hlt => t_L_volume_out l D cs bk sz z bo g q pp dd ba f z3 x1 x2 h hlt, C⟩
end OPL
theorem lg_cmp_self {x : Int64} : lg_cmp x x = 0 := by simp [lg_cmp]
set_option maxHeartbeats 4000000 in
set_option maxRecDepth 100000 in
theorem tl_claimed {p : Program} {l : Launch} {e : Env} {s : State} {m : MethodId} {below : List Frame} {meth : Method} {c : Code} {b L : Nat} {xs : Nat → Int32} {D : va_G} {cs : Nat → ClassId} {ba : Nat} {Q : State → Prop} {i cells slots c9 s9 : Nat} (F : LF p l s m meth c b L xs D cs) (hi : i + 5 ≤ L) (hc : cells ≤ c9) (hc9 : c9 ≤ 601024) (hs : slots ≤ s9) (hs9 : s9 ≤ 7293034) {z bo zm : Nat → Nat} {g q pp dd a : Nat → Nat → Int32} {th : Int32} {f : Nat → Int64} {bkX bkM : Nat → Nat} {H : Heap} {locs : List Loc} {ls : Array Slot} {k v : Int32} (kk : LC p l e s m below meth c b D cs (bkX 0) (bkM 0) ba Q i c9 s9 866) (hR : Rl z bo g q pp dd zm a)
    (oM : OpM y_M_claimed w_M_claimed ({ frames := 1, cells := 0, slots := 0, locals := 22 }) [.int (xs (i + 1)), .int (xs (i + 2))] th zm a (v, k, zm, a)) (hk : k = 0 → f 0 = v.toInt64) (hP : va_P D classes (wX cs z bo g q pp dd bkX ++ (wM cs th zm a bkM ++ wL cs ba f)) H) (hD : va_D (LA s) (wX cs z bo g q pp dd bkX ++ (wM cs th zm a bkM ++ wL cs ba f))) (hS : va_S (LA s) s.heap H locs) (hl : lv_has ls 7 (Lv b (bkX 0) (bkM 0) ba i)) :
    W p l e room_1 s m #[Value.ref b] below meth c H locs cells slots Q (F0 m 321 ls [.int k]) := by
  obtain ⟨hx, hb, hr, hml, hown, hw, hX, hbl, hlocks, hK, hN, hT, hlt, hL⟩ := F
  refine lv_istore (lv' := [(5, .int k), (0, .ref b), (1, .ref (bkX 0)), (2, .ref (bkM 0)), (3, .ref ba), (4, .int (nI i))]) hx hb d_L_law_321 hl (by decide) rfl (fun ls hl => ?_)
  refine lv_aload_n hx hb d_L_law_323 rfl (lv_at hl 3 rfl) ?_
  refine lw_arg 1 hx hb hX hbl hS hl 1 5 rfl rfl hL hi (by decide) (by decide) d_L_law_324 d_L_law_325 d_L_law_327 d_L_law_328 d_L_law_329 ?_
  refine lw_arg 2 hx hb hX hbl hS hl 1 5 rfl rfl hL hi (by decide) (by decide) d_L_law_330 d_L_law_331 d_L_law_333 d_L_law_334 d_L_law_335 ?_
  refine lw_callM (va_runV (As := [.int (xs (i + 1)), .int (xs (i + 2))]) (rest := []) ⟨hx, hb, hml, hown, hw⟩ (oM l D cs bkM H.size) (cw_V 2 hw kM_L_49 kI_M_claimed kV_M_claimed kZ_M kC_M_claimed rfl rfl ⟨rfl, by decide, by decide, by decide +kernel⟩ ⟨Nat.le_of_ble_eq_true rfl, Nat.le_of_ble_eq_true rfl⟩) (pw_preV hN hK (va_P_l (va_P_r hP)) (va_D_l (va_D_r hD)) 0 (by decide) rfl rfl) rfl rfl hl.1 rfl (lv_room (Nat.le_of_ble_eq_true rfl)) d_L_law_336 ⟨by show cells + 0 ≤ 601024; omega, by show slots + 0 ≤ 7293034; omega⟩) hP hD hS (fun _ h => h) (fun H locs hP hD hS => ?_)
  refine lv_istore (lv' := [(6, .int v), (5, .int k), (0, .ref b), (1, .ref (bkX 0)), (2, .ref (bkM 0)), (3, .ref ba), (4, .int (nI i))]) hx hb d_L_law_339 hl (by decide) rfl (fun ls hl => ?_)
  refine lv_aload_n hx hb d_L_law_341 rfl (lv_at hl 4 rfl) ?_
  refine pw_callSi (va_runV (As := []) (rest := []) ⟨hx, hb, hml, hown, hw⟩ (c_M_thrown l D cs bkM H.size k zm a) (cw_V 0 hw kM_L_50 kI_M_thrown kV_M_thrown kZ_M kC_M_thrown rfl rfl ⟨rfl, by decide, by decide, by decide +kernel⟩ ⟨Nat.le_of_ble_eq_true rfl, Nat.le_of_ble_eq_true rfl⟩) (pw_preV hN hK (va_P_l (va_P_r hP)) (va_D_l (va_D_r hD)) 0 (by decide) rfl rfl) rfl rfl hl.1 rfl (lv_room (Nat.le_of_ble_eq_true rfl)) d_L_law_342 ⟨by show cells + 0 + 0 ≤ 601024; omega, by show slots + 0 + 0 ≤ 7293034; omega⟩) (fun r_1 hr_1 => ?_)
  have hr_1 : r_1 = k := hr_1
  subst hr_1
  refine lv_iload hx hb d_L_law_345 (lv_at hl 1 rfl) ?_
  refine lv_icmp_eq (tgt := 352) hx hb d_L_law_347 (by decide) (fun _ => ?_) (fun h => absurd rfl h)
  refine lv_iload hx hb d_L_law_352 (lv_at hl 1 rfl) ?_
  have fin : W p l e room_1 s m #[Value.ref b] below meth c H locs (cells + 0) (slots + 0) Q (F0 m 369 ls []) := by
    refine lv_goto (tgt := 866) hx hb d_L_law_369 (by decide) ?_
    exact W.widen (by omega) (by omega) (kk _ _ _ _ _ _ _ _ _ _ _ _ _ _ _ hR rfl rfl hP hD hS (lv_sub hl [2, 3, 4, 5, 6] rfl))
  refine lv_if_ne (tgt := 369) hx hb d_L_law_354 (by decide) (fun _ => fin) (fun h0 => ?_)
  have hk0 := hk h0
  refine lv_aload_n hx hb d_L_law_357 rfl (lv_at hl 5 rfl) ?_
  refine lv_iconst (v := 0) hx hb d_L_law_358 (by decide) ?_
  refine va_lald hx hb hK (va_P_r (va_P_r hP)) 0 4 (n := 1) (f := f) rfl rfl (show ¬ ((0 : Int32) < 0 ∨ 1 ≤ (0 : Int32).toNatClampNeg) by decide) d_L_law_359 ?_
  refine lv_iload hx hb d_L_law_360 (lv_at hl 0 rfl) ?_
  refine lv_i2l (v := v.toInt64) hx hb d_L_law_362 rfl ?_
  refine W.lcmp hx hb d_L_law_363 ?_
  have e0 : lg_cmp (f (0 : Int32).toNatClampNeg) v.toInt64 = 0 := by rw [show (0 : Int32).toNatClampNeg = 0 from rfl, hk0, lg_cmp_self]
  rw [e0]
  exact lv_if_eq (tgt := 369) hx hb d_L_law_364 (by decide) (fun _ => fin) (fun h => absurd rfl h)
set_option maxHeartbeats 4000000 in
set_option maxRecDepth 100000 in
theorem cs_claimed {p : Program} {l : Launch} {e : Env} {s : State} {m : MethodId} {below : List Frame} {meth : Method} {c : Code} {b L : Nat} {xs : Nat → Int32} {D : va_G} {cs : Nat → ClassId} {xa ma ba : Nat} {Q : State → Prop} {i cells slots : Nat} (F : LF p l s m meth c b L xs D cs) (hi : i + 5 ≤ L) (hc : cells + 4 ≤ 601024) (hs : slots + 35 ≤ 7293034) (kk : LC p l e s m below meth c b D cs xa ma ba Q i (cells + 4) (slots + 35) 866) : LC p l e s m below meth c b D cs xa ma ba Q i cells slots 304 := by
  have F0 := F
  obtain ⟨hx, hb, hr, hml, hown, hw, hX, hbl, hlocks, hK, hN, hT, hlt, hL⟩ := F
  intro z bo zm g q pp dd a th f bkX bkM H locs ls hR hx0 hm0 hP hD hS hl
  subst hx0
  subst hm0
  have hP' := hP
  have hD' := hD
  rw [← List.append_assoc] at hP' hD'
  have hP2 := va_P.swap hP'
  have hD2 := va_D.swap hD'
  rw [wl_push] at hP2 hD2
  refine lv_aload_n hx hb d_L_law_304 rfl (lv_at hl 1 rfl) ?_
  refine lw_arg 1 hx hb hX hbl hS hl 0 4 rfl rfl hL hi (by decide) (by decide) d_L_law_305 d_L_law_306 d_L_law_308 d_L_law_309 d_L_law_310 ?_
  refine lw_arg 2 hx hb hX hbl hS hl 0 4 rfl rfl hL hi (by decide) (by decide) d_L_law_311 d_L_law_312 d_L_law_314 d_L_law_315 d_L_law_316 ?_
  refine lv_aload_n hx hb d_L_law_317 rfl (lv_at hl 3 rfl) ?_
  rcases op_claimed hR th (xs (i + 1)) (xs (i + 2)) f with ⟨v, f', oL, oM, hv⟩ | ⟨oL, oM⟩
  · refine lw_calli (pw_runSW (hh := [(0, 10, 13, 13)]) (As := [.ref (bkX 0), .int (xs (i + 1)), .int (xs (i + 2)), .ref ba]) (rest := []) ⟨hx, hb, hml, hown, hw⟩ (oL l D cs bkX H.size ba hlt) (cw_SW 4 hw kM_L_44 kS_L_claimed kZ_L kW_L_claimed rfl rfl ⟨by decide, by decide, by decide +kernel⟩ ⟨Nat.le_of_ble_eq_true rfl, Nat.le_of_ble_eq_true rfl⟩) (pw_preST hT (fun q h => hS.2.1 q h (Nat.not_le.mpr h)) hN hK (va_P_l hP2) (va_D_l hD2)) rfl rfl hl.1 rfl (lv_room (Nat.le_of_ble_eq_true rfl)) d_L_law_318 ⟨by show cells + 0 ≤ 601024; omega, by show slots + 0 ≤ 7293034; omega⟩) hP2 hD2 hS (fun _ h => h) (fun r N1 bk1 cw1 H locs hw9 hP hD hS => ?_)
    obtain ⟨h0, hw9⟩ := hw9
    obtain ⟨h1, h2⟩ := Prod.mk.inj hw9
    obtain ⟨h3, h4⟩ := Prod.mk.inj h2
    rw [h1, h3, h4, ← wl_push] at hP hD
    have hP := va_P.swap hP
    have hD := va_D.swap hD
    rw [List.append_assoc] at hP hD
    rw [h0]
    exact tl_claimed F0 hi (by omega) (by omega) (by omega) (by omega) kk hR oM (fun _ => hv) hP hD hS hl
  · refine lw_calli (pw_runSW (hh := [(0, 10, 13, 13)]) (As := [.ref (bkX 0), .int (xs (i + 1)), .int (xs (i + 2)), .ref ba]) (rest := []) ⟨hx, hb, hml, hown, hw⟩ (oL l D cs bkX H.size ba hlt) (cw_SW 4 hw kM_L_44 kS_L_claimed kZ_L kW_L_claimed rfl rfl ⟨by decide, by decide, by decide +kernel⟩ ⟨Nat.le_of_ble_eq_true rfl, Nat.le_of_ble_eq_true rfl⟩) (pw_preST hT (fun q h => hS.2.1 q h (Nat.not_le.mpr h)) hN hK (va_P_l hP2) (va_D_l hD2)) rfl rfl hl.1 rfl (lv_room (Nat.le_of_ble_eq_true rfl)) d_L_law_318 ⟨by show cells + 1 ≤ 601024; omega, by show slots + 6 ≤ 7293034; omega⟩) hP2 hD2 hS (fun _ h => h) (fun r N1 bk1 cw1 H locs hw9 hP hD hS => ?_)
    obtain ⟨h0, hw9⟩ := hw9
    obtain ⟨h1, h2⟩ := Prod.mk.inj hw9
    obtain ⟨h3, h4⟩ := Prod.mk.inj h2
    rw [h1, h3, h4, ← wl_push] at hP hD
    have hP := va_P.swap hP
    have hD := va_D.swap hD
    rw [List.append_assoc] at hP hD
    rw [h0]
    exact tl_claimed F0 hi (by omega) (by omega) (by omega) (by omega) kk hR oM (fun h => absurd h (by decide)) hP hD hS hl
set_option maxHeartbeats 4000000 in
set_option maxRecDepth 100000 in
theorem tl_volume {p : Program} {l : Launch} {e : Env} {s : State} {m : MethodId} {below : List Frame} {meth : Method} {c : Code} {b L : Nat} {xs : Nat → Int32} {D : va_G} {cs : Nat → ClassId} {ba : Nat} {Q : State → Prop} {i cells slots c9 s9 : Nat} (F : LF p l s m meth c b L xs D cs) (hi : i + 5 ≤ L) (hc : cells ≤ c9) (hc9 : c9 ≤ 601024) (hs : slots ≤ s9) (hs9 : s9 ≤ 7293034) {z bo zm : Nat → Nat} {g q pp dd a : Nat → Nat → Int32} {th : Int32} {f : Nat → Int64} {bkX bkM : Nat → Nat} {H : Heap} {locs : List Loc} {ls : Array Slot} {k v : Int32} (kk : LC p l e s m below meth c b D cs (bkX 0) (bkM 0) ba Q i c9 s9 866) (hR : Rl z bo g q pp dd zm a)
    (oM : OpM y_M_volume w_M_volume ({ frames := 1, cells := 0, slots := 0, locals := 22 }) [.int (xs (i + 1)), .int (xs (i + 2))] th zm a (v, k, zm, a)) (hk : k = 0 → f 0 = v.toInt64) (hP : va_P D classes (wX cs z bo g q pp dd bkX ++ (wM cs th zm a bkM ++ wL cs ba f)) H) (hD : va_D (LA s) (wX cs z bo g q pp dd bkX ++ (wM cs th zm a bkM ++ wL cs ba f))) (hS : va_S (LA s) s.heap H locs) (hl : lv_has ls 7 (Lv b (bkX 0) (bkM 0) ba i)) :
    W p l e room_1 s m #[Value.ref b] below meth c H locs cells slots Q (F0 m 586 ls [.int k]) := by
  obtain ⟨hx, hb, hr, hml, hown, hw, hX, hbl, hlocks, hK, hN, hT, hlt, hL⟩ := F
  refine lv_istore (lv' := [(5, .int k), (0, .ref b), (1, .ref (bkX 0)), (2, .ref (bkM 0)), (3, .ref ba), (4, .int (nI i))]) hx hb d_L_law_586 hl (by decide) rfl (fun ls hl => ?_)
  refine lv_aload_n hx hb d_L_law_588 rfl (lv_at hl 3 rfl) ?_
  refine lw_arg 1 hx hb hX hbl hS hl 1 5 rfl rfl hL hi (by decide) (by decide) d_L_law_589 d_L_law_590 d_L_law_592 d_L_law_593 d_L_law_594 ?_
  refine lw_arg 2 hx hb hX hbl hS hl 1 5 rfl rfl hL hi (by decide) (by decide) d_L_law_595 d_L_law_596 d_L_law_598 d_L_law_599 d_L_law_600 ?_
  refine lw_callM (va_runV (As := [.int (xs (i + 1)), .int (xs (i + 2))]) (rest := []) ⟨hx, hb, hml, hown, hw⟩ (oM l D cs bkM H.size) (cw_V 2 hw kM_L_76 kI_M_volume kV_M_volume kZ_M kC_M_volume rfl rfl ⟨rfl, by decide, by decide, by decide +kernel⟩ ⟨Nat.le_of_ble_eq_true rfl, Nat.le_of_ble_eq_true rfl⟩) (pw_preV hN hK (va_P_l (va_P_r hP)) (va_D_l (va_D_r hD)) 0 (by decide) rfl rfl) rfl rfl hl.1 rfl (lv_room (Nat.le_of_ble_eq_true rfl)) d_L_law_601 ⟨by show cells + 0 ≤ 601024; omega, by show slots + 0 ≤ 7293034; omega⟩) hP hD hS (fun _ h => h) (fun H locs hP hD hS => ?_)
  refine lv_istore (lv' := [(6, .int v), (5, .int k), (0, .ref b), (1, .ref (bkX 0)), (2, .ref (bkM 0)), (3, .ref ba), (4, .int (nI i))]) hx hb d_L_law_604 hl (by decide) rfl (fun ls hl => ?_)
  refine lv_aload_n hx hb d_L_law_606 rfl (lv_at hl 4 rfl) ?_
  refine pw_callSi (va_runV (As := []) (rest := []) ⟨hx, hb, hml, hown, hw⟩ (c_M_thrown l D cs bkM H.size k zm a) (cw_V 0 hw kM_L_50 kI_M_thrown kV_M_thrown kZ_M kC_M_thrown rfl rfl ⟨rfl, by decide, by decide, by decide +kernel⟩ ⟨Nat.le_of_ble_eq_true rfl, Nat.le_of_ble_eq_true rfl⟩) (pw_preV hN hK (va_P_l (va_P_r hP)) (va_D_l (va_D_r hD)) 0 (by decide) rfl rfl) rfl rfl hl.1 rfl (lv_room (Nat.le_of_ble_eq_true rfl)) d_L_law_607 ⟨by show cells + 0 + 0 ≤ 601024; omega, by show slots + 0 + 0 ≤ 7293034; omega⟩) (fun r_1 hr_1 => ?_)
  have hr_1 : r_1 = k := hr_1
  subst hr_1
  refine lv_iload hx hb d_L_law_610 (lv_at hl 1 rfl) ?_
  refine lv_icmp_eq (tgt := 617) hx hb d_L_law_612 (by decide) (fun _ => ?_) (fun h => absurd rfl h)
  refine lv_iload hx hb d_L_law_617 (lv_at hl 1 rfl) ?_
  have fin : W p l e room_1 s m #[Value.ref b] below meth c H locs (cells + 0) (slots + 0) Q (F0 m 634 ls []) := by
    refine lv_goto (tgt := 866) hx hb d_L_law_634 (by decide) ?_
    exact W.widen (by omega) (by omega) (kk _ _ _ _ _ _ _ _ _ _ _ _ _ _ _ hR rfl rfl hP hD hS (lv_sub hl [2, 3, 4, 5, 6] rfl))
  refine lv_if_ne (tgt := 634) hx hb d_L_law_619 (by decide) (fun _ => fin) (fun h0 => ?_)
  have hk0 := hk h0
  refine lv_aload_n hx hb d_L_law_622 rfl (lv_at hl 5 rfl) ?_
  refine lv_iconst (v := 0) hx hb d_L_law_623 (by decide) ?_
  refine va_lald hx hb hK (va_P_r (va_P_r hP)) 0 4 (n := 1) (f := f) rfl rfl (show ¬ ((0 : Int32) < 0 ∨ 1 ≤ (0 : Int32).toNatClampNeg) by decide) d_L_law_624 ?_
  refine lv_iload hx hb d_L_law_625 (lv_at hl 0 rfl) ?_
  refine lv_i2l (v := v.toInt64) hx hb d_L_law_627 rfl ?_
  refine W.lcmp hx hb d_L_law_628 ?_
  have e0 : lg_cmp (f (0 : Int32).toNatClampNeg) v.toInt64 = 0 := by rw [show (0 : Int32).toNatClampNeg = 0 from rfl, hk0, lg_cmp_self]
  rw [e0]
  exact lv_if_eq (tgt := 634) hx hb d_L_law_629 (by decide) (fun _ => fin) (fun h => absurd rfl h)
set_option maxHeartbeats 4000000 in
set_option maxRecDepth 100000 in
theorem cs_volume {p : Program} {l : Launch} {e : Env} {s : State} {m : MethodId} {below : List Frame} {meth : Method} {c : Code} {b L : Nat} {xs : Nat → Int32} {D : va_G} {cs : Nat → ClassId} {xa ma ba : Nat} {Q : State → Prop} {i cells slots : Nat} (F : LF p l s m meth c b L xs D cs) (hi : i + 5 ≤ L) (hc : cells + 4 ≤ 601024) (hs : slots + 35 ≤ 7293034) (kk : LC p l e s m below meth c b D cs xa ma ba Q i (cells + 4) (slots + 35) 866) : LC p l e s m below meth c b D cs xa ma ba Q i cells slots 569 := by
  have F0 := F
  obtain ⟨hx, hb, hr, hml, hown, hw, hX, hbl, hlocks, hK, hN, hT, hlt, hL⟩ := F
  intro z bo zm g q pp dd a th f bkX bkM H locs ls hR hx0 hm0 hP hD hS hl
  subst hx0
  subst hm0
  have hP' := hP
  have hD' := hD
  rw [← List.append_assoc] at hP' hD'
  have hP2 := va_P.swap hP'
  have hD2 := va_D.swap hD'
  rw [wl_push] at hP2 hD2
  refine lv_aload_n hx hb d_L_law_569 rfl (lv_at hl 1 rfl) ?_
  refine lw_arg 1 hx hb hX hbl hS hl 0 4 rfl rfl hL hi (by decide) (by decide) d_L_law_570 d_L_law_571 d_L_law_573 d_L_law_574 d_L_law_575 ?_
  refine lw_arg 2 hx hb hX hbl hS hl 0 4 rfl rfl hL hi (by decide) (by decide) d_L_law_576 d_L_law_577 d_L_law_579 d_L_law_580 d_L_law_581 ?_
  refine lv_aload_n hx hb d_L_law_582 rfl (lv_at hl 3 rfl) ?_
  rcases op_volume hR th (xs (i + 1)) (xs (i + 2)) f with ⟨v, f', oL, oM, hv⟩ | ⟨oL, oM⟩
  · refine lw_calli (pw_runSW (hh := [(0, 10, 13, 13)]) (As := [.ref (bkX 0), .int (xs (i + 1)), .int (xs (i + 2)), .ref ba]) (rest := []) ⟨hx, hb, hml, hown, hw⟩ (oL l D cs bkX H.size ba hlt) (cw_SW 4 hw kM_L_74 kS_L_volume kZ_L kW_L_volume rfl rfl ⟨by decide, by decide, by decide +kernel⟩ ⟨Nat.le_of_ble_eq_true rfl, Nat.le_of_ble_eq_true rfl⟩) (pw_preST hT (fun q h => hS.2.1 q h (Nat.not_le.mpr h)) hN hK (va_P_l hP2) (va_D_l hD2)) rfl rfl hl.1 rfl (lv_room (Nat.le_of_ble_eq_true rfl)) d_L_law_583 ⟨by show cells + 0 ≤ 601024; omega, by show slots + 0 ≤ 7293034; omega⟩) hP2 hD2 hS (fun _ h => h) (fun r N1 bk1 cw1 H locs hw9 hP hD hS => ?_)
    obtain ⟨h0, hw9⟩ := hw9
    obtain ⟨h1, h2⟩ := Prod.mk.inj hw9
    obtain ⟨h3, h4⟩ := Prod.mk.inj h2
    rw [h1, h3, h4, ← wl_push] at hP hD
    have hP := va_P.swap hP
    have hD := va_D.swap hD
    rw [List.append_assoc] at hP hD
    rw [h0]
    exact tl_volume F0 hi (by omega) (by omega) (by omega) (by omega) kk hR oM (fun _ => hv) hP hD hS hl
  · refine lw_calli (pw_runSW (hh := [(0, 10, 13, 13)]) (As := [.ref (bkX 0), .int (xs (i + 1)), .int (xs (i + 2)), .ref ba]) (rest := []) ⟨hx, hb, hml, hown, hw⟩ (oL l D cs bkX H.size ba hlt) (cw_SW 4 hw kM_L_74 kS_L_volume kZ_L kW_L_volume rfl rfl ⟨by decide, by decide, by decide +kernel⟩ ⟨Nat.le_of_ble_eq_true rfl, Nat.le_of_ble_eq_true rfl⟩) (pw_preST hT (fun q h => hS.2.1 q h (Nat.not_le.mpr h)) hN hK (va_P_l hP2) (va_D_l hD2)) rfl rfl hl.1 rfl (lv_room (Nat.le_of_ble_eq_true rfl)) d_L_law_583 ⟨by show cells + 1 ≤ 601024; omega, by show slots + 6 ≤ 7293034; omega⟩) hP2 hD2 hS (fun _ h => h) (fun r N1 bk1 cw1 H locs hw9 hP hD hS => ?_)
    obtain ⟨h0, hw9⟩ := hw9
    obtain ⟨h1, h2⟩ := Prod.mk.inj hw9
    obtain ⟨h3, h4⟩ := Prod.mk.inj h2
    rw [h1, h3, h4, ← wl_push] at hP hD
    have hP := va_P.swap hP
    have hD := va_D.swap hD
    rw [List.append_assoc] at hP hD
    rw [h0]
    exact tl_volume F0 hi (by omega) (by omega) (by omega) (by omega) kk hR oM (fun h => absurd h (by decide)) hP hD hS hl
set_option maxHeartbeats 4000000 in
set_option maxRecDepth 100000 in
theorem tl_row {p : Program} {l : Launch} {e : Env} {s : State} {m : MethodId} {below : List Frame} {meth : Method} {c : Code} {b L : Nat} {xs : Nat → Int32} {D : va_G} {cs : Nat → ClassId} {ba : Nat} {Q : State → Prop} {i cells slots c9 s9 : Nat} (F : LF p l s m meth c b L xs D cs) (hi : i + 5 ≤ L) (hc : cells ≤ c9) (hc9 : c9 ≤ 601024) (hs : slots ≤ s9) (hs9 : s9 ≤ 7293034) {z bo zm : Nat → Nat} {g q pp dd a : Nat → Nat → Int32} {th : Int32} {f : Nat → Int64} {bkX bkM : Nat → Nat} {H : Heap} {locs : List Loc} {ls : Array Slot} {k v : Int32} (kk : LC p l e s m below meth c b D cs (bkX 0) (bkM 0) ba Q i c9 s9 866) (hR : Rl z bo g q pp dd zm a)
    (oM : OpM y_M_row w_M_row ({ frames := 1, cells := 0, slots := 0, locals := 22 }) [.int (xs (i + 1)), .int (xs (i + 2))] th zm a (v, k, zm, a)) (hk : k = 0 → f 0 = v.toInt64) (hP : va_P D classes (wX cs z bo g q pp dd bkX ++ (wM cs th zm a bkM ++ wL cs ba f)) H) (hD : va_D (LA s) (wX cs z bo g q pp dd bkX ++ (wM cs th zm a bkM ++ wL cs ba f))) (hS : va_S (LA s) s.heap H locs) (hl : lv_has ls 7 (Lv b (bkX 0) (bkM 0) ba i)) :
    W p l e room_1 s m #[Value.ref b] below meth c H locs cells slots Q (F0 m 679 ls [.int k]) := by
  obtain ⟨hx, hb, hr, hml, hown, hw, hX, hbl, hlocks, hK, hN, hT, hlt, hL⟩ := F
  refine lv_istore (lv' := [(5, .int k), (0, .ref b), (1, .ref (bkX 0)), (2, .ref (bkM 0)), (3, .ref ba), (4, .int (nI i))]) hx hb d_L_law_679 hl (by decide) rfl (fun ls hl => ?_)
  refine lv_aload_n hx hb d_L_law_681 rfl (lv_at hl 3 rfl) ?_
  refine lw_arg 1 hx hb hX hbl hS hl 1 5 rfl rfl hL hi (by decide) (by decide) d_L_law_682 d_L_law_683 d_L_law_685 d_L_law_686 d_L_law_687 ?_
  refine lw_arg 2 hx hb hX hbl hS hl 1 5 rfl rfl hL hi (by decide) (by decide) d_L_law_688 d_L_law_689 d_L_law_691 d_L_law_692 d_L_law_693 ?_
  refine lw_callM (va_runV (As := [.int (xs (i + 1)), .int (xs (i + 2))]) (rest := []) ⟨hx, hb, hml, hown, hw⟩ (oM l D cs bkM H.size) (cw_V 2 hw kM_L_83 kI_M_row kV_M_row kZ_M kC_M_row rfl rfl ⟨rfl, by decide, by decide, by decide +kernel⟩ ⟨Nat.le_of_ble_eq_true rfl, Nat.le_of_ble_eq_true rfl⟩) (pw_preV hN hK (va_P_l (va_P_r hP)) (va_D_l (va_D_r hD)) 0 (by decide) rfl rfl) rfl rfl hl.1 rfl (lv_room (Nat.le_of_ble_eq_true rfl)) d_L_law_694 ⟨by show cells + 0 ≤ 601024; omega, by show slots + 0 ≤ 7293034; omega⟩) hP hD hS (fun _ h => h) (fun H locs hP hD hS => ?_)
  refine lv_istore (lv' := [(6, .int v), (5, .int k), (0, .ref b), (1, .ref (bkX 0)), (2, .ref (bkM 0)), (3, .ref ba), (4, .int (nI i))]) hx hb d_L_law_697 hl (by decide) rfl (fun ls hl => ?_)
  refine lv_aload_n hx hb d_L_law_699 rfl (lv_at hl 4 rfl) ?_
  refine pw_callSi (va_runV (As := []) (rest := []) ⟨hx, hb, hml, hown, hw⟩ (c_M_thrown l D cs bkM H.size k zm a) (cw_V 0 hw kM_L_50 kI_M_thrown kV_M_thrown kZ_M kC_M_thrown rfl rfl ⟨rfl, by decide, by decide, by decide +kernel⟩ ⟨Nat.le_of_ble_eq_true rfl, Nat.le_of_ble_eq_true rfl⟩) (pw_preV hN hK (va_P_l (va_P_r hP)) (va_D_l (va_D_r hD)) 0 (by decide) rfl rfl) rfl rfl hl.1 rfl (lv_room (Nat.le_of_ble_eq_true rfl)) d_L_law_700 ⟨by show cells + 0 + 0 ≤ 601024; omega, by show slots + 0 + 0 ≤ 7293034; omega⟩) (fun r_1 hr_1 => ?_)
  have hr_1 : r_1 = k := hr_1
  subst hr_1
  refine lv_iload hx hb d_L_law_703 (lv_at hl 1 rfl) ?_
  refine lv_icmp_eq (tgt := 710) hx hb d_L_law_705 (by decide) (fun _ => ?_) (fun h => absurd rfl h)
  refine lv_iload hx hb d_L_law_710 (lv_at hl 1 rfl) ?_
  have fin : W p l e room_1 s m #[Value.ref b] below meth c H locs (cells + 0) (slots + 0) Q (F0 m 727 ls []) := by
    refine lv_goto (tgt := 866) hx hb d_L_law_727 (by decide) ?_
    exact W.widen (by omega) (by omega) (kk _ _ _ _ _ _ _ _ _ _ _ _ _ _ _ hR rfl rfl hP hD hS (lv_sub hl [2, 3, 4, 5, 6] rfl))
  refine lv_if_ne (tgt := 727) hx hb d_L_law_712 (by decide) (fun _ => fin) (fun h0 => ?_)
  have hk0 := hk h0
  refine lv_aload_n hx hb d_L_law_715 rfl (lv_at hl 5 rfl) ?_
  refine lv_iconst (v := 0) hx hb d_L_law_716 (by decide) ?_
  refine va_lald hx hb hK (va_P_r (va_P_r hP)) 0 4 (n := 1) (f := f) rfl rfl (show ¬ ((0 : Int32) < 0 ∨ 1 ≤ (0 : Int32).toNatClampNeg) by decide) d_L_law_717 ?_
  refine lv_iload hx hb d_L_law_718 (lv_at hl 0 rfl) ?_
  refine lv_i2l (v := v.toInt64) hx hb d_L_law_720 rfl ?_
  refine W.lcmp hx hb d_L_law_721 ?_
  have e0 : lg_cmp (f (0 : Int32).toNatClampNeg) v.toInt64 = 0 := by rw [show (0 : Int32).toNatClampNeg = 0 from rfl, hk0, lg_cmp_self]
  rw [e0]
  exact lv_if_eq (tgt := 727) hx hb d_L_law_722 (by decide) (fun _ => fin) (fun h => absurd rfl h)
set_option maxHeartbeats 4000000 in
set_option maxRecDepth 100000 in
theorem cs_row {p : Program} {l : Launch} {e : Env} {s : State} {m : MethodId} {below : List Frame} {meth : Method} {c : Code} {b L : Nat} {xs : Nat → Int32} {D : va_G} {cs : Nat → ClassId} {xa ma ba : Nat} {Q : State → Prop} {i cells slots : Nat} (F : LF p l s m meth c b L xs D cs) (hi : i + 5 ≤ L) (hc : cells + 4 ≤ 601024) (hs : slots + 35 ≤ 7293034) (kk : LC p l e s m below meth c b D cs xa ma ba Q i (cells + 4) (slots + 35) 866) : LC p l e s m below meth c b D cs xa ma ba Q i cells slots 662 := by
  have F0 := F
  obtain ⟨hx, hb, hr, hml, hown, hw, hX, hbl, hlocks, hK, hN, hT, hlt, hL⟩ := F
  intro z bo zm g q pp dd a th f bkX bkM H locs ls hR hx0 hm0 hP hD hS hl
  subst hx0
  subst hm0
  have hP' := hP
  have hD' := hD
  rw [← List.append_assoc] at hP' hD'
  have hP2 := va_P.swap hP'
  have hD2 := va_D.swap hD'
  rw [wl_push] at hP2 hD2
  refine lv_aload_n hx hb d_L_law_662 rfl (lv_at hl 1 rfl) ?_
  refine lw_arg 1 hx hb hX hbl hS hl 0 4 rfl rfl hL hi (by decide) (by decide) d_L_law_663 d_L_law_664 d_L_law_666 d_L_law_667 d_L_law_668 ?_
  refine lw_arg 2 hx hb hX hbl hS hl 0 4 rfl rfl hL hi (by decide) (by decide) d_L_law_669 d_L_law_670 d_L_law_672 d_L_law_673 d_L_law_674 ?_
  refine lv_aload_n hx hb d_L_law_675 rfl (lv_at hl 3 rfl) ?_
  rcases op_row hR th (xs (i + 1)) (xs (i + 2)) f with ⟨v, f', oL, oM, hv⟩ | ⟨oL, oM⟩
  · refine lw_calli (pw_runSW (hh := [(0, 10, 13, 13)]) (As := [.ref (bkX 0), .int (xs (i + 1)), .int (xs (i + 2)), .ref ba]) (rest := []) ⟨hx, hb, hml, hown, hw⟩ (oL l D cs bkX H.size ba hlt) (cw_SW 4 hw kM_L_81 kS_L_row kZ_L kW_L_row rfl rfl ⟨by decide, by decide, by decide +kernel⟩ ⟨Nat.le_of_ble_eq_true rfl, Nat.le_of_ble_eq_true rfl⟩) (pw_preST hT (fun q h => hS.2.1 q h (Nat.not_le.mpr h)) hN hK (va_P_l hP2) (va_D_l hD2)) rfl rfl hl.1 rfl (lv_room (Nat.le_of_ble_eq_true rfl)) d_L_law_676 ⟨by show cells + 0 ≤ 601024; omega, by show slots + 0 ≤ 7293034; omega⟩) hP2 hD2 hS (fun _ h => h) (fun r N1 bk1 cw1 H locs hw9 hP hD hS => ?_)
    obtain ⟨h0, hw9⟩ := hw9
    obtain ⟨h1, h2⟩ := Prod.mk.inj hw9
    obtain ⟨h3, h4⟩ := Prod.mk.inj h2
    rw [h1, h3, h4, ← wl_push] at hP hD
    have hP := va_P.swap hP
    have hD := va_D.swap hD
    rw [List.append_assoc] at hP hD
    rw [h0]
    exact tl_row F0 hi (by omega) (by omega) (by omega) (by omega) kk hR oM (fun _ => hv) hP hD hS hl
  · refine lw_calli (pw_runSW (hh := [(0, 10, 13, 13)]) (As := [.ref (bkX 0), .int (xs (i + 1)), .int (xs (i + 2)), .ref ba]) (rest := []) ⟨hx, hb, hml, hown, hw⟩ (oL l D cs bkX H.size ba hlt) (cw_SW 4 hw kM_L_81 kS_L_row kZ_L kW_L_row rfl rfl ⟨by decide, by decide, by decide +kernel⟩ ⟨Nat.le_of_ble_eq_true rfl, Nat.le_of_ble_eq_true rfl⟩) (pw_preST hT (fun q h => hS.2.1 q h (Nat.not_le.mpr h)) hN hK (va_P_l hP2) (va_D_l hD2)) rfl rfl hl.1 rfl (lv_room (Nat.le_of_ble_eq_true rfl)) d_L_law_676 ⟨by show cells + 1 ≤ 601024; omega, by show slots + 6 ≤ 7293034; omega⟩) hP2 hD2 hS (fun _ h => h) (fun r N1 bk1 cw1 H locs hw9 hP hD hS => ?_)
    obtain ⟨h0, hw9⟩ := hw9
    obtain ⟨h1, h2⟩ := Prod.mk.inj hw9
    obtain ⟨h3, h4⟩ := Prod.mk.inj h2
    rw [h1, h3, h4, ← wl_push] at hP hD
    have hP := va_P.swap hP
    have hD := va_D.swap hD
    rw [List.append_assoc] at hP hD
    rw [h0]
    exact tl_row F0 hi (by omega) (by omega) (by omega) (by omega) kk hR oM (fun h => absurd h (by decide)) hP hD hS hl

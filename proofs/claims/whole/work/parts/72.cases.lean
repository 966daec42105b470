set_option maxHeartbeats 4000000 in
set_option maxRecDepth 100000 in
theorem cs_rule {p : Program} {l : Launch} {e : Env} {s : State} {m : MethodId} {below : List Frame} {meth : Method} {c : Code} {b L : Nat} {xs : Nat → Int32} {D : va_G} {cs : Nat → ClassId} {xa ma ba : Nat} {Q : State → Prop} {i cells slots : Nat} (F : LF p l s m meth c b L xs D cs) (hi : i + 5 ≤ L) (hc : cells + 4 ≤ 601024) (hs : slots + 35 ≤ 7293034) (kk : LC p l e s m below meth c b D cs xa ma ba Q i (cells + 4) (slots + 35) 866) : LC p l e s m below meth c b D cs xa ma ba Q i cells slots 120 := by
  obtain ⟨hx, hb, hr, hml, hown, hw, hX, hbl, hlocks, hK, hN, hT, hlt, hL⟩ := F
  intro z bo zm g q pp dd a th f bkX bkM H locs ls hR hx0 hm0 hP hD hS hl
  subst hx0
  subst hm0
  obtain ⟨R, T, oX, oM, hE⟩ := op_rule hR th (xs (i + 1)) (xs (i + 2)) (xs (i + 3)) (xs (i + 4))
  refine lv_aload_n hx hb d_L_law_120 rfl (lv_at hl 1 rfl) ?_
  refine lw_arg 1 hx hb hX hbl hS hl 0 4 rfl rfl hL hi (by decide) (by decide) d_L_law_121 d_L_law_122 d_L_law_124 d_L_law_125 d_L_law_126 ?_
  refine lw_arg 2 hx hb hX hbl hS hl 0 4 rfl rfl hL hi (by decide) (by decide) d_L_law_127 d_L_law_128 d_L_law_130 d_L_law_131 d_L_law_132 ?_
  refine lw_arg 3 hx hb hX hbl hS hl 0 4 rfl rfl hL hi (by decide) (by decide) d_L_law_133 d_L_law_134 d_L_law_136 d_L_law_137 d_L_law_138 ?_
  refine lw_arg 4 hx hb hX hbl hS hl 0 4 rfl rfl hL hi (by decide) (by decide) d_L_law_139 d_L_law_140 d_L_law_142 d_L_law_143 d_L_law_144 ?_
  refine lw_callX (va_runV (As := [.int (xs (i + 1)), .int (xs (i + 2)), .int (xs (i + 3)), .int (xs (i + 4))]) (rest := []) ⟨hx, hb, hml, hown, hw⟩ (oX l D cs bkX H.size) (cw_V 4 hw kM_L_25 kI_X_rule kV_X_rule kZ_X kC_X_rule rfl rfl ⟨rfl, by decide, by decide, by decide +kernel⟩ ⟨Nat.le_of_ble_eq_true rfl, Nat.le_of_ble_eq_true rfl⟩) (pw_preV hN hK (va_P_l hP) (va_D_l hD) 0 (by omega) rfl rfl) rfl rfl hl.1 rfl (lv_room (Nat.le_of_ble_eq_true rfl)) d_L_law_145 ⟨by show cells + 0 ≤ 601024; omega, by show slots + 0 ≤ 7293034; omega⟩) hP hD hS (fun _ h => h) (fun H locs hP hD hS => ?_)
  refine lv_aload_n hx hb d_L_law_148 rfl (lv_at hl 2 rfl) ?_
  refine lw_arg 1 hx hb hX hbl hS hl 0 4 rfl rfl hL hi (by decide) (by decide) d_L_law_149 d_L_law_150 d_L_law_152 d_L_law_153 d_L_law_154 ?_
  refine lw_arg 2 hx hb hX hbl hS hl 0 4 rfl rfl hL hi (by decide) (by decide) d_L_law_155 d_L_law_156 d_L_law_158 d_L_law_159 d_L_law_160 ?_
  refine lw_arg 3 hx hb hX hbl hS hl 0 4 rfl rfl hL hi (by decide) (by decide) d_L_law_161 d_L_law_162 d_L_law_164 d_L_law_165 d_L_law_166 ?_
  refine lw_arg 4 hx hb hX hbl hS hl 0 4 rfl rfl hL hi (by decide) (by decide) d_L_law_167 d_L_law_168 d_L_law_170 d_L_law_171 d_L_law_172 ?_
  refine lw_callM (va_runV (As := [.int (xs (i + 1)), .int (xs (i + 2)), .int (xs (i + 3)), .int (xs (i + 4))]) (rest := [.int R.1]) ⟨hx, hb, hml, hown, hw⟩ (oM l D cs bkM H.size) (cw_V 4 hw kM_L_29 kI_M_rule kV_M_rule kZ_M kC_M_rule rfl rfl ⟨rfl, by decide, by decide, by decide +kernel⟩ ⟨Nat.le_of_ble_eq_true rfl, Nat.le_of_ble_eq_true rfl⟩) (pw_preV hN hK (va_P_l (va_P_r hP)) (va_D_l (va_D_r hD)) 0 (by decide) rfl rfl) rfl rfl hl.1 rfl (lv_room (Nat.le_of_ble_eq_true rfl)) d_L_law_173 ⟨by show cells + 0 + 0 ≤ 601024; omega, by show slots + 0 + 0 ≤ 7293034; omega⟩) hP hD hS (fun _ h => h) (fun H locs hP hD hS => ?_)
  refine lv_icmp_eq (tgt := 866) hx hb d_L_law_176 (by decide) (fun _ => ?_) (fun h => absurd hE.1 h)
  exact W.widen (by omega) (by omega) (kk _ _ _ _ _ _ _ _ _ _ _ _ _ _ _ hE.2 rfl rfl hP hD hS hl)
set_option maxHeartbeats 4000000 in
set_option maxRecDepth 100000 in
theorem cs_issue {p : Program} {l : Launch} {e : Env} {s : State} {m : MethodId} {below : List Frame} {meth : Method} {c : Code} {b L : Nat} {xs : Nat → Int32} {D : va_G} {cs : Nat → ClassId} {xa ma ba : Nat} {Q : State → Prop} {i cells slots : Nat} (F : LF p l s m meth c b L xs D cs) (hi : i + 5 ≤ L) (hc : cells + 4 ≤ 601024) (hs : slots + 35 ≤ 7293034) (kk : LC p l e s m below meth c b D cs xa ma ba Q i (cells + 4) (slots + 35) 866) : LC p l e s m below meth c b D cs xa ma ba Q i cells slots 181 := by
  obtain ⟨hx, hb, hr, hml, hown, hw, hX, hbl, hlocks, hK, hN, hT, hlt, hL⟩ := F
  intro z bo zm g q pp dd a th f bkX bkM H locs ls hR hx0 hm0 hP hD hS hl
  subst hx0
  subst hm0
  obtain ⟨R, T, oX, oM, hE⟩ := op_issue hR th (xs (i + 1)) (xs (i + 2)) (xs (i + 3))
  refine lv_aload_n hx hb d_L_law_181 rfl (lv_at hl 1 rfl) ?_
  refine lw_arg 1 hx hb hX hbl hS hl 0 4 rfl rfl hL hi (by decide) (by decide) d_L_law_182 d_L_law_183 d_L_law_185 d_L_law_186 d_L_law_187 ?_
  refine lw_arg 2 hx hb hX hbl hS hl 0 4 rfl rfl hL hi (by decide) (by decide) d_L_law_188 d_L_law_189 d_L_law_191 d_L_law_192 d_L_law_193 ?_
  refine lw_arg 3 hx hb hX hbl hS hl 0 4 rfl rfl hL hi (by decide) (by decide) d_L_law_194 d_L_law_195 d_L_law_197 d_L_law_198 d_L_law_199 ?_
  refine lw_callG (va_runV (As := [.int (xs (i + 1)), .int (xs (i + 2)), .int (xs (i + 3))]) (rest := []) ⟨hx, hb, hml, hown, hw⟩ (oX l D cs bkX H.size) (cw_V 3 hw kM_L_30 kI_X_issue kV_X_issue kZ_X kC_X_issue rfl rfl ⟨rfl, by decide, by decide, by decide +kernel⟩ ⟨Nat.le_of_ble_eq_true rfl, Nat.le_of_ble_eq_true rfl⟩) (pw_preV hN hK (va_P_l hP) (va_D_l hD) 0 (by omega) rfl rfl) rfl rfl hl.1 rfl (lv_room (Nat.le_of_ble_eq_true rfl)) d_L_law_200 ⟨by show cells + 4 ≤ 601024; omega, by show slots + 35 ≤ 7293034; omega⟩) hP hD hS (fun _ h => h) (fun bkY H locs hb9 hP hD hS => ?_)
  refine lv_aload_n hx hb d_L_law_203 rfl (lv_at hl 2 rfl) ?_
  refine lw_arg 1 hx hb hX hbl hS hl 0 4 rfl rfl hL hi (by decide) (by decide) d_L_law_204 d_L_law_205 d_L_law_207 d_L_law_208 d_L_law_209 ?_
  refine lw_arg 2 hx hb hX hbl hS hl 0 4 rfl rfl hL hi (by decide) (by decide) d_L_law_210 d_L_law_211 d_L_law_213 d_L_law_214 d_L_law_215 ?_
  refine lw_arg 3 hx hb hX hbl hS hl 0 4 rfl rfl hL hi (by decide) (by decide) d_L_law_216 d_L_law_217 d_L_law_219 d_L_law_220 d_L_law_221 ?_
  refine lw_callM (va_runV (As := [.int (xs (i + 1)), .int (xs (i + 2)), .int (xs (i + 3))]) (rest := [.int R.1]) ⟨hx, hb, hml, hown, hw⟩ (oM l D cs bkM H.size) (cw_V 3 hw kM_L_34 kI_M_issue kV_M_issue kZ_M kC_M_issue rfl rfl ⟨rfl, by decide, by decide, by decide +kernel⟩ ⟨Nat.le_of_ble_eq_true rfl, Nat.le_of_ble_eq_true rfl⟩) (pw_preV hN hK (va_P_l (va_P_r hP)) (va_D_l (va_D_r hD)) 0 (by decide) rfl rfl) rfl rfl hl.1 rfl (lv_room (Nat.le_of_ble_eq_true rfl)) d_L_law_222 ⟨by show cells + 4 + 0 ≤ 601024; omega, by show slots + 35 + 0 ≤ 7293034; omega⟩) hP hD hS (fun _ h => h) (fun H locs hP hD hS => ?_)
  refine lv_icmp_eq (tgt := 866) hx hb d_L_law_225 (by decide) (fun _ => ?_) (fun h => absurd hE.1 h)
  exact W.widen (by omega) (by omega) (kk _ _ _ _ _ _ _ _ _ _ _ _ _ _ _ hE.2 hb9 rfl hP hD hS hl)
set_option maxHeartbeats 4000000 in
set_option maxRecDepth 100000 in
theorem cs_checkIn {p : Program} {l : Launch} {e : Env} {s : State} {m : MethodId} {below : List Frame} {meth : Method} {c : Code} {b L : Nat} {xs : Nat → Int32} {D : va_G} {cs : Nat → ClassId} {xa ma ba : Nat} {Q : State → Prop} {i cells slots : Nat} (F : LF p l s m meth c b L xs D cs) (hi : i + 5 ≤ L) (hc : cells + 4 ≤ 601024) (hs : slots + 35 ≤ 7293034) (kk : LC p l e s m below meth c b D cs xa ma ba Q i (cells + 4) (slots + 35) 866) : LC p l e s m below meth c b D cs xa ma ba Q i cells slots 230 := by
  obtain ⟨hx, hb, hr, hml, hown, hw, hX, hbl, hlocks, hK, hN, hT, hlt, hL⟩ := F
  intro z bo zm g q pp dd a th f bkX bkM H locs ls hR hx0 hm0 hP hD hS hl
  subst hx0
  subst hm0
  obtain ⟨R, T, oX, oM, hE⟩ := op_checkIn hR th (xs (i + 1)) (xs (i + 2)) (xs (i + 3))
  refine lv_aload_n hx hb d_L_law_230 rfl (lv_at hl 1 rfl) ?_
  refine lw_arg 1 hx hb hX hbl hS hl 0 4 rfl rfl hL hi (by decide) (by decide) d_L_law_231 d_L_law_232 d_L_law_234 d_L_law_235 d_L_law_236 ?_
  refine lw_arg 2 hx hb hX hbl hS hl 0 4 rfl rfl hL hi (by decide) (by decide) d_L_law_237 d_L_law_238 d_L_law_240 d_L_law_241 d_L_law_242 ?_
  refine lw_arg 3 hx hb hX hbl hS hl 0 4 rfl rfl hL hi (by decide) (by decide) d_L_law_243 d_L_law_244 d_L_law_246 d_L_law_247 d_L_law_248 ?_
  refine lw_callX (va_runV (As := [.int (xs (i + 1)), .int (xs (i + 2)), .int (xs (i + 3))]) (rest := []) ⟨hx, hb, hml, hown, hw⟩ (oX l D cs bkX H.size) (cw_V 3 hw kM_L_35 kI_X_checkIn kV_X_checkIn kZ_X kC_X_checkIn rfl rfl ⟨rfl, by decide, by decide, by decide +kernel⟩ ⟨Nat.le_of_ble_eq_true rfl, Nat.le_of_ble_eq_true rfl⟩) (pw_preV hN hK (va_P_l hP) (va_D_l hD) 0 (by omega) rfl rfl) rfl rfl hl.1 rfl (lv_room (Nat.le_of_ble_eq_true rfl)) d_L_law_249 ⟨by show cells + 0 ≤ 601024; omega, by show slots + 0 ≤ 7293034; omega⟩) hP hD hS (fun _ h => h) (fun H locs hP hD hS => ?_)
  refine lv_aload_n hx hb d_L_law_252 rfl (lv_at hl 2 rfl) ?_
  refine lw_arg 1 hx hb hX hbl hS hl 0 4 rfl rfl hL hi (by decide) (by decide) d_L_law_253 d_L_law_254 d_L_law_256 d_L_law_257 d_L_law_258 ?_
  refine lw_arg 2 hx hb hX hbl hS hl 0 4 rfl rfl hL hi (by decide) (by decide) d_L_law_259 d_L_law_260 d_L_law_262 d_L_law_263 d_L_law_264 ?_
  refine lw_arg 3 hx hb hX hbl hS hl 0 4 rfl rfl hL hi (by decide) (by decide) d_L_law_265 d_L_law_266 d_L_law_268 d_L_law_269 d_L_law_270 ?_
  refine lw_callM (va_runV (As := [.int (xs (i + 1)), .int (xs (i + 2)), .int (xs (i + 3))]) (rest := [.int R.1]) ⟨hx, hb, hml, hown, hw⟩ (oM l D cs bkM H.size) (cw_V 3 hw kM_L_38 kI_M_checkIn kV_M_checkIn kZ_M kC_M_checkIn rfl rfl ⟨rfl, by decide, by decide, by decide +kernel⟩ ⟨Nat.le_of_ble_eq_true rfl, Nat.le_of_ble_eq_true rfl⟩) (pw_preV hN hK (va_P_l (va_P_r hP)) (va_D_l (va_D_r hD)) 0 (by decide) rfl rfl) rfl rfl hl.1 rfl (lv_room (Nat.le_of_ble_eq_true rfl)) d_L_law_271 ⟨by show cells + 0 + 0 ≤ 601024; omega, by show slots + 0 + 0 ≤ 7293034; omega⟩) hP hD hS (fun _ h => h) (fun H locs hP hD hS => ?_)
  refine lv_icmp_eq (tgt := 866) hx hb d_L_law_274 (by decide) (fun _ => ?_) (fun h => absurd hE.1 h)
  exact W.widen (by omega) (by omega) (kk _ _ _ _ _ _ _ _ _ _ _ _ _ _ _ hE.2 rfl rfl hP hD hS hl)
set_option maxHeartbeats 4000000 in
set_option maxRecDepth 100000 in
theorem cs_claim {p : Program} {l : Launch} {e : Env} {s : State} {m : MethodId} {below : List Frame} {meth : Method} {c : Code} {b L : Nat} {xs : Nat → Int32} {D : va_G} {cs : Nat → ClassId} {xa ma ba : Nat} {Q : State → Prop} {i cells slots : Nat} (F : LF p l s m meth c b L xs D cs) (hi : i + 5 ≤ L) (hc : cells + 4 ≤ 601024) (hs : slots + 35 ≤ 7293034) (kk : LC p l e s m below meth c b D cs xa ma ba Q i (cells + 4) (slots + 35) 866) : LC p l e s m below meth c b D cs xa ma ba Q i cells slots 279 := by
  obtain ⟨hx, hb, hr, hml, hown, hw, hX, hbl, hlocks, hK, hN, hT, hlt, hL⟩ := F
  intro z bo zm g q pp dd a th f bkX bkM H locs ls hR hx0 hm0 hP hD hS hl
  subst hx0
  subst hm0
  obtain ⟨R, T, oX, oM, hE⟩ := op_claim hR th (xs (i + 1))
  refine lv_aload_n hx hb d_L_law_279 rfl (lv_at hl 1 rfl) ?_
  refine lw_arg 1 hx hb hX hbl hS hl 0 4 rfl rfl hL hi (by decide) (by decide) d_L_law_280 d_L_law_281 d_L_law_283 d_L_law_284 d_L_law_285 ?_
  refine lw_callX (va_runV (As := [.int (xs (i + 1))]) (rest := []) ⟨hx, hb, hml, hown, hw⟩ (oX l D cs bkX H.size) (cw_V 1 hw kM_L_39 kI_X_claim kV_X_claim kZ_X kC_X_claim rfl rfl ⟨rfl, by decide, by decide, by decide +kernel⟩ ⟨Nat.le_of_ble_eq_true rfl, Nat.le_of_ble_eq_true rfl⟩) (pw_preV hN hK (va_P_l hP) (va_D_l hD) 0 (by omega) rfl rfl) rfl rfl hl.1 rfl (lv_room (Nat.le_of_ble_eq_true rfl)) d_L_law_286 ⟨by show cells + 0 ≤ 601024; omega, by show slots + 0 ≤ 7293034; omega⟩) hP hD hS (fun _ h => h) (fun H locs hP hD hS => ?_)
  refine lv_aload_n hx hb d_L_law_289 rfl (lv_at hl 2 rfl) ?_
  refine lw_arg 1 hx hb hX hbl hS hl 0 4 rfl rfl hL hi (by decide) (by decide) d_L_law_290 d_L_law_291 d_L_law_293 d_L_law_294 d_L_law_295 ?_
  refine lw_callM (va_runV (As := [.int (xs (i + 1))]) (rest := [.int R.1]) ⟨hx, hb, hml, hown, hw⟩ (oM l D cs bkM H.size) (cw_V 1 hw kM_L_43 kI_M_claim kV_M_claim kZ_M kC_M_claim rfl rfl ⟨rfl, by decide, by decide, by decide +kernel⟩ ⟨Nat.le_of_ble_eq_true rfl, Nat.le_of_ble_eq_true rfl⟩) (pw_preV hN hK (va_P_l (va_P_r hP)) (va_D_l (va_D_r hD)) 0 (by decide) rfl rfl) rfl rfl hl.1 rfl (lv_room (Nat.le_of_ble_eq_true rfl)) d_L_law_296 ⟨by show cells + 0 + 0 ≤ 601024; omega, by show slots + 0 + 0 ≤ 7293034; omega⟩) hP hD hS (fun _ h => h) (fun H locs hP hD hS => ?_)
  refine lv_icmp_eq (tgt := 866) hx hb d_L_law_299 (by decide) (fun _ => ?_) (fun h => absurd hE.1 h)
  exact W.widen (by omega) (by omega) (kk _ _ _ _ _ _ _ _ _ _ _ _ _ _ _ hE.2 rfl rfl hP hD hS hl)
set_option maxHeartbeats 4000000 in
set_option maxRecDepth 100000 in
theorem cs_list {p : Program} {l : Launch} {e : Env} {s : State} {m : MethodId} {below : List Frame} {meth : Method} {c : Code} {b L : Nat} {xs : Nat → Int32} {D : va_G} {cs : Nat → ClassId} {xa ma ba : Nat} {Q : State → Prop} {i cells slots : Nat} (F : LF p l s m meth c b L xs D cs) (hi : i + 5 ≤ L) (hc : cells + 4 ≤ 601024) (hs : slots + 35 ≤ 7293034) (kk : LC p l e s m below meth c b D cs xa ma ba Q i (cells + 4) (slots + 35) 866) : LC p l e s m below meth c b D cs xa ma ba Q i cells slots 372 := by
  obtain ⟨hx, hb, hr, hml, hown, hw, hX, hbl, hlocks, hK, hN, hT, hlt, hL⟩ := F
  intro z bo zm g q pp dd a th f bkX bkM H locs ls hR hx0 hm0 hP hD hS hl
  subst hx0
  subst hm0
  obtain ⟨R, T, oX, oM, hE⟩ := op_list hR th (xs (i + 1)) (xs (i + 2)) (xs (i + 3))
  refine lv_aload_n hx hb d_L_law_372 rfl (lv_at hl 1 rfl) ?_
  refine lw_arg 1 hx hb hX hbl hS hl 0 4 rfl rfl hL hi (by decide) (by decide) d_L_law_373 d_L_law_374 d_L_law_376 d_L_law_377 d_L_law_378 ?_
  refine lw_arg 2 hx hb hX hbl hS hl 0 4 rfl rfl hL hi (by decide) (by decide) d_L_law_379 d_L_law_380 d_L_law_382 d_L_law_383 d_L_law_384 ?_
  refine lw_arg 3 hx hb hX hbl hS hl 0 4 rfl rfl hL hi (by decide) (by decide) d_L_law_385 d_L_law_386 d_L_law_388 d_L_law_389 d_L_law_390 ?_
  refine lw_callX (va_runV (As := [.int (xs (i + 1)), .int (xs (i + 2)), .int (xs (i + 3))]) (rest := []) ⟨hx, hb, hml, hown, hw⟩ (oX l D cs bkX H.size) (cw_V 3 hw kM_L_54 kI_X_list kV_X_list kZ_X kC_X_list rfl rfl ⟨rfl, by decide, by decide, by decide +kernel⟩ ⟨Nat.le_of_ble_eq_true rfl, Nat.le_of_ble_eq_true rfl⟩) (pw_preV hN hK (va_P_l hP) (va_D_l hD) 0 (by omega) rfl rfl) rfl rfl hl.1 rfl (lv_room (Nat.le_of_ble_eq_true rfl)) d_L_law_391 ⟨by show cells + 0 ≤ 601024; omega, by show slots + 0 ≤ 7293034; omega⟩) hP hD hS (fun _ h => h) (fun H locs hP hD hS => ?_)
  refine lv_aload_n hx hb d_L_law_394 rfl (lv_at hl 2 rfl) ?_
  refine lw_arg 1 hx hb hX hbl hS hl 0 4 rfl rfl hL hi (by decide) (by decide) d_L_law_395 d_L_law_396 d_L_law_398 d_L_law_399 d_L_law_400 ?_
  refine lw_arg 2 hx hb hX hbl hS hl 0 4 rfl rfl hL hi (by decide) (by decide) d_L_law_401 d_L_law_402 d_L_law_404 d_L_law_405 d_L_law_406 ?_
  refine lw_arg 3 hx hb hX hbl hS hl 0 4 rfl rfl hL hi (by decide) (by decide) d_L_law_407 d_L_law_408 d_L_law_410 d_L_law_411 d_L_law_412 ?_
  refine lw_callM (va_runV (As := [.int (xs (i + 1)), .int (xs (i + 2)), .int (xs (i + 3))]) (rest := [.int R.1]) ⟨hx, hb, hml, hown, hw⟩ (oM l D cs bkM H.size) (cw_V 3 hw kM_L_57 kI_M_list kV_M_list kZ_M kC_M_list rfl rfl ⟨rfl, by decide, by decide, by decide +kernel⟩ ⟨Nat.le_of_ble_eq_true rfl, Nat.le_of_ble_eq_true rfl⟩) (pw_preV hN hK (va_P_l (va_P_r hP)) (va_D_l (va_D_r hD)) 0 (by decide) rfl rfl) rfl rfl hl.1 rfl (lv_room (Nat.le_of_ble_eq_true rfl)) d_L_law_413 ⟨by show cells + 0 + 0 ≤ 601024; omega, by show slots + 0 + 0 ≤ 7293034; omega⟩) hP hD hS (fun _ h => h) (fun H locs hP hD hS => ?_)
  refine lv_icmp_eq (tgt := 866) hx hb d_L_law_416 (by decide) (fun _ => ?_) (fun h => absurd hE.1 h)
  exact W.widen (by omega) (by omega) (kk _ _ _ _ _ _ _ _ _ _ _ _ _ _ _ hE.2 rfl rfl hP hD hS hl)
set_option maxHeartbeats 4000000 in
set_option maxRecDepth 100000 in
theorem cs_route {p : Program} {l : Launch} {e : Env} {s : State} {m : MethodId} {below : List Frame} {meth : Method} {c : Code} {b L : Nat} {xs : Nat → Int32} {D : va_G} {cs : Nat → ClassId} {xa ma ba : Nat} {Q : State → Prop} {i cells slots : Nat} (F : LF p l s m meth c b L xs D cs) (hi : i + 5 ≤ L) (hc : cells + 4 ≤ 601024) (hs : slots + 35 ≤ 7293034) (kk : LC p l e s m below meth c b D cs xa ma ba Q i (cells + 4) (slots + 35) 866) : LC p l e s m below meth c b D cs xa ma ba Q i cells slots 421 := by
  obtain ⟨hx, hb, hr, hml, hown, hw, hX, hbl, hlocks, hK, hN, hT, hlt, hL⟩ := F
  intro z bo zm g q pp dd a th f bkX bkM H locs ls hR hx0 hm0 hP hD hS hl
  subst hx0
  subst hm0
  obtain ⟨R, T, oX, oM, hE⟩ := op_route hR th (xs (i + 1)) (xs (i + 2))
  refine lv_aload_n hx hb d_L_law_421 rfl (lv_at hl 1 rfl) ?_
  refine lw_arg 1 hx hb hX hbl hS hl 0 4 rfl rfl hL hi (by decide) (by decide) d_L_law_422 d_L_law_423 d_L_law_425 d_L_law_426 d_L_law_427 ?_
  refine lw_arg 2 hx hb hX hbl hS hl 0 4 rfl rfl hL hi (by decide) (by decide) d_L_law_428 d_L_law_429 d_L_law_431 d_L_law_432 d_L_law_433 ?_
  refine lw_callX (va_runV (As := [.int (xs (i + 1)), .int (xs (i + 2))]) (rest := []) ⟨hx, hb, hml, hown, hw⟩ (oX l D cs bkX H.size) (cw_V 2 hw kM_L_58 kI_X_route kV_X_route kZ_X kC_X_route rfl rfl ⟨rfl, by decide, by decide, by decide +kernel⟩ ⟨Nat.le_of_ble_eq_true rfl, Nat.le_of_ble_eq_true rfl⟩) (pw_preV hN hK (va_P_l hP) (va_D_l hD) 0 (by omega) rfl rfl) rfl rfl hl.1 rfl (lv_room (Nat.le_of_ble_eq_true rfl)) d_L_law_434 ⟨by show cells + 0 ≤ 601024; omega, by show slots + 0 ≤ 7293034; omega⟩) hP hD hS (fun _ h => h) (fun H locs hP hD hS => ?_)
  refine lv_aload_n hx hb d_L_law_437 rfl (lv_at hl 2 rfl) ?_
  refine lw_arg 1 hx hb hX hbl hS hl 0 4 rfl rfl hL hi (by decide) (by decide) d_L_law_438 d_L_law_439 d_L_law_441 d_L_law_442 d_L_law_443 ?_
  refine lw_arg 2 hx hb hX hbl hS hl 0 4 rfl rfl hL hi (by decide) (by decide) d_L_law_444 d_L_law_445 d_L_law_447 d_L_law_448 d_L_law_449 ?_
  refine lw_callM (va_runV (As := [.int (xs (i + 1)), .int (xs (i + 2))]) (rest := [.int R.1]) ⟨hx, hb, hml, hown, hw⟩ (oM l D cs bkM H.size) (cw_V 2 hw kM_L_61 kI_M_route kV_M_route kZ_M kC_M_route rfl rfl ⟨rfl, by decide, by decide, by decide +kernel⟩ ⟨Nat.le_of_ble_eq_true rfl, Nat.le_of_ble_eq_true rfl⟩) (pw_preV hN hK (va_P_l (va_P_r hP)) (va_D_l (va_D_r hD)) 0 (by decide) rfl rfl) rfl rfl hl.1 rfl (lv_room (Nat.le_of_ble_eq_true rfl)) d_L_law_450 ⟨by show cells + 0 + 0 ≤ 601024; omega, by show slots + 0 + 0 ≤ 7293034; omega⟩) hP hD hS (fun _ h => h) (fun H locs hP hD hS => ?_)
  refine lv_icmp_eq (tgt := 866) hx hb d_L_law_453 (by decide) (fun _ => ?_) (fun h => absurd hE.1 h)
  exact W.widen (by omega) (by omega) (kk _ _ _ _ _ _ _ _ _ _ _ _ _ _ _ hE.2 rfl rfl hP hD hS hl)
set_option maxHeartbeats 4000000 in
set_option maxRecDepth 100000 in
theorem cs_returned {p : Program} {l : Launch} {e : Env} {s : State} {m : MethodId} {below : List Frame} {meth : Method} {c : Code} {b L : Nat} {xs : Nat → Int32} {D : va_G} {cs : Nat → ClassId} {xa ma ba : Nat} {Q : State → Prop} {i cells slots : Nat} (F : LF p l s m meth c b L xs D cs) (hi : i + 5 ≤ L) (hc : cells + 4 ≤ 601024) (hs : slots + 35 ≤ 7293034) (kk : LC p l e s m below meth c b D cs xa ma ba Q i (cells + 4) (slots + 35) 866) : LC p l e s m below meth c b D cs xa ma ba Q i cells slots 458 := by
  obtain ⟨hx, hb, hr, hml, hown, hw, hX, hbl, hlocks, hK, hN, hT, hlt, hL⟩ := F
  intro z bo zm g q pp dd a th f bkX bkM H locs ls hR hx0 hm0 hP hD hS hl
  subst hx0
  subst hm0
  obtain ⟨R, T, oX, oM, hE⟩ := op_returned hR th (xs (i + 1)) (xs (i + 2))
  refine lv_aload_n hx hb d_L_law_458 rfl (lv_at hl 1 rfl) ?_
  refine lw_arg 1 hx hb hX hbl hS hl 0 4 rfl rfl hL hi (by decide) (by decide) d_L_law_459 d_L_law_460 d_L_law_462 d_L_law_463 d_L_law_464 ?_
  refine lw_arg 2 hx hb hX hbl hS hl 0 4 rfl rfl hL hi (by decide) (by decide) d_L_law_465 d_L_law_466 d_L_law_468 d_L_law_469 d_L_law_470 ?_
  refine lw_callX (va_runV (As := [.int (xs (i + 1)), .int (xs (i + 2))]) (rest := []) ⟨hx, hb, hml, hown, hw⟩ (oX l D cs bkX H.size) (cw_V 2 hw kM_L_62 kI_X_returned kV_X_returned kZ_X kC_X_returned rfl rfl ⟨rfl, by decide, by decide, by decide +kernel⟩ ⟨Nat.le_of_ble_eq_true rfl, Nat.le_of_ble_eq_true rfl⟩) (pw_preV hN hK (va_P_l hP) (va_D_l hD) 0 (by omega) rfl rfl) rfl rfl hl.1 rfl (lv_room (Nat.le_of_ble_eq_true rfl)) d_L_law_471 ⟨by show cells + 0 ≤ 601024; omega, by show slots + 0 ≤ 7293034; omega⟩) hP hD hS (fun _ h => h) (fun H locs hP hD hS => ?_)
  refine lv_aload_n hx hb d_L_law_474 rfl (lv_at hl 2 rfl) ?_
  refine lw_arg 1 hx hb hX hbl hS hl 0 4 rfl rfl hL hi (by decide) (by decide) d_L_law_475 d_L_law_476 d_L_law_478 d_L_law_479 d_L_law_480 ?_
  refine lw_arg 2 hx hb hX hbl hS hl 0 4 rfl rfl hL hi (by decide) (by decide) d_L_law_481 d_L_law_482 d_L_law_484 d_L_law_485 d_L_law_486 ?_
  refine lw_callM (va_runV (As := [.int (xs (i + 1)), .int (xs (i + 2))]) (rest := [.int R.1]) ⟨hx, hb, hml, hown, hw⟩ (oM l D cs bkM H.size) (cw_V 2 hw kM_L_65 kI_M_returned kV_M_returned kZ_M kC_M_returned rfl rfl ⟨rfl, by decide, by decide, by decide +kernel⟩ ⟨Nat.le_of_ble_eq_true rfl, Nat.le_of_ble_eq_true rfl⟩) (pw_preV hN hK (va_P_l (va_P_r hP)) (va_D_l (va_D_r hD)) 0 (by decide) rfl rfl) rfl rfl hl.1 rfl (lv_room (Nat.le_of_ble_eq_true rfl)) d_L_law_487 ⟨by show cells + 0 + 0 ≤ 601024; omega, by show slots + 0 + 0 ≤ 7293034; omega⟩) hP hD hS (fun _ h => h) (fun H locs hP hD hS => ?_)
  refine lv_icmp_eq (tgt := 866) hx hb d_L_law_490 (by decide) (fun _ => ?_) (fun h => absurd hE.1 h)
  exact W.widen (by omega) (by omega) (kk _ _ _ _ _ _ _ _ _ _ _ _ _ _ _ hE.2 rfl rfl hP hD hS hl)
set_option maxHeartbeats 4000000 in
set_option maxRecDepth 100000 in
theorem cs_replace {p : Program} {l : Launch} {e : Env} {s : State} {m : MethodId} {below : List Frame} {meth : Method} {c : Code} {b L : Nat} {xs : Nat → Int32} {D : va_G} {cs : Nat → ClassId} {xa ma ba : Nat} {Q : State → Prop} {i cells slots : Nat} (F : LF p l s m meth c b L xs D cs) (hi : i + 5 ≤ L) (hc : cells + 4 ≤ 601024) (hs : slots + 35 ≤ 7293034) (kk : LC p l e s m below meth c b D cs xa ma ba Q i (cells + 4) (slots + 35) 866) : LC p l e s m below meth c b D cs xa ma ba Q i cells slots 495 := by
  obtain ⟨hx, hb, hr, hml, hown, hw, hX, hbl, hlocks, hK, hN, hT, hlt, hL⟩ := F
  intro z bo zm g q pp dd a th f bkX bkM H locs ls hR hx0 hm0 hP hD hS hl
  subst hx0
  subst hm0
  obtain ⟨R, T, oX, oM, hE⟩ := op_replace hR th (xs (i + 1)) (xs (i + 2))
  refine lv_aload_n hx hb d_L_law_495 rfl (lv_at hl 1 rfl) ?_
  refine lw_arg 1 hx hb hX hbl hS hl 0 4 rfl rfl hL hi (by decide) (by decide) d_L_law_496 d_L_law_497 d_L_law_499 d_L_law_500 d_L_law_501 ?_
  refine lw_arg 2 hx hb hX hbl hS hl 0 4 rfl rfl hL hi (by decide) (by decide) d_L_law_502 d_L_law_503 d_L_law_505 d_L_law_506 d_L_law_507 ?_
  refine lw_callG (va_runV (As := [.int (xs (i + 1)), .int (xs (i + 2))]) (rest := []) ⟨hx, hb, hml, hown, hw⟩ (oX l D cs bkX H.size) (cw_V 2 hw kM_L_66 kI_X_replace kV_X_replace kZ_X kC_X_replace rfl rfl ⟨rfl, by decide, by decide, by decide +kernel⟩ ⟨Nat.le_of_ble_eq_true rfl, Nat.le_of_ble_eq_true rfl⟩) (pw_preV hN hK (va_P_l hP) (va_D_l hD) 0 (by omega) rfl rfl) rfl rfl hl.1 rfl (lv_room (Nat.le_of_ble_eq_true rfl)) d_L_law_508 ⟨by show cells + 4 ≤ 601024; omega, by show slots + 35 ≤ 7293034; omega⟩) hP hD hS (fun _ h => h) (fun bkY H locs hb9 hP hD hS => ?_)
  refine lv_aload_n hx hb d_L_law_511 rfl (lv_at hl 2 rfl) ?_
  refine lw_arg 1 hx hb hX hbl hS hl 0 4 rfl rfl hL hi (by decide) (by decide) d_L_law_512 d_L_law_513 d_L_law_515 d_L_law_516 d_L_law_517 ?_
  refine lw_arg 2 hx hb hX hbl hS hl 0 4 rfl rfl hL hi (by decide) (by decide) d_L_law_518 d_L_law_519 d_L_law_521 d_L_law_522 d_L_law_523 ?_
  refine lw_callM (va_runV (As := [.int (xs (i + 1)), .int (xs (i + 2))]) (rest := [.int R.1]) ⟨hx, hb, hml, hown, hw⟩ (oM l D cs bkM H.size) (cw_V 2 hw kM_L_69 kI_M_replace kV_M_replace kZ_M kC_M_replace rfl rfl ⟨rfl, by decide, by decide, by decide +kernel⟩ ⟨Nat.le_of_ble_eq_true rfl, Nat.le_of_ble_eq_true rfl⟩) (pw_preV hN hK (va_P_l (va_P_r hP)) (va_D_l (va_D_r hD)) 0 (by decide) rfl rfl) rfl rfl hl.1 rfl (lv_room (Nat.le_of_ble_eq_true rfl)) d_L_law_524 ⟨by show cells + 4 + 0 ≤ 601024; omega, by show slots + 35 + 0 ≤ 7293034; omega⟩) hP hD hS (fun _ h => h) (fun H locs hP hD hS => ?_)
  refine lv_icmp_eq (tgt := 866) hx hb d_L_law_527 (by decide) (fun _ => ?_) (fun h => absurd hE.1 h)
  exact W.widen (by omega) (by omega) (kk _ _ _ _ _ _ _ _ _ _ _ _ _ _ _ hE.2 hb9 rfl hP hD hS hl)
set_option maxHeartbeats 4000000 in
set_option maxRecDepth 100000 in
theorem cs_bind {p : Program} {l : Launch} {e : Env} {s : State} {m : MethodId} {below : List Frame} {meth : Method} {c : Code} {b L : Nat} {xs : Nat → Int32} {D : va_G} {cs : Nat → ClassId} {xa ma ba : Nat} {Q : State → Prop} {i cells slots : Nat} (F : LF p l s m meth c b L xs D cs) (hi : i + 5 ≤ L) (hc : cells + 4 ≤ 601024) (hs : slots + 35 ≤ 7293034) (kk : LC p l e s m below meth c b D cs xa ma ba Q i (cells + 4) (slots + 35) 866) : LC p l e s m below meth c b D cs xa ma ba Q i cells slots 532 := by
  obtain ⟨hx, hb, hr, hml, hown, hw, hX, hbl, hlocks, hK, hN, hT, hlt, hL⟩ := F
  intro z bo zm g q pp dd a th f bkX bkM H locs ls hR hx0 hm0 hP hD hS hl
  subst hx0
  subst hm0
  obtain ⟨R, T, oX, oM, hE⟩ := op_bind hR th (xs (i + 1)) (xs (i + 2))
  refine lv_aload_n hx hb d_L_law_532 rfl (lv_at hl 1 rfl) ?_
  refine lw_arg 1 hx hb hX hbl hS hl 0 4 rfl rfl hL hi (by decide) (by decide) d_L_law_533 d_L_law_534 d_L_law_536 d_L_law_537 d_L_law_538 ?_
  refine lw_arg 2 hx hb hX hbl hS hl 0 4 rfl rfl hL hi (by decide) (by decide) d_L_law_539 d_L_law_540 d_L_law_542 d_L_law_543 d_L_law_544 ?_
  refine lw_callX (va_runV (As := [.int (xs (i + 1)), .int (xs (i + 2))]) (rest := []) ⟨hx, hb, hml, hown, hw⟩ (oX l D cs bkX H.size) (cw_V 2 hw kM_L_70 kI_X_bind kV_X_bind kZ_X kC_X_bind rfl rfl ⟨rfl, by decide, by decide, by decide +kernel⟩ ⟨Nat.le_of_ble_eq_true rfl, Nat.le_of_ble_eq_true rfl⟩) (pw_preV hN hK (va_P_l hP) (va_D_l hD) 0 (by omega) rfl rfl) rfl rfl hl.1 rfl (lv_room (Nat.le_of_ble_eq_true rfl)) d_L_law_545 ⟨by show cells + 0 ≤ 601024; omega, by show slots + 0 ≤ 7293034; omega⟩) hP hD hS (fun _ h => h) (fun H locs hP hD hS => ?_)
  refine lv_aload_n hx hb d_L_law_548 rfl (lv_at hl 2 rfl) ?_
  refine lw_arg 1 hx hb hX hbl hS hl 0 4 rfl rfl hL hi (by decide) (by decide) d_L_law_549 d_L_law_550 d_L_law_552 d_L_law_553 d_L_law_554 ?_
  refine lw_arg 2 hx hb hX hbl hS hl 0 4 rfl rfl hL hi (by decide) (by decide) d_L_law_555 d_L_law_556 d_L_law_558 d_L_law_559 d_L_law_560 ?_
  refine lw_callM (va_runV (As := [.int (xs (i + 1)), .int (xs (i + 2))]) (rest := [.int R.1]) ⟨hx, hb, hml, hown, hw⟩ (oM l D cs bkM H.size) (cw_V 2 hw kM_L_73 kI_M_bind kV_M_bind kZ_M kC_M_bind rfl rfl ⟨rfl, by decide, by decide, by decide +kernel⟩ ⟨Nat.le_of_ble_eq_true rfl, Nat.le_of_ble_eq_true rfl⟩) (pw_preV hN hK (va_P_l (va_P_r hP)) (va_D_l (va_D_r hD)) 0 (by decide) rfl rfl) rfl rfl hl.1 rfl (lv_room (Nat.le_of_ble_eq_true rfl)) d_L_law_561 ⟨by show cells + 0 + 0 ≤ 601024; omega, by show slots + 0 + 0 ≤ 7293034; omega⟩) hP hD hS (fun _ h => h) (fun H locs hP hD hS => ?_)
  refine lv_icmp_eq (tgt := 866) hx hb d_L_law_564 (by decide) (fun _ => ?_) (fun h => absurd hE.1 h)
  exact W.widen (by omega) (by omega) (kk _ _ _ _ _ _ _ _ _ _ _ _ _ _ _ hE.2 rfl rfl hP hD hS hl)
set_option maxHeartbeats 4000000 in
set_option maxRecDepth 100000 in
theorem cs_statement {p : Program} {l : Launch} {e : Env} {s : State} {m : MethodId} {below : List Frame} {meth : Method} {c : Code} {b L : Nat} {xs : Nat → Int32} {D : va_G} {cs : Nat → ClassId} {xa ma ba : Nat} {Q : State → Prop} {i cells slots : Nat} (F : LF p l s m meth c b L xs D cs) (hi : i + 5 ≤ L) (hc : cells + 4 ≤ 601024) (hs : slots + 35 ≤ 7293034) (kk : LC p l e s m below meth c b D cs xa ma ba Q i (cells + 4) (slots + 35) 866) : LC p l e s m below meth c b D cs xa ma ba Q i cells slots 637 := by
  obtain ⟨hx, hb, hr, hml, hown, hw, hX, hbl, hlocks, hK, hN, hT, hlt, hL⟩ := F
  intro z bo zm g q pp dd a th f bkX bkM H locs ls hR hx0 hm0 hP hD hS hl
  subst hx0
  subst hm0
  obtain ⟨R, T, oX, oM, hE⟩ := op_statement hR th (xs (i + 1))
  refine lv_aload_n hx hb d_L_law_637 rfl (lv_at hl 1 rfl) ?_
  refine lw_arg 1 hx hb hX hbl hS hl 0 4 rfl rfl hL hi (by decide) (by decide) d_L_law_638 d_L_law_639 d_L_law_641 d_L_law_642 d_L_law_643 ?_
  refine lw_callX (va_runV (As := [.int (xs (i + 1))]) (rest := []) ⟨hx, hb, hml, hown, hw⟩ (oX l D cs bkX H.size) (cw_V 1 hw kM_L_77 kI_X_statement kV_X_statement kZ_X kC_X_statement rfl rfl ⟨rfl, by decide, by decide, by decide +kernel⟩ ⟨Nat.le_of_ble_eq_true rfl, Nat.le_of_ble_eq_true rfl⟩) (pw_preV hN hK (va_P_l hP) (va_D_l hD) 0 (by omega) rfl rfl) rfl rfl hl.1 rfl (lv_room (Nat.le_of_ble_eq_true rfl)) d_L_law_644 ⟨by show cells + 0 ≤ 601024; omega, by show slots + 0 ≤ 7293034; omega⟩) hP hD hS (fun _ h => h) (fun H locs hP hD hS => ?_)
  refine lv_aload_n hx hb d_L_law_647 rfl (lv_at hl 2 rfl) ?_
  refine lw_arg 1 hx hb hX hbl hS hl 0 4 rfl rfl hL hi (by decide) (by decide) d_L_law_648 d_L_law_649 d_L_law_651 d_L_law_652 d_L_law_653 ?_
  refine lw_callM (va_runV (As := [.int (xs (i + 1))]) (rest := [.int R.1]) ⟨hx, hb, hml, hown, hw⟩ (oM l D cs bkM H.size) (cw_V 1 hw kM_L_80 kI_M_statement kV_M_statement kZ_M kC_M_statement rfl rfl ⟨rfl, by decide, by decide, by decide +kernel⟩ ⟨Nat.le_of_ble_eq_true rfl, Nat.le_of_ble_eq_true rfl⟩) (pw_preV hN hK (va_P_l (va_P_r hP)) (va_D_l (va_D_r hD)) 0 (by decide) rfl rfl) rfl rfl hl.1 rfl (lv_room (Nat.le_of_ble_eq_true rfl)) d_L_law_654 ⟨by show cells + 0 + 0 ≤ 601024; omega, by show slots + 0 + 0 ≤ 7293034; omega⟩) hP hD hS (fun _ h => h) (fun H locs hP hD hS => ?_)
  refine lv_icmp_eq (tgt := 866) hx hb d_L_law_657 (by decide) (fun _ => ?_) (fun h => absurd hE.1 h)
  exact W.widen (by omega) (by omega) (kk _ _ _ _ _ _ _ _ _ _ _ _ _ _ _ hE.2 rfl rfl hP hD hS hl)
set_option maxHeartbeats 4000000 in
set_option maxRecDepth 100000 in
theorem cs_about {p : Program} {l : Launch} {e : Env} {s : State} {m : MethodId} {below : List Frame} {meth : Method} {c : Code} {b L : Nat} {xs : Nat → Int32} {D : va_G} {cs : Nat → ClassId} {xa ma ba : Nat} {Q : State → Prop} {i cells slots : Nat} (F : LF p l s m meth c b L xs D cs) (hi : i + 5 ≤ L) (hc : cells + 4 ≤ 601024) (hs : slots + 35 ≤ 7293034) (kk : LC p l e s m below meth c b D cs xa ma ba Q i (cells + 4) (slots + 35) 866) : LC p l e s m below meth c b D cs xa ma ba Q i cells slots 730 := by
  obtain ⟨hx, hb, hr, hml, hown, hw, hX, hbl, hlocks, hK, hN, hT, hlt, hL⟩ := F
  intro z bo zm g q pp dd a th f bkX bkM H locs ls hR hx0 hm0 hP hD hS hl
  subst hx0
  subst hm0
  obtain ⟨R, T, oX, oM, hE⟩ := op_about hR th (xs (i + 1)) (xs (i + 2))
  refine lv_aload_n hx hb d_L_law_730 rfl (lv_at hl 1 rfl) ?_
  refine lw_arg 1 hx hb hX hbl hS hl 0 4 rfl rfl hL hi (by decide) (by decide) d_L_law_731 d_L_law_732 d_L_law_734 d_L_law_735 d_L_law_736 ?_
  refine lw_arg 2 hx hb hX hbl hS hl 0 4 rfl rfl hL hi (by decide) (by decide) d_L_law_737 d_L_law_738 d_L_law_740 d_L_law_741 d_L_law_742 ?_
  refine lw_callX (va_runV (As := [.int (xs (i + 1)), .int (xs (i + 2))]) (rest := []) ⟨hx, hb, hml, hown, hw⟩ (oX l D cs bkX H.size) (cw_V 2 hw kM_L_84 kI_X_about kV_X_about kZ_X kC_X_about rfl rfl ⟨rfl, by decide, by decide, by decide +kernel⟩ ⟨Nat.le_of_ble_eq_true rfl, Nat.le_of_ble_eq_true rfl⟩) (pw_preV hN hK (va_P_l hP) (va_D_l hD) 0 (by omega) rfl rfl) rfl rfl hl.1 rfl (lv_room (Nat.le_of_ble_eq_true rfl)) d_L_law_743 ⟨by show cells + 0 ≤ 601024; omega, by show slots + 0 ≤ 7293034; omega⟩) hP hD hS (fun _ h => h) (fun H locs hP hD hS => ?_)
  refine lv_aload_n hx hb d_L_law_746 rfl (lv_at hl 2 rfl) ?_
  refine lw_arg 1 hx hb hX hbl hS hl 0 4 rfl rfl hL hi (by decide) (by decide) d_L_law_747 d_L_law_748 d_L_law_750 d_L_law_751 d_L_law_752 ?_
  refine lw_arg 2 hx hb hX hbl hS hl 0 4 rfl rfl hL hi (by decide) (by decide) d_L_law_753 d_L_law_754 d_L_law_756 d_L_law_757 d_L_law_758 ?_
  refine lw_callM (va_runV (As := [.int (xs (i + 1)), .int (xs (i + 2))]) (rest := [.int R.1]) ⟨hx, hb, hml, hown, hw⟩ (oM l D cs bkM H.size) (cw_V 2 hw kM_L_87 kI_M_about kV_M_about kZ_M kC_M_about rfl rfl ⟨rfl, by decide, by decide, by decide +kernel⟩ ⟨Nat.le_of_ble_eq_true rfl, Nat.le_of_ble_eq_true rfl⟩) (pw_preV hN hK (va_P_l (va_P_r hP)) (va_D_l (va_D_r hD)) 0 (by decide) rfl rfl) rfl rfl hl.1 rfl (lv_room (Nat.le_of_ble_eq_true rfl)) d_L_law_759 ⟨by show cells + 0 + 0 ≤ 601024; omega, by show slots + 0 + 0 ≤ 7293034; omega⟩) hP hD hS (fun _ h => h) (fun H locs hP hD hS => ?_)
  refine lv_icmp_eq (tgt := 866) hx hb d_L_law_762 (by decide) (fun _ => ?_) (fun h => absurd hE.1 h)
  exact W.widen (by omega) (by omega) (kk _ _ _ _ _ _ _ _ _ _ _ _ _ _ _ hE.2 rfl rfl hP hD hS hl)
set_option maxHeartbeats 4000000 in
set_option maxRecDepth 100000 in
theorem cs_cost {p : Program} {l : Launch} {e : Env} {s : State} {m : MethodId} {below : List Frame} {meth : Method} {c : Code} {b L : Nat} {xs : Nat → Int32} {D : va_G} {cs : Nat → ClassId} {xa ma ba : Nat} {Q : State → Prop} {i cells slots : Nat} (F : LF p l s m meth c b L xs D cs) (hi : i + 5 ≤ L) (hc : cells + 4 ≤ 601024) (hs : slots + 35 ≤ 7293034) (kk : LC p l e s m below meth c b D cs xa ma ba Q i (cells + 4) (slots + 35) 866) : LC p l e s m below meth c b D cs xa ma ba Q i cells slots 767 := by
  obtain ⟨hx, hb, hr, hml, hown, hw, hX, hbl, hlocks, hK, hN, hT, hlt, hL⟩ := F
  intro z bo zm g q pp dd a th f bkX bkM H locs ls hR hx0 hm0 hP hD hS hl
  subst hx0
  subst hm0
  obtain ⟨R, T, oX, oM, hE⟩ := op_cost hR th (xs (i + 1)) (xs (i + 2))
  refine lv_aload_n hx hb d_L_law_767 rfl (lv_at hl 1 rfl) ?_
  refine lw_arg 1 hx hb hX hbl hS hl 0 4 rfl rfl hL hi (by decide) (by decide) d_L_law_768 d_L_law_769 d_L_law_771 d_L_law_772 d_L_law_773 ?_
  refine lw_arg 2 hx hb hX hbl hS hl 0 4 rfl rfl hL hi (by decide) (by decide) d_L_law_774 d_L_law_775 d_L_law_777 d_L_law_778 d_L_law_779 ?_
  refine lw_callX (va_runV (As := [.int (xs (i + 1)), .int (xs (i + 2))]) (rest := []) ⟨hx, hb, hml, hown, hw⟩ (oX l D cs bkX H.size) (cw_V 2 hw kM_L_88 kI_X_cost kV_X_cost kZ_X kC_X_cost rfl rfl ⟨rfl, by decide, by decide, by decide +kernel⟩ ⟨Nat.le_of_ble_eq_true rfl, Nat.le_of_ble_eq_true rfl⟩) (pw_preV hN hK (va_P_l hP) (va_D_l hD) 0 (by omega) rfl rfl) rfl rfl hl.1 rfl (lv_room (Nat.le_of_ble_eq_true rfl)) d_L_law_780 ⟨by show cells + 0 ≤ 601024; omega, by show slots + 0 ≤ 7293034; omega⟩) hP hD hS (fun _ h => h) (fun H locs hP hD hS => ?_)
  refine lv_aload_n hx hb d_L_law_783 rfl (lv_at hl 2 rfl) ?_
  refine lw_arg 1 hx hb hX hbl hS hl 0 4 rfl rfl hL hi (by decide) (by decide) d_L_law_784 d_L_law_785 d_L_law_787 d_L_law_788 d_L_law_789 ?_
  refine lw_arg 2 hx hb hX hbl hS hl 0 4 rfl rfl hL hi (by decide) (by decide) d_L_law_790 d_L_law_791 d_L_law_793 d_L_law_794 d_L_law_795 ?_
  refine lw_callM (va_runV (As := [.int (xs (i + 1)), .int (xs (i + 2))]) (rest := [.int R.1]) ⟨hx, hb, hml, hown, hw⟩ (oM l D cs bkM H.size) (cw_V 2 hw kM_L_91 kI_M_cost kV_M_cost kZ_M kC_M_cost rfl rfl ⟨rfl, by decide, by decide, by decide +kernel⟩ ⟨Nat.le_of_ble_eq_true rfl, Nat.le_of_ble_eq_true rfl⟩) (pw_preV hN hK (va_P_l (va_P_r hP)) (va_D_l (va_D_r hD)) 0 (by decide) rfl rfl) rfl rfl hl.1 rfl (lv_room (Nat.le_of_ble_eq_true rfl)) d_L_law_796 ⟨by show cells + 0 + 0 ≤ 601024; omega, by show slots + 0 + 0 ≤ 7293034; omega⟩) hP hD hS (fun _ h => h) (fun H locs hP hD hS => ?_)
  refine lv_icmp_eq (tgt := 866) hx hb d_L_law_799 (by decide) (fun _ => ?_) (fun h => absurd hE.1 h)
  exact W.widen (by omega) (by omega) (kk _ _ _ _ _ _ _ _ _ _ _ _ _ _ _ hE.2 rfl rfl hP hD hS hl)
set_option maxHeartbeats 4000000 in
set_option maxRecDepth 100000 in
theorem cs_told {p : Program} {l : Launch} {e : Env} {s : State} {m : MethodId} {below : List Frame} {meth : Method} {c : Code} {b L : Nat} {xs : Nat → Int32} {D : va_G} {cs : Nat → ClassId} {xa ma ba : Nat} {Q : State → Prop} {i cells slots : Nat} (F : LF p l s m meth c b L xs D cs) (hi : i + 5 ≤ L) (hc : cells + 4 ≤ 601024) (hs : slots + 35 ≤ 7293034) (kk : LC p l e s m below meth c b D cs xa ma ba Q i (cells + 4) (slots + 35) 866) : LC p l e s m below meth c b D cs xa ma ba Q i cells slots 804 := by
  obtain ⟨hx, hb, hr, hml, hown, hw, hX, hbl, hlocks, hK, hN, hT, hlt, hL⟩ := F
  intro z bo zm g q pp dd a th f bkX bkM H locs ls hR hx0 hm0 hP hD hS hl
  subst hx0
  subst hm0
  obtain ⟨R, T, oX, oM, hE⟩ := op_told hR th (xs (i + 1)) (xs (i + 2))
  refine lv_aload_n hx hb d_L_law_804 rfl (lv_at hl 1 rfl) ?_
  refine lw_arg 1 hx hb hX hbl hS hl 0 4 rfl rfl hL hi (by decide) (by decide) d_L_law_805 d_L_law_806 d_L_law_808 d_L_law_809 d_L_law_810 ?_
  refine lw_arg 2 hx hb hX hbl hS hl 0 4 rfl rfl hL hi (by decide) (by decide) d_L_law_811 d_L_law_812 d_L_law_814 d_L_law_815 d_L_law_816 ?_
  refine lw_callX (va_runV (As := [.int (xs (i + 1)), .int (xs (i + 2))]) (rest := []) ⟨hx, hb, hml, hown, hw⟩ (oX l D cs bkX H.size) (cw_V 2 hw kM_L_92 kI_X_told kV_X_told kZ_X kC_X_told rfl rfl ⟨rfl, by decide, by decide, by decide +kernel⟩ ⟨Nat.le_of_ble_eq_true rfl, Nat.le_of_ble_eq_true rfl⟩) (pw_preV hN hK (va_P_l hP) (va_D_l hD) 0 (by omega) rfl rfl) rfl rfl hl.1 rfl (lv_room (Nat.le_of_ble_eq_true rfl)) d_L_law_817 ⟨by show cells + 0 ≤ 601024; omega, by show slots + 0 ≤ 7293034; omega⟩) hP hD hS (fun _ h => h) (fun H locs hP hD hS => ?_)
  refine lv_aload_n hx hb d_L_law_820 rfl (lv_at hl 2 rfl) ?_
  refine lw_arg 1 hx hb hX hbl hS hl 0 4 rfl rfl hL hi (by decide) (by decide) d_L_law_821 d_L_law_822 d_L_law_824 d_L_law_825 d_L_law_826 ?_
  refine lw_arg 2 hx hb hX hbl hS hl 0 4 rfl rfl hL hi (by decide) (by decide) d_L_law_827 d_L_law_828 d_L_law_830 d_L_law_831 d_L_law_832 ?_
  refine lw_callM (va_runV (As := [.int (xs (i + 1)), .int (xs (i + 2))]) (rest := [.int R.1]) ⟨hx, hb, hml, hown, hw⟩ (oM l D cs bkM H.size) (cw_V 2 hw kM_L_95 kI_M_told kV_M_told kZ_M kC_M_told rfl rfl ⟨rfl, by decide, by decide, by decide +kernel⟩ ⟨Nat.le_of_ble_eq_true rfl, Nat.le_of_ble_eq_true rfl⟩) (pw_preV hN hK (va_P_l (va_P_r hP)) (va_D_l (va_D_r hD)) 0 (by decide) rfl rfl) rfl rfl hl.1 rfl (lv_room (Nat.le_of_ble_eq_true rfl)) d_L_law_833 ⟨by show cells + 0 + 0 ≤ 601024; omega, by show slots + 0 + 0 ≤ 7293034; omega⟩) hP hD hS (fun _ h => h) (fun H locs hP hD hS => ?_)
  refine lv_icmp_eq (tgt := 866) hx hb d_L_law_836 (by decide) (fun _ => ?_) (fun h => absurd hE.1 h)
  exact W.widen (by omega) (by omega) (kk _ _ _ _ _ _ _ _ _ _ _ _ _ _ _ hE.2 rfl rfl hP hD hS hl)
set_option maxHeartbeats 4000000 in
set_option maxRecDepth 100000 in
theorem cs_lateness {p : Program} {l : Launch} {e : Env} {s : State} {m : MethodId} {below : List Frame} {meth : Method} {c : Code} {b L : Nat} {xs : Nat → Int32} {D : va_G} {cs : Nat → ClassId} {xa ma ba : Nat} {Q : State → Prop} {i cells slots : Nat} (F : LF p l s m meth c b L xs D cs) (hi : i + 5 ≤ L) (hc : cells + 4 ≤ 601024) (hs : slots + 35 ≤ 7293034) (kk : LC p l e s m below meth c b D cs xa ma ba Q i (cells + 4) (slots + 35) 866) : LC p l e s m below meth c b D cs xa ma ba Q i cells slots 841 := by
  obtain ⟨hx, hb, hr, hml, hown, hw, hX, hbl, hlocks, hK, hN, hT, hlt, hL⟩ := F
  intro z bo zm g q pp dd a th f bkX bkM H locs ls hR hx0 hm0 hP hD hS hl
  subst hx0
  subst hm0
  obtain ⟨R, T, oX, oM, hE⟩ := op_lateness hR th (xs (i + 1))
  refine lv_aload_n hx hb d_L_law_841 rfl (lv_at hl 1 rfl) ?_
  refine lw_arg 1 hx hb hX hbl hS hl 0 4 rfl rfl hL hi (by decide) (by decide) d_L_law_842 d_L_law_843 d_L_law_845 d_L_law_846 d_L_law_847 ?_
  refine lw_callX (va_runV (As := [.int (xs (i + 1))]) (rest := []) ⟨hx, hb, hml, hown, hw⟩ (oX l D cs bkX H.size) (cw_V 1 hw kM_L_96 kI_X_lateness kV_X_lateness kZ_X kC_X_lateness rfl rfl ⟨rfl, by decide, by decide, by decide +kernel⟩ ⟨Nat.le_of_ble_eq_true rfl, Nat.le_of_ble_eq_true rfl⟩) (pw_preV hN hK (va_P_l hP) (va_D_l hD) 0 (by omega) rfl rfl) rfl rfl hl.1 rfl (lv_room (Nat.le_of_ble_eq_true rfl)) d_L_law_848 ⟨by show cells + 0 ≤ 601024; omega, by show slots + 0 ≤ 7293034; omega⟩) hP hD hS (fun _ h => h) (fun H locs hP hD hS => ?_)
  refine lv_aload_n hx hb d_L_law_851 rfl (lv_at hl 2 rfl) ?_
  refine lw_arg 1 hx hb hX hbl hS hl 0 4 rfl rfl hL hi (by decide) (by decide) d_L_law_852 d_L_law_853 d_L_law_855 d_L_law_856 d_L_law_857 ?_
  refine lw_callM (va_runV (As := [.int (xs (i + 1))]) (rest := [.int R.1]) ⟨hx, hb, hml, hown, hw⟩ (oM l D cs bkM H.size) (cw_V 1 hw kM_L_99 kI_M_lateness kV_M_lateness kZ_M kC_M_lateness rfl rfl ⟨rfl, by decide, by decide, by decide +kernel⟩ ⟨Nat.le_of_ble_eq_true rfl, Nat.le_of_ble_eq_true rfl⟩) (pw_preV hN hK (va_P_l (va_P_r hP)) (va_D_l (va_D_r hD)) 0 (by decide) rfl rfl) rfl rfl hl.1 rfl (lv_room (Nat.le_of_ble_eq_true rfl)) d_L_law_858 ⟨by show cells + 0 + 0 ≤ 601024; omega, by show slots + 0 + 0 ≤ 7293034; omega⟩) hP hD hS (fun _ h => h) (fun H locs hP hD hS => ?_)
  refine lv_icmp_eq (tgt := 866) hx hb d_L_law_861 (by decide) (fun _ => ?_) (fun h => absurd hE.1 h)
  exact W.widen (by omega) (by omega) (kk _ _ _ _ _ _ _ _ _ _ _ _ _ _ _ hE.2 rfl rfl hP hD hS hl)

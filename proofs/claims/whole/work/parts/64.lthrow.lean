theorem kW_L_claimed : Cond.codeWith ⟨"IssueRowsLaw", "claimed", "(LIssueRows;II[J)I"⟩ method_3_code 5 (some .int) [(0, 10, 13, 13)] ∈ WA := WA_t (List.mem_append_right _ (List.mem_append_left _ (List.mem_of_getElem? (i := 169) rfl))) rfl
theorem kW_L_volume : Cond.codeWith ⟨"IssueRowsLaw", "volume", "(LIssueRows;II[J)I"⟩ method_4_code 5 (some .int) [(0, 10, 13, 13)] ∈ WA := WA_t (List.mem_append_right _ (List.mem_append_right _ (List.mem_append_left _ (List.mem_of_getElem? (i := 3) rfl)))) rfl
theorem kW_L_row : Cond.codeWith ⟨"IssueRowsLaw", "row", "(LIssueRows;II[J)I"⟩ method_5_code 5 (some .int) [(0, 10, 13, 13)] ∈ WA := WA_t (List.mem_append_right _ (List.mem_append_right _ (List.mem_append_left _ (List.mem_of_getElem? (i := 20) rfl)))) rfl
abbrev y_L_claimed : MethodName := ⟨"IssueRowsLaw", "claimed", "(LIssueRows;II[J)I"⟩
abbrev y_L_volume : MethodName := ⟨"IssueRowsLaw", "volume", "(LIssueRows;II[J)I"⟩
abbrev y_L_row : MethodName := ⟨"IssueRowsLaw", "row", "(LIssueRows;II[J)I"⟩
abbrev w_L_claimed : List Cond := .codeWith y_L_claimed method_3_code 5 (some .int) [(0, 10, 13, 13)] :: WA
abbrev w_L_volume : List Cond := .codeWith y_L_volume method_4_code 5 (some .int) [(0, 10, 13, 13)] :: WA
abbrev w_L_row : List Cond := .codeWith y_L_row method_5_code 5 (some .int) [(0, 10, 13, 13)] :: WA
theorem va_up_up {α : Type} {f : Nat → α} {k : Nat} {x y : α} : va_up (va_up f k x) k y = va_up f k y := by
  funext j
  by_cases h : j = k
  · subst h; rw [va_up_self, va_up_self]
  · rw [va_up_ne _ _ h, va_up_ne _ _ h, va_up_ne _ _ h]
theorem wl_left {D : va_G} {cl : List vw_C} {N : Nat} {bk : Nat → Nat} {cw : Nat → va_E} {q : Nat} {e : va_E} {H : Heap} (h : va_P D cl (wl (N + 1) (va_up bk N q) (va_up cw N e)) H) : va_P D cl (wl N bk cw) H := by
  rw [← wl_push] at h
  exact fun k x hk => h k x (by rw [List.getElem?_append_left (List.getElem?_eq_some_iff.mp hk).1]; exact hk)
theorem wl_leftD {A : Nat → Prop} {N : Nat} {bk : Nat → Nat} {cw : Nat → va_E} {q : Nat} {e : va_E} (h : va_D A (wl (N + 1) (va_up bk N q) (va_up cw N e))) : va_D A (wl N bk cw) := by
  rw [← wl_push] at h
  have up : ∀ (k : Nat) (x : Nat × va_E), (wl N bk cw)[k]? = some x → (wl N bk cw ++ [(q, e)])[k]? = some x := fun k x hk => by
    rw [List.getElem?_append_left (List.getElem?_eq_some_iff.mp hk).1]; exact hk
  exact ⟨fun i j x y hx hy => h.1 i j x y (up i x hx) (up j y hy), fun k x hk => h.2 k x (up k x hk)⟩
/-- the start of a method with one handler -/
theorem pw_entryW {l : Launch} {y : MethodName} {ws ws' : List Cond} {rm : Room} {Qc : Array Value → State → Outcome → State → Prop} {mc ms : Nat} {free : Addr → Prop} {cc : ByteArray} {maxL : Nat} {ret : Option FieldType} {h1 h2 h3 h4 : Nat} {D : va_G} {cl : List vw_C} {tys : List (ClassId × FieldType)} {N : Nat} {bk : Nat → Nat} {cw : Nat → va_E} {sz : Nat} {av : List Value}
    (hy : plainName y.cls = true) (hw : ws = Cond.codeWith y cc maxL ret [(h1, h2, h3, h4)] :: ws') (hn : (lg_sl av).length ≤ maxL)
    (body : ∀ (p : Program) (e : Env) (s : State) (m : MethodId) (below : List Frame) (meth : Method) (c : Code) (ls : Array Slot), p.tables.exec = Jvm.exec → c.code = cc → meth.sig.returnType = ret → c.maxLocals = maxL → (∀ w ∈ ws, w.before av.toArray s = true) → s.vm.findClass y.cls = some m.cls → meth.locks = false → c.exceptionTable.toList = [⟨h1, h2, h3, h4⟩] → s.heap.size = sz →
      va_P D cl (wl N bk cw) s.heap → va_K D cl tys s → va_D (AA N bk sz) (wl N bk cw) → va_S (AA N bk sz) s.heap s.heap [] → (∀ q, s.heap.size ≤ q → AA N bk sz q) → NN s → TW s → lv_has ls maxL (lv_args 0 av) →
      W p l e rm s m av.toArray below meth c s.heap [] 0 0 (MQ below Qc av.toArray s mc ms free) (F0 m 0 ls [])) :
    Met l y ws rm (va_Pc av (PT D cl tys N bk cw sz)) Qc mc ms free := by
  refine va_MetW (cc := cc) (maxL := maxL) (ret := ret) (hh := [(h1, h2, h3, h4)]) hy hw ?_
  intro p e s m args below meth c s₁ B hml hv
  obtain ⟨rfl, ⟨hsz, hP, hK, hD0, hN⟩, hT⟩ := hv
  have hl := lv_entry av (n := maxL) hn
  rw [lg_entry_eq]
  have hts := atoms_spec (ws := ws) B.pre
  have hex : c.exceptionTable.toList = [⟨h1, h2, h3, h4⟩] := by
    obtain ⟨m', meth', c', hn', hm', hc', -, -, htab, -⟩ := Cond.codeWith_spec (hts (Cond.codeWith y cc maxL ret [(h1, h2, h3, h4)]) (by rw [hw]; exact List.mem_cons_self))
    cases B.named.symm.trans hn'
    cases B.method.symm.trans hm'
    cases (Stand.of_body B).code.symm.trans hc'
    match hc0 : c.exceptionTable.toList, htab with
    | [x], htab =>
      obtain ⟨a1, a2, a3, a4⟩ := x
      simp only [List.map_cons, List.map_nil, List.cons.injEq, Prod.mk.injEq, and_true] at htab
      obtain ⟨rfl, rfl, rfl, rfl⟩ := htab
      rfl
  exact body p e s m below meth c _ B.exec B.bytes B.returns hml hts (findClass_of_methodNamed B.named) B.notSynchronized hex hsz hP hK (wl_self hD0) va_S.rf (fun q h => Or.inr (by rw [← hsz]; exact h)) hN hT hl
/-- what a call of such a static method asks -/
def CSW (R : Room) (s : State) (args : Array Value) (own : String) (index : Nat) (y : MethodName) (bytes : ByteArray) (maxL : Nat) (ret : Option FieldType) (hh : List (Nat × Nat × Nat × Nat)) (ws : List Cond) (rm : Room) (mc ms n : Nat) : Prop :=
  (rm.cells = mc ∧ rm.slots = ms ∧ rm.frames + 1 ≤ R.frames ∧ 8 + (maxL + 11) + rm.locals ≤ R.locals ∧ (∀ w ∈ ws, ∀ (a' : Array Value) (U : State), s.WarmedH U.vm → w.before a' U = true) ∧ Cond.codeWith y bytes maxL ret hh ∈ ws) ∧
  (Cond.methodLink own index y).before args s = true ∧ (Cond.static y).before args s = true ∧ (Cond.initialized y.cls).before args s = true ∧ (Cond.codeWith y bytes maxL ret hh).before args s = true ∧ (y.cls ≠ "java/lang/invoke/MethodHandle" ∧ y.cls ≠ "java/lang/invoke/VarHandle") ∧ (∀ sig, parseMethodDescriptor y.desc = some sig → n = sig.parameters.length)
theorem cw_SW {R : Room} {s : State} {args : Array Value} {own : String} {index maxL mc ms : Nat} {y : MethodName} {bytes : ByteArray} {ret : Option FieldType} {hh : List (Nat × Nat × Nat × Nat)} {rm : Room} (n : Nat) (hw : ∀ w ∈ WA, w.before args s = true) (k1 : Cond.methodLink own index y ∈ WA) (k2 : Cond.static y ∈ WA) (k4 : Cond.initialized y.cls ∈ WA) (kc : Cond.codeWith y bytes maxL ret hh ∈ WA) (hrc : rm.cells = mc) (hrs : rm.slots = ms)
    (hd : y.cls ≠ "java/lang/invoke/MethodHandle" ∧ y.cls ≠ "java/lang/invoke/VarHandle" ∧ (parseMethodDescriptor y.desc).map (fun d => d.parameters.length) = some n) (hR : rm.frames + 1 ≤ R.frames ∧ 8 + (maxL + 11) + rm.locals ≤ R.locals) :
    CSW R s args own index y bytes maxL ret hh (Cond.codeWith y bytes maxL ret hh :: WA) rm mc ms n := by
  refine ⟨⟨hrc, hrs, hR.1, hR.2, pay_in hw (gC kc), List.mem_cons_self⟩, hw _ k1, hw _ k2, hw _ k4, hw _ kc, ⟨hd.1, hd.2.1⟩, fun sig h => ?_⟩
  have h2 := hd.2.2
  rw [h] at h2
  exact (Option.some.inj h2).symm
section TS
variable {p : Program} {l : Launch} {e : Env} {R : Room} {s : State} {m : MethodId} {args : Array Value} {below : List Frame} {meth : Method} {c : Code} {H : Heap} {locs : List Loc} {cells slots : Nat}
variable {y : MethodName} {bytes cc : ByteArray} {maxL nL mc ms n index : Nat} {ret : Option FieldType} {hh : List (Nat × Nat × Nat × Nat)} {ws : List Cond} {rm : Room} {Pc : Array Value → State → Prop} {Qc : Array Value → State → Outcome → State → Prop} {free : Addr → Prop} {Ts : List Cond} {own : String} {As rest : List Value} {g : JFrame}
theorem pw_runSW (S : CallFix p m c cc nL s args Ts own) (hM : Met l y ws rm Pc Qc mc ms free) (cw : CSW R s args own index y bytes maxL ret hh ws rm mc ms n) (hp : PreS s H Pc As)
    (hg : g.method = m) (hn : As.length = n) (hsize : g.locals.size = nL) (hstack : g.stack = As.reverse ++ rest) (hW : 2 * g.monitorRoom + (rest.map fun v => v.category).sum ≤ 8) (hdg : decode cc g.pc = .ok (.invokestatic index, 3)) (hf : cells + mc ≤ R.cells ∧ slots + ms ≤ R.slots) :
    va_Run p l e R s m args below meth c H locs cells slots mc ms g rest (Qc As.toArray) (free) := by
  obtain ⟨⟨hrc, hrs, hfr, hlo, hws, hcw⟩, hl, hstt, hini, hcode, hy, hlen⟩ := cw
  have hK : Back l R p e below s args y 3 8 (PreOf R mc ms Pc) (PostOf Qc mc ms free) := va_backW (hh := hh) (bytes := bytes) (maxL := maxL) (ret := ret) hM hp.1 hrc hrs hfr hlo hws hcw (fun a' U hW => word_at hW (Or.inl (by first | rfl | simp [Cond.onTables, Cond.keeps, Cond.steady])) hini)
  obtain ⟨hx, hb, hml, ho, -⟩ := S
  intro T hT X
  obtain ⟨mk, methM, cM, hnamed, hmethM, -, -, -, -, -, -, hsigM⟩ := Cond.codeWith_spec hcode
  obtain ⟨kP, hkP, -⟩ := className_of_methodNamed hnamed
  obtain ⟨vm₁, X₁, hstep₁⟩ := X.invokestatic hx ho hl hnamed hmethM (Cond.static_spec hnamed hmethM hstt) hkP (Cond.initialized_spec (findClass_of_methodNamed hnamed) hkP hini) hy (g := g) hg (argsL := As) (rest := rest) (hn.trans (hlen _ hsigM)) hstack (by rw [hb]; exact hdg)
  obtain ⟨v, ⟨U', l2, c2, s2⟩, X', ⟨g', mk', t, L, e1, e2, hq, h1, hL, h2, h3⟩, hsteps⟩ := hK m meth c ⟨T.setVm vm₁, locs, cells, slots⟩ { g with stack := rest } (.invokestatic index) mk As.toArray X₁ hg (hsize.trans hml.symm) (by rw [hb]; exact hdg) hW (X₁.named hnamed) ⟨hf.1, hf.2, hp.2 (T.setVm vm₁) hT X₁.warmed⟩
  dsimp only [Pt.U, Pt.locs, Pt.cells, Pt.slots] at X' e1 e2 h1 h2 h3 hsteps
  subst h1; subst h2; subst h3
  exact ⟨v, (T.setVm vm₁).calling g' mk' As.toArray, t, U', L, hT, X', hL, e1, e2, hq, fun target h => hstep₁ _ fun acts => by rw [doInvoke_state]; exact hsteps.trans h⟩
end TS
set_option maxHeartbeats 4000000 in
set_option maxRecDepth 100000 in
theorem c_L_claimed (l : Launch) (D : va_G) (cs : Nat → ClassId) (bk : Nat → Nat) (sz : Nat) (z bo : Nat → Nat) (g q pp dd : Nat → Nat → Int32) (ba : Nat) (f : Nat → Int64) (hz1 : z 1 ≤ 200) (i what : Int32) (hpos : (0 ≤ i ∧ i < nI (z 1)) ∧ 0 ≤ what ∧ what ≤ 1) : Met l y_L_claimed w_L_claimed ({ frames := 4, cells := 0, slots := 0, locals := 88 }) (va_Pc [.ref (bk 0), .int (i), .int (what), .ref ba] (PT D classes (TY cs) (27 + 4 * z 0 + 1) (va_up bk (27 + 4 * z 0) ba) (va_up (CW cs z bo g q pp dd bk) (27 + 4 * z 0) (.inl (cs 4, 1, .inr (.inl (f))))) sz)) (va_Qi (fun r u => r = 0 ∧ u = (27 + 4 * z 0 + 1, (va_up bk (27 + 4 * z 0) ba), (va_up (CW cs z bo g q pp dd bk) (27 + 4 * z 0) (.inl (cs 4, 1, .inr (.inl (vp_updL f 0 (if what = 0 then (q 3) i.toNatClampNeg else (q 4) i.toNatClampNeg).toInt64))))))) (Wd D classes (TY cs) (AA (27 + 4 * z 0 + 1) (va_up bk (27 + 4 * z 0) ba) sz)) (AA (27 + 4 * z 0 + 1) (va_up bk (27 + 4 * z 0) ba) sz)) 0 0 (AA (27 + 4 * z 0 + 1) (va_up bk (27 + 4 * z 0) ba) sz) := by
  refine pw_entryW (cc := method_3_code) (maxL := 5) (ret := (some .int)) (by decide +kernel) rfl (Nat.le_of_ble_eq_true rfl) ?_
  intro p_ e_ s m below_ meth_ c_ ls hx hb hr hml hts hown hlocks hex hsz hP hK hD hS hA hN hT hl
  have hw : ∀ w ∈ WA, w.before _ s = true := fun w h => hts w (List.mem_cons_of_mem _ h)
  have hown : s.vm.findClass "IssueRowsLaw" = some m.cls := hown
  have hl : lv_has ls 5 [(0, .ref (bk 0)), (1, .int (i)), (2, .int (what)), (3, .ref ba)] := hl
  have hPX := wl_left hP
  have hDX := wl_leftD hD
  refine lv_aload_n hx hb d_L_claimed_0 rfl (lv_at hl 3 rfl) ?_
  refine lv_iconst (v := 0) hx hb d_L_claimed_1 (by decide) ?_
  refine lv_aload_n hx hb d_L_claimed_2 rfl (lv_at hl 0 rfl) ?_
  refine lv_iload_n hx hb d_L_claimed_3 rfl (lv_at hl 1 rfl) ?_
  refine lv_iload_n hx hb d_L_claimed_4 rfl (lv_at hl 2 rfl) ?_
  refine pw_callSi (va_runV (As := [.int (i), .int (what)]) (rest := [.int 0, .ref ba]) ⟨hx, hb, hml, hown, hw⟩ (c_X_claimed l D cs bk s.heap.size z bo g q pp dd hz1 i what hpos) (cw_V 2 hw kM_L_7 kI_X_claimed kV_X_claimed kZ_X kC_X_claimed rfl rfl ⟨rfl, by decide, by decide, by decide +kernel⟩ ⟨Nat.le_of_ble_eq_true rfl, Nat.le_of_ble_eq_true rfl⟩) (pw_preV hN hK hPX hDX 0 (by omega) rfl rfl) rfl rfl hl.1 rfl (lv_room (Nat.le_of_ble_eq_true rfl)) d_L_claimed_5 ⟨Nat.le_of_ble_eq_true rfl, Nat.le_of_ble_eq_true rfl⟩) (fun r_1 hr_1 => ?_)
  have hr_1 : r_1 = if what = 0 then (q 3) i.toNatClampNeg else (q 4) i.toNatClampNeg := hr_1
  subst hr_1
  refine lv_i2l (v := (if what = 0 then (q 3) i.toNatClampNeg else (q 4) i.toNatClampNeg).toInt64) hx hb d_L_claimed_8 rfl ?_
  refine va_last hx hb hK hP hD hS (27 + 4 * z 0) 4 (n := 1) (f := f) (by rw [wl_get (by omega), va_up_self, va_up_self]) rfl (show ¬ ((0 : Int32) < 0 ∨ 1 ≤ (0 : Int32).toNatClampNeg) by decide) d_L_claimed_9 (fun H1 locs1 hP1 hD1 hS1 => ?_)
  refine lv_goto (tgt := 17) hx hb d_L_claimed_10 (by decide) ?_
  refine lv_iconst (v := 0) hx hb d_L_claimed_17 (by decide) ?_
  have es : (wl (27 + 4 * z 0 + 1) (va_up bk (27 + 4 * z 0) ba) (va_up (CW cs z bo g q pp dd bk) (27 + 4 * z 0) (.inl (cs 4, 1, .inr (.inl (f)))))).set (27 + 4 * z 0) (ba, .inl (cs 4, 1, .inr (.inl (vp_updL f (0 : Int32).toNatClampNeg (if what = 0 then (q 3) i.toNatClampNeg else (q 4) i.toNatClampNeg).toInt64)))) = wl (27 + 4 * z 0 + 1) (va_up bk (27 + 4 * z 0) ba) (va_up (CW cs z bo g q pp dd bk) (27 + 4 * z 0) (.inl (cs 4, 1, .inr (.inl (vp_updL f 0 (if what = 0 then (q 3) i.toNatClampNeg else (q 4) i.toNatClampNeg).toInt64))))) := by
    have e0 : ba = (va_up bk (27 + 4 * z 0) ba) (27 + 4 * z 0) := (va_up_self _ _ _).symm
    conv => lhs; arg 3; rw [e0]
    rw [wl_set, va_up_up]; rfl
  rw [es] at hP1 hD1
  exact W.iret (v := 0) hx hb hr (fun t ht hW => ⟨⟨0, _, rfl, ⟨rfl, rfl⟩, by rw [ht]; exact hP1, va_K.moved hW.alike hK, hD1⟩, hS1.F ht⟩) hS1.2.2 d_L_claimed_18
set_option maxHeartbeats 4000000 in
set_option maxRecDepth 100000 in
theorem t_L_claimed (l : Launch) (D : va_G) (cs : Nat → ClassId) (bk : Nat → Nat) (sz : Nat) (z bo : Nat → Nat) (g q pp dd : Nat → Nat → Int32) (ba : Nat) (f : Nat → Int64) (hz1 : z 1 ≤ 200) (i what : Int32) (hneg : ¬ ((0 ≤ i ∧ i < nI (z 1)) ∧ 0 ≤ what ∧ what ≤ 1)) (hlt : l.stackTraces = false) : Met l y_L_claimed w_L_claimed ({ frames := 7, cells := 1, slots := 6, locals := 104 }) (va_Pc [.ref (bk 0), .int (i), .int (what), .ref ba] (PT D classes (TY cs) (27 + 4 * z 0 + 1) (va_up bk (27 + 4 * z 0) ba) (va_up (CW cs z bo g q pp dd bk) (27 + 4 * z 0) (.inl (cs 4, 1, .inr (.inl (f))))) sz)) (va_Qi (fun r u => r = 1 ∧ u = (27 + 4 * z 0 + 1, (va_up bk (27 + 4 * z 0) ba), (va_up (CW cs z bo g q pp dd bk) (27 + 4 * z 0) (.inl (cs 4, 1, .inr (.inl (f))))))) (Wd D classes (TY cs) (AA (27 + 4 * z 0 + 1) (va_up bk (27 + 4 * z 0) ba) sz)) (AA (27 + 4 * z 0 + 1) (va_up bk (27 + 4 * z 0) ba) sz)) 1 6 (AA (27 + 4 * z 0 + 1) (va_up bk (27 + 4 * z 0) ba) sz) := by
  refine pw_entryW (cc := method_3_code) (maxL := 5) (ret := (some .int)) (by decide +kernel) rfl (Nat.le_of_ble_eq_true rfl) ?_
  intro p_ e_ s m below_ meth_ c_ ls hx hb hr hml hts hown hlocks hex hsz hP hK hD hS hA hN hT hl
  have hw : ∀ w ∈ WA, w.before _ s = true := fun w h => hts w (List.mem_cons_of_mem _ h)
  have hown : s.vm.findClass "IssueRowsLaw" = some m.cls := hown
  have hl : lv_has ls 5 [(0, .ref (bk 0)), (1, .int (i)), (2, .int (what)), (3, .ref ba)] := hl
  have hPX := wl_left hP
  have hDX := wl_leftD hD
  refine lv_aload_n hx hb d_L_claimed_0 rfl (lv_at hl 3 rfl) ?_
  refine lv_iconst (v := 0) hx hb d_L_claimed_1 (by decide) ?_
  refine lv_aload_n hx hb d_L_claimed_2 rfl (lv_at hl 0 rfl) ?_
  refine lv_iload_n hx hb d_L_claimed_3 rfl (lv_at hl 1 rfl) ?_
  refine lv_iload_n hx hb d_L_claimed_4 rfl (lv_at hl 2 rfl) ?_
  refine pw_callVT (As := [.int (i), .int (what)]) (rest := [.int 0, .ref ba]) ⟨hx, hb, hml, hown, hw⟩ (t_X_claimed l D cs bk s.heap.size z bo g q pp dd hz1 i what hneg hlt) (cw_V 2 hw kM_L_7 kI_X_claimed kV_X_claimed kZ_X kC_X_claimed rfl rfl ⟨rfl, by decide, by decide, by decide +kernel⟩ ⟨Nat.le_of_ble_eq_true rfl, Nat.le_of_ble_eq_true rfl⟩) (pw_preVT hT (fun _ _ => rfl) hN hK hPX hDX 0 (by omega) rfl rfl) rfl hl.1 rfl (Nat.le_of_ble_eq_true rfl) d_L_claimed_5 ⟨Nat.le_of_ble_eq_true rfl, Nat.le_of_ble_eq_true rfl⟩ hex (by decide) (by decide) (hw _ kL_L_13) (fun a H1 hz1 hk1 => ?_)
  refine lv_astore (lv' := [(4, .ref a), (0, .ref (bk 0)), (1, .int (i)), (2, .int (what)), (3, .ref ba)]) hx hb d_L_claimed_13 hl (by decide) rfl (fun ls hl => ?_)
  refine lv_iconst (v := 1) hx hb d_L_claimed_15 (by decide) ?_
  have hP1 := hP.kept (H1 := H1) (fun k q hk => hk1 q.1 (hP k q hk).lt)
  exact W.iret (v := 1) hx hb hr (fun t ht hW => ⟨⟨1, _, rfl, ⟨rfl, rfl⟩, by rw [ht]; exact hP1, va_K.moved hW.alike hK, hD⟩, ⟨by rw [ht]; exact hz1, fun q hq _ => by rw [ht]; exact hk1 q hq⟩⟩) hS.2.2 d_L_claimed_16
set_option maxHeartbeats 4000000 in
set_option maxRecDepth 100000 in
theorem c_L_row (l : Launch) (D : va_G) (cs : Nat → ClassId) (bk : Nat → Nat) (sz : Nat) (z bo : Nat → Nat) (g q pp dd : Nat → Nat → Int32) (ba : Nat) (f : Nat → Int64) (hz4 : z 4 ≤ 200) (i what : Int32) (hpos : (0 ≤ i ∧ i < nI (z 4)) ∧ 0 ≤ what ∧ what ≤ 3) : Met l y_L_row w_L_row ({ frames := 4, cells := 0, slots := 0, locals := 88 }) (va_Pc [.ref (bk 0), .int (i), .int (what), .ref ba] (PT D classes (TY cs) (27 + 4 * z 0 + 1) (va_up bk (27 + 4 * z 0) ba) (va_up (CW cs z bo g q pp dd bk) (27 + 4 * z 0) (.inl (cs 4, 1, .inr (.inl (f))))) sz)) (va_Qi (fun r u => r = 0 ∧ u = (27 + 4 * z 0 + 1, (va_up bk (27 + 4 * z 0) ba), (va_up (CW cs z bo g q pp dd bk) (27 + 4 * z 0) (.inl (cs 4, 1, .inr (.inl (vp_updL f 0 (if what = 0 then (q 9) i.toNatClampNeg else if what = 1 then (q 10) i.toNatClampNeg else if what = 2 then (q 11) i.toNatClampNeg else if i.toNatClampNeg + 1 < z 4 then 1 else 0).toInt64))))))) (Wd D classes (TY cs) (AA (27 + 4 * z 0 + 1) (va_up bk (27 + 4 * z 0) ba) sz)) (AA (27 + 4 * z 0 + 1) (va_up bk (27 + 4 * z 0) ba) sz)) 0 0 (AA (27 + 4 * z 0 + 1) (va_up bk (27 + 4 * z 0) ba) sz) := by
  refine pw_entryW (cc := method_5_code) (maxL := 5) (ret := (some .int)) (by decide +kernel) rfl (Nat.le_of_ble_eq_true rfl) ?_
  intro p_ e_ s m below_ meth_ c_ ls hx hb hr hml hts hown hlocks hex hsz hP hK hD hS hA hN hT hl
  have hw : ∀ w ∈ WA, w.before _ s = true := fun w h => hts w (List.mem_cons_of_mem _ h)
  have hown : s.vm.findClass "IssueRowsLaw" = some m.cls := hown
  have hl : lv_has ls 5 [(0, .ref (bk 0)), (1, .int (i)), (2, .int (what)), (3, .ref ba)] := hl
  have hPX := wl_left hP
  have hDX := wl_leftD hD
  refine lv_aload_n hx hb d_L_row_0 rfl (lv_at hl 3 rfl) ?_
  refine lv_iconst (v := 0) hx hb d_L_row_1 (by decide) ?_
  refine lv_aload_n hx hb d_L_row_2 rfl (lv_at hl 0 rfl) ?_
  refine lv_iload_n hx hb d_L_row_3 rfl (lv_at hl 1 rfl) ?_
  refine lv_iload_n hx hb d_L_row_4 rfl (lv_at hl 2 rfl) ?_
  refine pw_callSi (va_runV (As := [.int (i), .int (what)]) (rest := [.int 0, .ref ba]) ⟨hx, hb, hml, hown, hw⟩ (c_X_row l D cs bk s.heap.size z bo g q pp dd hz4 i what hpos) (cw_V 2 hw kM_L_18 kI_X_row kV_X_row kZ_X kC_X_row rfl rfl ⟨rfl, by decide, by decide, by decide +kernel⟩ ⟨Nat.le_of_ble_eq_true rfl, Nat.le_of_ble_eq_true rfl⟩) (pw_preV hN hK hPX hDX 0 (by omega) rfl rfl) rfl rfl hl.1 rfl (lv_room (Nat.le_of_ble_eq_true rfl)) d_L_row_5 ⟨Nat.le_of_ble_eq_true rfl, Nat.le_of_ble_eq_true rfl⟩) (fun r_1 hr_1 => ?_)
  have hr_1 : r_1 = if what = 0 then (q 9) i.toNatClampNeg else if what = 1 then (q 10) i.toNatClampNeg else if what = 2 then (q 11) i.toNatClampNeg else if i.toNatClampNeg + 1 < z 4 then 1 else 0 := hr_1
  subst hr_1
  refine lv_i2l (v := (if what = 0 then (q 9) i.toNatClampNeg else if what = 1 then (q 10) i.toNatClampNeg else if what = 2 then (q 11) i.toNatClampNeg else if i.toNatClampNeg + 1 < z 4 then 1 else 0).toInt64) hx hb d_L_row_8 rfl ?_
  refine va_last hx hb hK hP hD hS (27 + 4 * z 0) 4 (n := 1) (f := f) (by rw [wl_get (by omega), va_up_self, va_up_self]) rfl (show ¬ ((0 : Int32) < 0 ∨ 1 ≤ (0 : Int32).toNatClampNeg) by decide) d_L_row_9 (fun H1 locs1 hP1 hD1 hS1 => ?_)
  refine lv_goto (tgt := 17) hx hb d_L_row_10 (by decide) ?_
  refine lv_iconst (v := 0) hx hb d_L_row_17 (by decide) ?_
  have es : (wl (27 + 4 * z 0 + 1) (va_up bk (27 + 4 * z 0) ba) (va_up (CW cs z bo g q pp dd bk) (27 + 4 * z 0) (.inl (cs 4, 1, .inr (.inl (f)))))).set (27 + 4 * z 0) (ba, .inl (cs 4, 1, .inr (.inl (vp_updL f (0 : Int32).toNatClampNeg (if what = 0 then (q 9) i.toNatClampNeg else if what = 1 then (q 10) i.toNatClampNeg else if what = 2 then (q 11) i.toNatClampNeg else if i.toNatClampNeg + 1 < z 4 then 1 else 0).toInt64)))) = wl (27 + 4 * z 0 + 1) (va_up bk (27 + 4 * z 0) ba) (va_up (CW cs z bo g q pp dd bk) (27 + 4 * z 0) (.inl (cs 4, 1, .inr (.inl (vp_updL f 0 (if what = 0 then (q 9) i.toNatClampNeg else if what = 1 then (q 10) i.toNatClampNeg else if what = 2 then (q 11) i.toNatClampNeg else if i.toNatClampNeg + 1 < z 4 then 1 else 0).toInt64))))) := by
    have e0 : ba = (va_up bk (27 + 4 * z 0) ba) (27 + 4 * z 0) := (va_up_self _ _ _).symm
    conv => lhs; arg 3; rw [e0]
    rw [wl_set, va_up_up]; rfl
  rw [es] at hP1 hD1
  exact W.iret (v := 0) hx hb hr (fun t ht hW => ⟨⟨0, _, rfl, ⟨rfl, rfl⟩, by rw [ht]; exact hP1, va_K.moved hW.alike hK, hD1⟩, hS1.F ht⟩) hS1.2.2 d_L_row_18
set_option maxHeartbeats 4000000 in
set_option maxRecDepth 100000 in
theorem t_L_row (l : Launch) (D : va_G) (cs : Nat → ClassId) (bk : Nat → Nat) (sz : Nat) (z bo : Nat → Nat) (g q pp dd : Nat → Nat → Int32) (ba : Nat) (f : Nat → Int64) (hz4 : z 4 ≤ 200) (i what : Int32) (hneg : ¬ ((0 ≤ i ∧ i < nI (z 4)) ∧ 0 ≤ what ∧ what ≤ 3)) (hlt : l.stackTraces = false) : Met l y_L_row w_L_row ({ frames := 7, cells := 1, slots := 6, locals := 104 }) (va_Pc [.ref (bk 0), .int (i), .int (what), .ref ba] (PT D classes (TY cs) (27 + 4 * z 0 + 1) (va_up bk (27 + 4 * z 0) ba) (va_up (CW cs z bo g q pp dd bk) (27 + 4 * z 0) (.inl (cs 4, 1, .inr (.inl (f))))) sz)) (va_Qi (fun r u => r = 1 ∧ u = (27 + 4 * z 0 + 1, (va_up bk (27 + 4 * z 0) ba), (va_up (CW cs z bo g q pp dd bk) (27 + 4 * z 0) (.inl (cs 4, 1, .inr (.inl (f))))))) (Wd D classes (TY cs) (AA (27 + 4 * z 0 + 1) (va_up bk (27 + 4 * z 0) ba) sz)) (AA (27 + 4 * z 0 + 1) (va_up bk (27 + 4 * z 0) ba) sz)) 1 6 (AA (27 + 4 * z 0 + 1) (va_up bk (27 + 4 * z 0) ba) sz) := by
  refine pw_entryW (cc := method_5_code) (maxL := 5) (ret := (some .int)) (by decide +kernel) rfl (Nat.le_of_ble_eq_true rfl) ?_
  intro p_ e_ s m below_ meth_ c_ ls hx hb hr hml hts hown hlocks hex hsz hP hK hD hS hA hN hT hl
  have hw : ∀ w ∈ WA, w.before _ s = true := fun w h => hts w (List.mem_cons_of_mem _ h)
  have hown : s.vm.findClass "IssueRowsLaw" = some m.cls := hown
  have hl : lv_has ls 5 [(0, .ref (bk 0)), (1, .int (i)), (2, .int (what)), (3, .ref ba)] := hl
  have hPX := wl_left hP
  have hDX := wl_leftD hD
  refine lv_aload_n hx hb d_L_row_0 rfl (lv_at hl 3 rfl) ?_
  refine lv_iconst (v := 0) hx hb d_L_row_1 (by decide) ?_
  refine lv_aload_n hx hb d_L_row_2 rfl (lv_at hl 0 rfl) ?_
  refine lv_iload_n hx hb d_L_row_3 rfl (lv_at hl 1 rfl) ?_
  refine lv_iload_n hx hb d_L_row_4 rfl (lv_at hl 2 rfl) ?_
  refine pw_callVT (As := [.int (i), .int (what)]) (rest := [.int 0, .ref ba]) ⟨hx, hb, hml, hown, hw⟩ (t_X_row l D cs bk s.heap.size z bo g q pp dd hz4 i what hneg hlt) (cw_V 2 hw kM_L_18 kI_X_row kV_X_row kZ_X kC_X_row rfl rfl ⟨rfl, by decide, by decide, by decide +kernel⟩ ⟨Nat.le_of_ble_eq_true rfl, Nat.le_of_ble_eq_true rfl⟩) (pw_preVT hT (fun _ _ => rfl) hN hK hPX hDX 0 (by omega) rfl rfl) rfl hl.1 rfl (Nat.le_of_ble_eq_true rfl) d_L_row_5 ⟨Nat.le_of_ble_eq_true rfl, Nat.le_of_ble_eq_true rfl⟩ hex (by decide) (by decide) (hw _ kL_L_13) (fun a H1 hz1 hk1 => ?_)
  refine lv_astore (lv' := [(4, .ref a), (0, .ref (bk 0)), (1, .int (i)), (2, .int (what)), (3, .ref ba)]) hx hb d_L_row_13 hl (by decide) rfl (fun ls hl => ?_)
  refine lv_iconst (v := 1) hx hb d_L_row_15 (by decide) ?_
  have hP1 := hP.kept (H1 := H1) (fun k q hk => hk1 q.1 (hP k q hk).lt)
  exact W.iret (v := 1) hx hb hr (fun t ht hW => ⟨⟨1, _, rfl, ⟨rfl, rfl⟩, by rw [ht]; exact hP1, va_K.moved hW.alike hK, hD⟩, ⟨by rw [ht]; exact hz1, fun q hq _ => by rw [ht]; exact hk1 q hq⟩⟩) hS.2.2 d_L_row_16
set_option maxHeartbeats 4000000 in
set_option maxRecDepth 100000 in
theorem c_L_volume (l : Launch) (D : va_G) (cs : Nat → ClassId) (bk : Nat → Nat) (sz : Nat) (z bo : Nat → Nat) (g q pp dd : Nat → Nat → Int32) (ba : Nat) (f : Nat → Int64) (hz3 : z 3 ≤ 40) (j : Nat) (hj : j < z 3) (e0 ed : Nat) (hed : e0 + ed ≤ 200) (h0 : q 8 j = nI e0) (h1 : q 8 (j + 1) = nI (e0 + ed)) (k : Nat) (hk : k < ed) (hpos : 0 ≤ nI k ∧ nI k < nI ed) : Met l y_L_volume w_L_volume ({ frames := 4, cells := 0, slots := 0, locals := 88 }) (va_Pc [.ref (bk 0), .int (nI j), .int (nI k), .ref ba] (PT D classes (TY cs) (27 + 4 * z 0 + 1) (va_up bk (27 + 4 * z 0) ba) (va_up (CW cs z bo g q pp dd bk) (27 + 4 * z 0) (.inl (cs 4, 1, .inr (.inl (f))))) sz)) (va_Qi (fun r u => r = 0 ∧ u = (27 + 4 * z 0 + 1, (va_up bk (27 + 4 * z 0) ba), (va_up (CW cs z bo g q pp dd bk) (27 + 4 * z 0) (.inl (cs 4, 1, .inr (.inl (vp_updL f 0 ((q 7) (e0 + k)).toInt64))))))) (Wd D classes (TY cs) (AA (27 + 4 * z 0 + 1) (va_up bk (27 + 4 * z 0) ba) sz)) (AA (27 + 4 * z 0 + 1) (va_up bk (27 + 4 * z 0) ba) sz)) 0 0 (AA (27 + 4 * z 0 + 1) (va_up bk (27 + 4 * z 0) ba) sz) := by
  refine pw_entryW (cc := method_4_code) (maxL := 5) (ret := (some .int)) (by decide +kernel) rfl (Nat.le_of_ble_eq_true rfl) ?_
  intro p_ e_ s m below_ meth_ c_ ls hx hb hr hml hts hown hlocks hex hsz hP hK hD hS hA hN hT hl
  have hw : ∀ w ∈ WA, w.before _ s = true := fun w h => hts w (List.mem_cons_of_mem _ h)
  have hown : s.vm.findClass "IssueRowsLaw" = some m.cls := hown
  have hl : lv_has ls 5 [(0, .ref (bk 0)), (1, .int (nI j)), (2, .int (nI k)), (3, .ref ba)] := hl
  have hPX := wl_left hP
  have hDX := wl_leftD hD
  refine lv_aload_n hx hb d_L_volume_0 rfl (lv_at hl 3 rfl) ?_
  refine lv_iconst (v := 0) hx hb d_L_volume_1 (by decide) ?_
  refine lv_aload_n hx hb d_L_volume_2 rfl (lv_at hl 0 rfl) ?_
  refine lv_iload_n hx hb d_L_volume_3 rfl (lv_at hl 1 rfl) ?_
  refine lv_iload_n hx hb d_L_volume_4 rfl (lv_at hl 2 rfl) ?_
  refine pw_callSi (va_runV (As := [.int (nI j), .int (nI k)]) (rest := [.int 0, .ref ba]) ⟨hx, hb, hml, hown, hw⟩ (c_X_volume l D cs bk s.heap.size z bo g q pp dd hz3 j hj e0 ed hed h0 h1 k hk hpos) (cw_V 2 hw kM_L_15 kI_X_volume kV_X_volume kZ_X kC_X_volume rfl rfl ⟨rfl, by decide, by decide, by decide +kernel⟩ ⟨Nat.le_of_ble_eq_true rfl, Nat.le_of_ble_eq_true rfl⟩) (pw_preV hN hK hPX hDX 0 (by omega) rfl rfl) rfl rfl hl.1 rfl (lv_room (Nat.le_of_ble_eq_true rfl)) d_L_volume_5 ⟨Nat.le_of_ble_eq_true rfl, Nat.le_of_ble_eq_true rfl⟩) (fun r_1 hr_1 => ?_)
  have hr_1 : r_1 = (q 7) (e0 + k) := hr_1
  subst hr_1
  refine lv_i2l (v := ((q 7) (e0 + k)).toInt64) hx hb d_L_volume_8 rfl ?_
  refine va_last hx hb hK hP hD hS (27 + 4 * z 0) 4 (n := 1) (f := f) (by rw [wl_get (by omega), va_up_self, va_up_self]) rfl (show ¬ ((0 : Int32) < 0 ∨ 1 ≤ (0 : Int32).toNatClampNeg) by decide) d_L_volume_9 (fun H1 locs1 hP1 hD1 hS1 => ?_)
  refine lv_goto (tgt := 17) hx hb d_L_volume_10 (by decide) ?_
  refine lv_iconst (v := 0) hx hb d_L_volume_17 (by decide) ?_
  have es : (wl (27 + 4 * z 0 + 1) (va_up bk (27 + 4 * z 0) ba) (va_up (CW cs z bo g q pp dd bk) (27 + 4 * z 0) (.inl (cs 4, 1, .inr (.inl (f)))))).set (27 + 4 * z 0) (ba, .inl (cs 4, 1, .inr (.inl (vp_updL f (0 : Int32).toNatClampNeg ((q 7) (e0 + k)).toInt64)))) = wl (27 + 4 * z 0 + 1) (va_up bk (27 + 4 * z 0) ba) (va_up (CW cs z bo g q pp dd bk) (27 + 4 * z 0) (.inl (cs 4, 1, .inr (.inl (vp_updL f 0 ((q 7) (e0 + k)).toInt64))))) := by
    have e0 : ba = (va_up bk (27 + 4 * z 0) ba) (27 + 4 * z 0) := (va_up_self _ _ _).symm
    conv => lhs; arg 3; rw [e0]
    rw [wl_set, va_up_up]; rfl
  rw [es] at hP1 hD1
  exact W.iret (v := 0) hx hb hr (fun t ht hW => ⟨⟨0, _, rfl, ⟨rfl, rfl⟩, by rw [ht]; exact hP1, va_K.moved hW.alike hK, hD1⟩, hS1.F ht⟩) hS1.2.2 d_L_volume_18
set_option maxHeartbeats 4000000 in
set_option maxRecDepth 100000 in
theorem t_L_volume (l : Launch) (D : va_G) (cs : Nat → ClassId) (bk : Nat → Nat) (sz : Nat) (z bo : Nat → Nat) (g q pp dd : Nat → Nat → Int32) (ba : Nat) (f : Nat → Int64) (hz3 : z 3 ≤ 40) (j : Nat) (hj : j < z 3) (e0 ed : Nat) (hed : e0 + ed ≤ 200) (h0 : q 8 j = nI e0) (h1 : q 8 (j + 1) = nI (e0 + ed)) (i : Int32) (hneg : ¬ (0 ≤ i ∧ i < nI ed)) (hlt : l.stackTraces = false) : Met l y_L_volume w_L_volume ({ frames := 7, cells := 1, slots := 6, locals := 104 }) (va_Pc [.ref (bk 0), .int (nI j), .int (i), .ref ba] (PT D classes (TY cs) (27 + 4 * z 0 + 1) (va_up bk (27 + 4 * z 0) ba) (va_up (CW cs z bo g q pp dd bk) (27 + 4 * z 0) (.inl (cs 4, 1, .inr (.inl (f))))) sz)) (va_Qi (fun r u => r = 1 ∧ u = (27 + 4 * z 0 + 1, (va_up bk (27 + 4 * z 0) ba), (va_up (CW cs z bo g q pp dd bk) (27 + 4 * z 0) (.inl (cs 4, 1, .inr (.inl (f))))))) (Wd D classes (TY cs) (AA (27 + 4 * z 0 + 1) (va_up bk (27 + 4 * z 0) ba) sz)) (AA (27 + 4 * z 0 + 1) (va_up bk (27 + 4 * z 0) ba) sz)) 1 6 (AA (27 + 4 * z 0 + 1) (va_up bk (27 + 4 * z 0) ba) sz) := by
  refine pw_entryW (cc := method_4_code) (maxL := 5) (ret := (some .int)) (by decide +kernel) rfl (Nat.le_of_ble_eq_true rfl) ?_
  intro p_ e_ s m below_ meth_ c_ ls hx hb hr hml hts hown hlocks hex hsz hP hK hD hS hA hN hT hl
  have hw : ∀ w ∈ WA, w.before _ s = true := fun w h => hts w (List.mem_cons_of_mem _ h)
  have hown : s.vm.findClass "IssueRowsLaw" = some m.cls := hown
  have hl : lv_has ls 5 [(0, .ref (bk 0)), (1, .int (nI j)), (2, .int (i)), (3, .ref ba)] := hl
  have hPX := wl_left hP
  have hDX := wl_leftD hD
  refine lv_aload_n hx hb d_L_volume_0 rfl (lv_at hl 3 rfl) ?_
  refine lv_iconst (v := 0) hx hb d_L_volume_1 (by decide) ?_
  refine lv_aload_n hx hb d_L_volume_2 rfl (lv_at hl 0 rfl) ?_
  refine lv_iload_n hx hb d_L_volume_3 rfl (lv_at hl 1 rfl) ?_
  refine lv_iload_n hx hb d_L_volume_4 rfl (lv_at hl 2 rfl) ?_
  refine pw_callVT (As := [.int (nI j), .int (i)]) (rest := [.int 0, .ref ba]) ⟨hx, hb, hml, hown, hw⟩ (t_X_volume l D cs bk s.heap.size z bo g q pp dd hz3 j hj e0 ed hed h0 h1 i hneg hlt) (cw_V 2 hw kM_L_15 kI_X_volume kV_X_volume kZ_X kC_X_volume rfl rfl ⟨rfl, by decide, by decide, by decide +kernel⟩ ⟨Nat.le_of_ble_eq_true rfl, Nat.le_of_ble_eq_true rfl⟩) (pw_preVT hT (fun _ _ => rfl) hN hK hPX hDX 0 (by omega) rfl rfl) rfl hl.1 rfl (Nat.le_of_ble_eq_true rfl) d_L_volume_5 ⟨Nat.le_of_ble_eq_true rfl, Nat.le_of_ble_eq_true rfl⟩ hex (by decide) (by decide) (hw _ kL_L_13) (fun a H1 hz1 hk1 => ?_)
  refine lv_astore (lv' := [(4, .ref a), (0, .ref (bk 0)), (1, .int (nI j)), (2, .int (i)), (3, .ref ba)]) hx hb d_L_volume_13 hl (by decide) rfl (fun ls hl => ?_)
  refine lv_iconst (v := 1) hx hb d_L_volume_15 (by decide) ?_
  have hP1 := hP.kept (H1 := H1) (fun k q hk => hk1 q.1 (hP k q hk).lt)
  exact W.iret (v := 1) hx hb hr (fun t ht hW => ⟨⟨1, _, rfl, ⟨rfl, rfl⟩, by rw [ht]; exact hP1, va_K.moved hW.alike hK, hD⟩, ⟨by rw [ht]; exact hz1, fun q hq _ => by rw [ht]; exact hk1 q hq⟩⟩) hS.2.2 d_L_volume_16
set_option maxHeartbeats 4000000 in
set_option maxRecDepth 100000 in
theorem t_L_volume_out (l : Launch) (D : va_G) (cs : Nat → ClassId) (bk : Nat → Nat) (sz : Nat) (z bo : Nat → Nat) (g q pp dd : Nat → Nat → Int32) (ba : Nat) (f : Nat → Int64) (hz3 : z 3 ≤ 40) (v i : Int32) (hneg : ¬ (0 ≤ v ∧ v < nI (z 3))) (hlt : l.stackTraces = false) : Met l y_L_volume w_L_volume ({ frames := 7, cells := 1, slots := 6, locals := 104 }) (va_Pc [.ref (bk 0), .int (v), .int (i), .ref ba] (PT D classes (TY cs) (27 + 4 * z 0 + 1) (va_up bk (27 + 4 * z 0) ba) (va_up (CW cs z bo g q pp dd bk) (27 + 4 * z 0) (.inl (cs 4, 1, .inr (.inl (f))))) sz)) (va_Qi (fun r u => r = 1 ∧ u = (27 + 4 * z 0 + 1, (va_up bk (27 + 4 * z 0) ba), (va_up (CW cs z bo g q pp dd bk) (27 + 4 * z 0) (.inl (cs 4, 1, .inr (.inl (f))))))) (Wd D classes (TY cs) (AA (27 + 4 * z 0 + 1) (va_up bk (27 + 4 * z 0) ba) sz)) (AA (27 + 4 * z 0 + 1) (va_up bk (27 + 4 * z 0) ba) sz)) 1 6 (AA (27 + 4 * z 0 + 1) (va_up bk (27 + 4 * z 0) ba) sz) := by
  refine pw_entryW (cc := method_4_code) (maxL := 5) (ret := (some .int)) (by decide +kernel) rfl (Nat.le_of_ble_eq_true rfl) ?_
  intro p_ e_ s m below_ meth_ c_ ls hx hb hr hml hts hown hlocks hex hsz hP hK hD hS hA hN hT hl
  have hw : ∀ w ∈ WA, w.before _ s = true := fun w h => hts w (List.mem_cons_of_mem _ h)
  have hown : s.vm.findClass "IssueRowsLaw" = some m.cls := hown
  have hl : lv_has ls 5 [(0, .ref (bk 0)), (1, .int (v)), (2, .int (i)), (3, .ref ba)] := hl
  have hPX := wl_left hP
  have hDX := wl_leftD hD
  refine lv_aload_n hx hb d_L_volume_0 rfl (lv_at hl 3 rfl) ?_
  refine lv_iconst (v := 0) hx hb d_L_volume_1 (by decide) ?_
  refine lv_aload_n hx hb d_L_volume_2 rfl (lv_at hl 0 rfl) ?_
  refine lv_iload_n hx hb d_L_volume_3 rfl (lv_at hl 1 rfl) ?_
  refine lv_iload_n hx hb d_L_volume_4 rfl (lv_at hl 2 rfl) ?_
  refine pw_callVT (As := [.int (v), .int (i)]) (rest := [.int 0, .ref ba]) ⟨hx, hb, hml, hown, hw⟩ (t_X_volume_out l D cs bk s.heap.size z bo g q pp dd hz3 v i hneg hlt) (cw_V 2 hw kM_L_15 kI_X_volume kV_X_volume kZ_X kC_X_volume rfl rfl ⟨rfl, by decide, by decide, by decide +kernel⟩ ⟨Nat.le_of_ble_eq_true rfl, Nat.le_of_ble_eq_true rfl⟩) (pw_preVT hT (fun _ _ => rfl) hN hK hPX hDX 0 (by omega) rfl rfl) rfl hl.1 rfl (Nat.le_of_ble_eq_true rfl) d_L_volume_5 ⟨Nat.le_of_ble_eq_true rfl, Nat.le_of_ble_eq_true rfl⟩ hex (by decide) (by decide) (hw _ kL_L_13) (fun a H1 hz1 hk1 => ?_)
  refine lv_astore (lv' := [(4, .ref a), (0, .ref (bk 0)), (1, .int (v)), (2, .int (i)), (3, .ref ba)]) hx hb d_L_volume_13 hl (by decide) rfl (fun ls hl => ?_)
  refine lv_iconst (v := 1) hx hb d_L_volume_15 (by decide) ?_
  have hP1 := hP.kept (H1 := H1) (fun k q hk => hk1 q.1 (hP k q hk).lt)
  exact W.iret (v := 1) hx hb hr (fun t ht hW => ⟨⟨1, _, rfl, ⟨rfl, rfl⟩, by rw [ht]; exact hP1, va_K.moved hW.alike hK, hD⟩, ⟨by rw [ht]; exact hz1, fun q hq _ => by rw [ht]; exact hk1 q hq⟩⟩) hS.2.2 d_L_volume_16

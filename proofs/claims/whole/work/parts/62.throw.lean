/-! A THROW AND A CATCH. The words that a throw asks, and how they go along. -/
def xN : String := "java/lang/IndexOutOfBoundsException"
def upN : List String := ["java/lang/RuntimeException", "java/lang/Exception"]
/-- what a throw asks of the state -/
def TW (U : State) : Prop := (∀ w ∈ Bundle.ownAtoms "IssueRows" 127 xN upN, w.before #[] U = true) ∧ (Cond.stringRef "IssueRows" 125 "no such claim").before #[] U = true ∧ (Cond.stringRef "IssueRows" 184 "no such issue of a volume").before #[] U = true ∧ (Cond.stringRef "IssueRows" 198 "no such row").before #[] U = true
theorem tw_kind : ∀ w ∈ Bundle.ownAtoms "IssueRows" 127 xN upN, w.tabsOnly = true ∨ (w = .isRef (.static "java/lang/Throwable" "UNASSIGNED_STACK" "[Ljava/lang/StackTraceElement;") ∨ w = .laysStatic "java/lang/Throwable" "UNASSIGNED_STACK" "[Ljava/lang/StackTraceElement;") ∨ (w = .isRef (.static "java/lang/Throwable" "SUPPRESSED_SENTINEL" "Ljava/util/List;") ∨ w = .laysStatic "java/lang/Throwable" "SUPPRESSED_SENTINEL" "Ljava/util/List;") := by decide +kernel
theorem tw_ride : ∀ w ∈ Bundle.ownAtoms "IssueRows" 127 xN upN, w.tabsOnly = true ∨ ∃ C n d, w = .isRef (.static C n d) ∨ w = .laysStatic C n d := fun w hw => (tw_kind w hw).elim Or.inl (fun h => Or.inr (h.elim (fun e => ⟨_, _, _, e⟩) (fun e => ⟨_, _, _, e⟩)))
theorem TW.moved {s U : State} (h : TW s) (hW : s.WarmedH U.vm) (hk : StK s U) : TW U :=
  ⟨tw_along hW hk tw_ride h.1, Cond.stringRef_warmed hW h.2.1, Cond.stringRef_warmed hW h.2.2.1, Cond.stringRef_warmed hW h.2.2.2⟩
theorem TW.args {s : State} (h : TW s) (a : Array Value) : ∀ w ∈ Bundle.ownAtoms "IssueRows" 127 xN upN, w.before a s = true :=
  tw_along (State.WarmedH.refl s) (fun _ _ h _ => h) tw_ride h.1
theorem kept_of {s U : State} (h : ∀ q : Nat, q < s.heap.size → U.heap[q]? = s.heap[q]?) : StK s U := fun y cy hy _ => by
  rw [h y (Array.getElem?_eq_some_iff.mp hy).1]; exact hy
/-- what holds behind a throw -/
def TE (s : State) (x : Addr) (t : State) : Prop := s.heap.size ≤ x ∧ (∃ ce : Cell, t.heap[x]? = some ce ∧ s.vm.findClass xN = some ce.cls ∧ s.vm.assignable ce.cls ce.cls = true ∧ ce.vm = .none) ∧ ∀ q : Nat, q < s.heap.size → t.heap[q]? = s.heap[q]?
def TQ (below : List Frame) (s : State) (t : State) : Prop := ∃ x : Addr, t.status = .running ∧ Ended t below (.threw x) ∧ TE s x t ∧ s.WarmedH t.vm ∧ s.sameButNew ({ t with vm := s.vm } : State) [] 1 6
theorem same_old {s t : State} {cells slots : Nat} (h : s.sameButNew t [] cells slots) : ∀ q : Nat, q < s.heap.size → t.heap[q]? = s.heap[q]? := by
  intro q hq
  obtain ⟨c', h1, h2, h3, h4⟩ := h.2.2.2.2.2 q _ (Array.getElem?_eq_getElem hq)
  rw [h1, Array.getElem?_eq_getElem hq, h2]
  have hs : c'.slots = s.heap[q].slots := Array.ext_getElem? (fun i => h4 i (List.not_mem_nil))
  rw [hs]
section TH
variable {p : Program} {l : Launch} {e : Env} {R : Room} {s : State} {m : MethodId} {args : Array Value} {below : List Frame} {meth : Method} {c : Code}
/-- throw new IndexOutOfBoundsException(a text), where nothing has been written -/
theorem pw_throw {cc : ByteArray} {pc : Nat} {ls : Array Slot} {ks : Nat} {tx : String} (hexec : p.tables.exec = Jvm.exec) (hb : c.code = cc) (hl : l.stackTraces = false) (hown : s.vm.findClass "IssueRows" = some m.cls) (hT : TW s) (hw : ∀ w ∈ WA, w.before args s = true) (hks : (Cond.stringRef "IssueRows" ks tx).before #[] s = true)
    (hlk : Cond.classLink "IssueRows" 123 xN ∈ WA) (hini : Cond.initialized xN ∈ WA) (hsize : ls.size = c.maxLocals) (hno : ∀ x ∈ c.exceptionTable.toList, covers x (pc + 9) = false) (hlocks : meth.locks = false)
    (d0 : decode cc pc = .ok (.new 123, 3)) (d3 : decode cc (pc + 3) = .ok (.dup, 1)) (d4 : decode cc (pc + 4) = .ok (.ldc ks, 2)) (d6 : decode cc (pc + 6) = .ok (.invokespecial 127, 3)) (d9 : decode cc (pc + 9) = .ok (.athrow, 1))
    (hRc : 1 ≤ R.cells) (hRs : 6 ≤ R.slots) (hRf : 5 < R.frames) (hRl : 82 ≤ R.locals) :
    W p l e R s m args below meth c s.heap [] 0 0 (TQ below s) (F0 m pc ls []) := by
  intro T hTh X
  have htr : e.platform.stackTraces = false := by rw [Example.NoTraceControls.admits_follows X.admits]; exact hl
  obtain ⟨vm₁, cX, kX, hfX, hkX, -, -, X₁, st1⟩ := X.newCold hexec (own := "IssueRows") (C := xN) (index := 123) (n := 6) hown (hw _ hlk) (hT.args args (.instantiable xN 6) (by simp [Bundle.ownAtoms])) (hw _ hini)
    (g := F0 m pc ls []) rfl (by rw [hb]; exact d0) (by omega) (by omega)
  generalize hU : (T.setVm vm₁).pushCell { cls := cX, slots := kX.instanceTypes.map defaultValue, vm := .none } = U at X₁ st1
  have hcellA : U.heap[T.heap.size]? = some (freshCell cX kX) := by rw [← hU]; exact State.heap_pushCell_size _ _
  obtain ⟨-, -, -, sa, -, -, -, -, -, hev⟩ := Cond.stringRef_spec hown (args := args) (first := s) (o := none) (idx := []) hks
  obtain ⟨V, hsteps, hrun, hend, hW, hsame, ce, hce, K⟩ := X₁.ctorThrowS hexec htr (own := "IssueRows") (cls := xN) (names := upN) (ic := 127) hown (by decide +kernel) (by decide +kernel)
    (hT.args args) (fun y hy => by cases hy) hfX hkX hcellA (by rw [hTh]; exact Nat.le_refl _) (msg := .ref sa) rfl
    (g := F0 m (pc + 6) ls [.ref sa, .ref T.heap.size, .ref T.heap.size]) rfl hsize rfl rfl (rest := []) rfl
    (by rw [hb]; exact d6) (by rw [hb]; exact d9) hno (by simp [upN]; omega) (by simp [upN, Value.category, F0]; omega) hlocks
  refine ⟨V, ?_, T.heap.size, hrun, hend, ⟨by rw [hTh]; exact Nat.le_refl _, ⟨ce, hce, K.cls, K.self, K.vm⟩, ?_⟩, hW, hsame⟩
  · refine st1 _ ?_
    show Steps p.tables e below (U.setTop (F0 m (pc + 3) ls [.ref T.heap.size])) _
    jvm_step X₁.here [X₁.here.top, hexec, hb, d3, Value.category]
    exact X₁.ldcString hexec (own := "IssueRows") (text := tx) (index := ks) (a := sa) hown hks hev (g := F0 m (pc + 4) ls [.ref T.heap.size, .ref T.heap.size]) rfl (by rw [hb]; exact d4) _ hsteps
  · have h9 := same_old hsame
    exact h9
end TH
/-- a method that throws: its contract -/
def MetT (l : Launch) (y : MethodName) (ws : List Cond) (rm : Room) (Pc : Array Value → State → Prop) : Prop :=
  MetFree l y (headSpec ws rm) Pc (fun _ _ _ _ _ => True) (fun _ st o t => (∃ x : Addr, o = .threw x ∧ TE st x t) ∧ FT st o t)
/-- the start, with the words of a throw -/
def PT (D : va_G) (cl : List vw_C) (tys : List (ClassId × FieldType)) (N : Nat) (bk : Nat → Nat) (cw : Nat → va_E) (sz : Nat) (U : State) : Prop := PB D cl tys N bk cw sz U ∧ TW U
theorem PT_blind {D : va_G} {cl : List vw_C} {tys : List (ClassId × FieldType)} {N : Nat} {bk : Nat → Nat} {cw : Nat → va_E} {sz : Nat} {av : List Value} : FrameBlind (va_Pc av (PT D cl tys N bk cw sz)) := by
  intro a U g mk q
  obtain ⟨q0, q1, q2⟩ := q
  exact ⟨q0, (PB_blind (av := av) a U g mk ⟨q0, q1⟩).2, q2.moved (U := U.calling g mk a) (State.WarmedH.refl U) (fun _ _ h _ => h)⟩
theorem pw_preVT {s : State} {H : Heap} {D : va_G} {cl : List vw_C} {tys : List (ClassId × FieldType)} {N : Nat} {bk : Nat → Nat} {cw : Nat → va_E} {A : Nat → Prop} {ci : Nat} {r : vw_C} {fs As : List Value} (hT : TW s) (hH : ∀ q : Nat, q < s.heap.size → H[q]? = s.heap[q]?) (hN : NN s) (hK : va_K D cl tys s) (hP : va_P D cl (wl N bk cw) H) (hD : va_D A (wl N bk cw)) (k : Nat) (hk : k < N) (hek : cw k = .inr (ci, fs)) (hc : cl[ci]? = some r) :
    PreV s H r.1 (bk k) (va_Pc (.ref (bk k) :: As) (PT D cl tys N bk cw H.size)) As :=
  ⟨PT_blind, va_recv hK hP hc (wl_at hk hek), fun U hU hW => ⟨rfl, ⟨by rw [hU], by rw [hU]; exact hP, va_K.moved hW.alike hK, hD.weaken (fun _ _ _ _ => trivial), hN.warm hW⟩, hT.moved hW (kept_of (by rw [hU]; exact hH))⟩⟩
theorem pw_preST {s : State} {H : Heap} {D : va_G} {cl : List vw_C} {tys : List (ClassId × FieldType)} {N : Nat} {bk : Nat → Nat} {cw : Nat → va_E} {A : Nat → Prop} {As : List Value} (hT : TW s) (hH : ∀ q : Nat, q < s.heap.size → H[q]? = s.heap[q]?) (hN : NN s) (hK : va_K D cl tys s) (hP : va_P D cl (wl N bk cw) H) (hD : va_D A (wl N bk cw)) :
    PreS s H (va_Pc As (PT D cl tys N bk cw H.size)) As :=
  ⟨PT_blind, fun U hU hW => ⟨rfl, ⟨by rw [hU], by rw [hU]; exact hP, va_K.moved hW.alike hK, hD.weaken (fun _ _ _ _ => trivial), hN.warm hW⟩, hT.moved hW (kept_of (by rw [hU]; exact hH))⟩⟩
theorem pw_entryT {l : Launch} {y : MethodName} {ws ws' : List Cond} {rm : Room} {cc : ByteArray} {maxL : Nat} {ret : Option FieldType} {D : va_G} {cl : List vw_C} {tys : List (ClassId × FieldType)} {N : Nat} {bk : Nat → Nat} {cw : Nat → va_E} {sz : Nat} {av : List Value}
    (hy : plainName y.cls = true) (hw : ws = Cond.code y cc maxL ret :: ws') (hn : (lg_sl av).length ≤ maxL)
    (body : ∀ (p : Program) (e : Env) (s : State) (m : MethodId) (below : List Frame) (meth : Method) (c : Code) (ls : Array Slot), p.tables.exec = Jvm.exec → c.code = cc → c.maxLocals = maxL → (∀ w ∈ ws, w.before av.toArray s = true) → s.vm.findClass y.cls = some m.cls → meth.locks = false → (∀ (pc : Nat), ∀ x ∈ c.exceptionTable.toList, covers x pc = false) →
      va_P D cl (wl N bk cw) s.heap → va_K D cl tys s → va_D (AA N bk sz) (wl N bk cw) → va_S (AA N bk sz) s.heap s.heap [] → (∀ q, s.heap.size ≤ q → AA N bk sz q) → NN s → TW s → lv_has ls maxL (lv_args 0 av) →
      W p l e rm s m av.toArray below meth c s.heap [] 0 0 (TQ below s) (F0 m 0 ls [])) :
    MetT l y ws rm (va_Pc av (PT D cl tys N bk cw sz)) := by
  refine MetFree.of_bodyS (code := cc) (maxLocals := maxL) (ret := ret) hy ?_ ?_
  · intro args s m h hn
    obtain ⟨meth, c, h1, h2, h3, h4, h5, h6, -, -⟩ := Cond.code_spec hn (atoms_spec (ws := ws) h _ (by rw [hw]; exact List.mem_cons_self))
    exact ⟨meth, c, h1, h2, h3, h4, h5, h6⟩
  · intro p e s m args below meth c s₁ B hml hv _
    obtain ⟨rfl, ⟨hsz, hP, hK, hD0, hN⟩, hT⟩ := hv
    have hh0 : s₁.heap = s.heap := by rw [B.state]; rfl
    have hts := atoms_spec (ws := ws) B.pre
    have hno : ∀ (pc : Nat), ∀ x ∈ c.exceptionTable.toList, covers x pc = false := by
      obtain ⟨meth', c', hm', hc', -, -, -, -, hempty, -⟩ := Cond.code_spec B.named (hts (Cond.code y cc maxL ret) (by rw [hw]; exact List.mem_cons_self))
      cases B.method.symm.trans hm'
      cases (Stand.of_body B).code.symm.trans hc'
      have h0 : c.exceptionTable.size = 0 := by simpa [Array.isEmpty] using hempty
      have h1 : c.exceptionTable.toList = [] := List.eq_nil_of_length_eq_zero (by simpa using h0)
      intro pc x hx
      rw [h1] at hx; cases hx
    have K := body p e s m below meth c _ B.exec B.bytes hml hts (findClass_of_methodNamed B.named) B.notSynchronized hno hP hK (wl_self hD0) va_S.rf (fun q h => Or.inr (by rw [← hsz]; exact h)) hN hT (lv_entry av (n := maxL) hn)
    rw [lg_entry_eq]
    obtain ⟨t, a1, x, b1, b2, b3, b4, b5⟩ := K s₁ hh0 (Stand.of_body B)
    exact ⟨t, .threw x, a1, b1, b2, ⟨x, rfl, b3⟩, ⟨x, rfl⟩, b4, b5⟩
section TC
variable {p : Program} {l : Launch} {e : Env} {R : Room} {s : State} {m : MethodId} {args : Array Value} {below : List Frame} {meth : Method} {c : Code} {H : Heap} {locs : List Loc} {cells slots : Nat} {Q : State → Prop}
variable {y : MethodName} {bytes cc : ByteArray} {maxL nL n index pc : Nat} {ret : Option FieldType} {ws : List Cond} {rm : Room} {Pc : Array Value → State → Prop} {Ts : List Cond} {own C : String} {b : Addr} {As rest st0 : List Value} {ls : Array Slot}
/-- a call that throws, and the handler that takes it -/
theorem pw_callVT (S : CallFix p m c cc nL s args Ts own) (hM : MetT l y ws rm Pc) (cw : CallW R s args own C index y bytes maxL ret ws rm 1 6 n) (hp : PreV s H C b Pc As)
    (hn : As.length = n) (hsize : ls.size = nL) (hstack : st0 = As.reverse ++ .ref b :: rest) (hW : (rest.map fun v => v.category).sum ≤ 8) (hdg : decode cc pc = .ok (.invokevirtual index, 3)) (hf : cells + 1 ≤ R.cells ∧ slots + 6 ≤ R.slots)
    {x : ExceptionTableEntry} (hex : c.exceptionTable.toList = [x]) (hx : covers x pc = true) (h0 : x.catchType ≠ 0) (hlink : (Cond.classLink own x.catchType xN).before args s = true)
    (kk : ∀ (a : Nat) (H1 : Heap), H.size ≤ H1.size → (∀ q : Nat, q < H.size → H1[q]? = H[q]?) → W p l e R s m args below meth c H1 locs (cells + 1) (slots + 6) Q (F0 m x.handlerPc ls [.ref a])) :
    W p l e R s m args below meth c H locs cells slots Q (F0 m pc ls st0) := by
  obtain ⟨⟨hrc, hrs, hfr, hlo, hws, hcm, hcode, hini, hy, hlen, hl⟩, hin, hse⟩ := cw
  obtain ⟨hxx, hb, hml, ho, -⟩ := S
  obtain ⟨hPb, ⟨cellB, hcB, hoB, hclB⟩, hPc⟩ := hp
  intro T hT X
  obtain ⟨mk, methM, hnamed, hmethM, hstM, habM⟩ := Cond.instanceMethod_spec hin
  obtain ⟨methM', cM, hmethM', -, -, -, -, -, -, hsigM⟩ := Cond.code_spec hnamed hcode
  cases hmethM.symm.trans hmethM'
  obtain ⟨c2, r2, m2, q1, q2, q3, q4, kP, hkP, hkPi⟩ := Cond.selects_spec hse
  cases hclB.symm.trans q1
  cases (State.methodFound?_of_named hnamed hy).symm.trans q2
  cases hnamed.symm.trans q3
  have hselP : selectMethod e.platform s.vm cellB.cls mk = .method mk := by rw [Launch.admits_selectMethod X.admits]; exact q4
  obtain ⟨vm₁, X₁, hstep₁⟩ := X.invokevirtual hxx ho hl hnamed hmethM hstM hkP hkPi hy (a := b) (cell := cellB) (by rw [hT]; exact hcB)
    (fun z h => by rw [h] at hoB; cases hoB) hselP hmethM habM hkP hkPi (g := F0 m pc ls st0) rfl (argsL := As) (rest := rest) (hn.trans (hlen _ hsigM)) hstack (by rw [hb]; exact hdg)
  obtain ⟨v, t, ⟨f1, ⟨ce, f2, f3, f4, f5⟩, f6⟩, X', hsteps⟩ := pw_back (E := TE) (ig := .invokevirtual index) (a := (Value.ref b :: As).toArray) (bytes := bytes) (maxL := maxL) (ret := ret) X₁ hM (g := F0 m pc ls rest) rfl (hsize.trans hml.symm) (by rw [hb]; exact hdg) (by show 2 * 0 + (rest.map fun v => v.category).sum ≤ 8; omega) (X₁.named hnamed)
    (fun w hw => hws w hw _ _ X₁.warmed) (hws _ hcm _ _ X₁.warmed) (word_at X₁.warmed (Or.inl (by first | rfl | simp [Cond.onTables, Cond.keeps, Cond.steady])) hini) hfr hlo hrc hrs hf.1 hf.2 (hPb _ _ _ _ (hPc (T.setVm vm₁) hT X₁.warmed))
  have hal := X₁.warmed.alike
  have g3 : s.vm.findClass xN = some ce.cls := by rw [← hal.findClass]; exact f3
  have g4 : s.vm.assignable ce.cls ce.cls = true := by rw [← hal.assignable]; exact f4
  have hT' : (T.setVm vm₁).heap = H := hT
  obtain ⟨vm', XV, st⟩ := pw_catch X' (g := F0 m pc ls rest) rfl f2 f5 hex hx h0 ho hlink g3 g4
  have s1 : H.size ≤ v := by rw [← hT']; exact f1
  obtain ⟨t2, a1, b1⟩ := kk v t.heap (Nat.le_trans s1 (Nat.le_of_lt (Array.getElem?_eq_some_iff.mp f2).1)) (fun q hq => by rw [f6 q (by show q < (T.setVm vm₁).heap.size; rw [hT']; exact hq)]; show (T.setVm vm₁).heap[q]? = _; rw [hT']) ((thrU (T.setVm vm₁) t).setVm vm') rfl XV
  exact ⟨t2, hstep₁ _ (fun acts => by rw [doInvoke_state]; exact hsteps.trans (st _ a1)), b1⟩
end TC

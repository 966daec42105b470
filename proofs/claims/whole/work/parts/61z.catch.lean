/-! WORDS THAT GO ALONG, A THROW THAT COMES BACK, A CATCH BY NAME: out of the library's laws of single steps (ThrowLaws, Cold, Stand, Free/Laws). -/
/-- the cells of statics stand -/
def StK (s U : State) : Prop := ∀ (y : Addr) (cy : Cell), s.heap[y]? = some cy → cy.vm.isStatics = true → U.heap[y]? = some cy
/-- a static that held a reference holds one still -/
theorem tw_stat {s U : State} (hal : s.vm.Alike U.vm) (hk : StK s U) {C n d : String} {a a' : Array Value} (h : (Cond.isRef (.static C n d)).before a s = true) : (Cond.isRef (.static C n d)).before a' U = true := by
  rcases hf : s.fieldFound? C n d with _ | ⟨cf, k, ix, f⟩
  · simp [Cond.before, Cond.holds, Cond.value, Term.eval, State.fieldNamed?, hf] at h
  obtain ⟨k', hf', he⟩ := State.fieldFound?_setVm hal hf
  have hu : U.fieldFound? C n d = some (cf, k', ix, f) := hf'
  have es : k'.statics = k.statics := by rw [he]
  rcases hst : f.isStatic with _ | _
  · simp [Cond.before, Cond.holds, Cond.value, Term.eval, State.fieldNamed?, hf, hst] at h
  rcases hs : k.statics with _ | ad
  · simp [Cond.before, Cond.holds, Cond.value, Term.eval, State.fieldNamed?, hf, hst, hs] at h
  rcases hc : s.heap[ad]? with _ | cell
  · simp [Cond.before, Cond.holds, Cond.value, Term.eval, State.fieldNamed?, hf, hst, hs, hc] at h
  rcases hi : cell.vm.isStatics with _ | _
  · simp [Cond.before, Cond.holds, Cond.value, Term.eval, State.fieldNamed?, hf, hst, hs, hc, hi] at h
  have hc' := hk ad cell hc hi
  rw [hs] at es
  simp [Cond.before, Cond.holds, Cond.value, Term.eval, State.fieldNamed?, hf, hst, hs, hc, hi] at h
  simp [Cond.before, Cond.holds, Cond.value, Term.eval, State.fieldNamed?, hu, hst, es, hc', hi]
  exact h
theorem tw_lays {s U : State} (hal : s.vm.Alike U.vm) (hk : StK s U) {C n d : String} {a a' : Array Value} (h : (Cond.laysStatic C n d).before a s = true) : (Cond.laysStatic C n d).before a' U = true := by
  obtain ⟨cc, k, ix, f, ad, cell, h1, h2, h3, h4, h5, h6, h7, h8, h9⟩ := Cond.laysStatic_spec h
  obtain ⟨k', hf', he⟩ := State.fieldFound?_setVm hal h2
  have e1 : k'.statics = k.statics := by rw [he]
  have e2 : k'.staticTypes = k.staticTypes := by rw [he]
  exact Cond.laysStatic_of (s := U) (by rw [hal.findClass]; exact h1) hf' h3 (e1.trans h4) (hk ad cell h5 h6) h6 h7 h8 (by rw [e2]; exact h9)
/-- a list of words, each of the tables alone or a static's, goes along -/
theorem tw_along {s U : State} (hW : s.WarmedH U.vm) (hk : StK s U) {a a' : Array Value} {A : List Cond} (hA : ∀ w ∈ A, w.tabsOnly = true ∨ ∃ C n d, w = .isRef (.static C n d) ∨ w = .laysStatic C n d) (h : ∀ w ∈ A, w.before a s = true) : ∀ w ∈ A, w.before a' U = true := by
  intro w hw
  rcases hA w hw with ht | ⟨C, n, d, rfl | rfl⟩
  · have h1 := Cond.tabsOnly_warm (args' := a') (T := U) hW w ht (h w hw)
    have h2 : U.setVm U.vm = U := by cases U; rfl
    rwa [h2] at h1
  · exact tw_stat hW.alike hk (h _ hw)
  · exact tw_lays hW.alike hk (h _ hw)
/-- it threw; the tables are warmer; nothing has moved but for one new cell of six slots at the most -/
def FT (st : State) (o : Outcome) (t : State) : Prop := (∃ x, o = .threw x) ∧ st.WarmedH t.vm ∧ st.sameButNew ({ t with vm := st.vm } : State) [] 1 6
section TB
variable {p : Program} {l : Launch} {e : Env} {R : Room} {s : State} {m : MethodId} {args : Array Value} {below : List Frame} {meth : Method} {c : Code} {U : State} {locs : List Loc} {cells slots : Nat}
variable {y : MethodName} {ws : List Cond} {rm : Room} {Pc : Array Value → State → Prop} {E : State → Addr → State → Prop} {bytes : ByteArray} {maxL : Nat} {ret : Option FieldType} {g : JFrame} {ig : Instr} {mk : MethodId} {a : Array Value}
/-- the caller's state behind a callee that threw -/
abbrev thrU (U t : State) : State := ({ U with heap := t.heap, slotsUsed := t.slotsUsed } : State).setVm t.vm
theorem pw_back (X : Stand p l e R s m args below meth c U locs cells slots) (hM : MetFree l y (headSpec ws rm) Pc (fun _ _ _ _ _ => True) (fun _ st o t => (∃ x : Addr, o = .threw x ∧ E st x t) ∧ FT st o t)) (hg : g.method = m) (hsize : g.locals.size = c.maxLocals) (hdg : decode c.code g.pc = .ok (ig, 3)) (hW : 2 * g.monitorRoom + (g.stack.map fun v => v.category).sum ≤ 8) (hn : U.methodNamed? y = some mk)
    (hws : ∀ w ∈ ws, w.before a U = true) (hcode : (Cond.code y bytes maxL ret).before a U = true) (hini : (Cond.initialized y.cls).before a U = true)
    (hfr : rm.frames + 1 ≤ R.frames) (hlo : 8 + (maxL + 11) + rm.locals ≤ R.locals) (hrc : rm.cells = 1) (hrs : rm.slots = 6) (hc : cells + 1 ≤ R.cells) (hs : slots + 6 ≤ R.slots) (hP : Pc a (U.calling g mk a)) :
    ∃ (x : Addr) (t : State), E (U.calling g mk a) x t ∧ Stand p l e R s m args below meth c (thrU U t) locs (cells + 1) (slots + 6) ∧ Steps p.tables e below (doInvoke e (U.setTop g) [] mk a).1 (((thrU U t).setTop g).pushFrame (.throwing x)) := by
  subst hg
  obtain ⟨methY, cY, hmY, hcY, -, hlY, -, -, -, -⟩ := Cond.code_spec hn hcode
  obtain ⟨kY, hkY, -⟩ := className_of_methodNamed hn
  have h := X.here
  have happ : (headSpec ws rm).appliesLoose y e.platform (U.calling g mk a) = true :=
    Spec.appliesLoose_calling (g := g) h hdg hn hkY (Cond.initialized_spec (findClass_of_methodNamed hn) hkY hini)
      (X.room_calling (g := g) (R' := (headSpec ws rm).room) hsize hmY hcY hfr (by rw [hlY]; show 2 * g.monitorRoom + _ + _ + rm.locals ≤ _; omega) (by show cells + rm.cells ≤ _; omega) (by show slots + rm.slots ≤ _; omega)) (atoms_intro hws)
  obtain ⟨mid, hmid⟩ := h.above
  have hfr2 : (U.setTop g).frames = (.java g :: mid) ++ below := by rw [State.frames_setTop' g h.top, hmid]; rfl
  obtain ⟨o, t, hsteps, -, hend, hq⟩ := Steps.callFree hM p X.admits X.cas X.clock (acts := []) hfr2 happ hP trivial
  obtain ⟨⟨x, rfl, hE⟩, -, hW2, e2, q⟩ := hq
  rw [State.frames_setTop' g h.top] at hend
  have hft : t.frames = .throwing x :: .java g :: U.frames.tail := hend
  have hW' : U.WarmedH t.vm := hW2
  obtain ⟨g₀, hfe⟩ := X.frames_eq
  have e3 : t = ({ (U.calling g mk a).setFrames t.frames with heap := t.heap, slotsUsed := t.slotsUsed } : State).setVm t.vm := by
    have e4 : t = ({ t with vm := (U.calling g mk a).vm } : State).setVm t.vm := rfl
    exact e4.trans (congrArg (fun q : State => q.setVm t.vm) e2)
  have ht : t = ((thrU U t).setTop g).pushFrame (.throwing x) := by
    have hr' : (thrU U t).frames = .java g₀ :: below := hfe
    refine e3.trans ?_
    rw [hft, State.calling_eq h.top, State.setFrames_setFrames, State.pushFrame, State.frames_setTop _ hr', State.setTop_of_frames _ hr', State.setFrames_setFrames, hfe]
    rfl
  have hsame : U.sameButNew ({ U with heap := t.heap, slotsUsed := t.slotsUsed } : State) [] 1 6 := by
    refine ⟨?_, q⟩
    obtain ⟨th, hth, -⟩ := State.frames_cons hfe
    show ({ U with heap := t.heap, slotsUsed := t.slotsUsed } : State) = { U.setFrames U.frames with heap := t.heap, slotsUsed := t.slotsUsed }
    rw [State.setFrames_self hth]
  have hX : Stand p l e R s g.method args below meth c (thrU U t) (locs ++ []) (cells + 1) (slots + 6) :=
    ⟨X.admits, X.cas, X.clock, X.frames, X.room, X.hears, X.method, X.code, (h.setHeapUsed t.heap t.slotsUsed).setVm hW'.alike, X.tail, State.WarmedH.trans X.warmed hW', X.limits, X.bytes, X.same.trans (hsame.setVm s.vm)⟩
  rw [List.append_nil] at hX
  exact ⟨x, t, hE, hX, by rw [← ht]; exact hsteps⟩
/-- the one handler takes what was thrown, by its class's name; the link to that class may still be cold -/
theorem pw_catch (X : Stand p l e R s m args below meth c U locs cells slots) (hg : g.method = m) {x : Addr} {ce : Cell} (hce : U.heap[x]? = some ce) (hobj : ce.vm = .none) {en : ExceptionTableEntry} (hex : c.exceptionTable.toList = [en]) (hcov : covers en g.pc = true) (h0 : en.catchType ≠ 0)
    {own name : String} (hown : s.vm.findClass own = some m.cls) (hlink : (Cond.classLink own en.catchType name).before args s = true) (hcl : s.vm.findClass name = some ce.cls) (hself : s.vm.assignable ce.cls ce.cls = true) :
    ∃ vm', Stand p l e R s m args below meth c (U.setVm vm') locs cells slots ∧ ∀ target, Steps p.tables e below ((U.setVm vm').setTop { g with pc := en.handlerPc, stack := [.ref x] }) target → Steps p.tables e below ((U.setTop g).pushFrame (.throwing x)) target := by
  subst hg
  obtain ⟨c', hc', hL⟩ := Cond.classLink_spec hown hlink e.platform (by rw [X.admits.platform])
  cases hcl.symm.trans hc'
  obtain ⟨dk, _, _, kt, hd, _, _, _, _, hkt, _, hopen⟩ := hL.here
  have hWn := X.warmed.noted hd hopen (State.rightAt_cls hL)
  have hal : s.vm.Alike (U.vm.noted g.method.cls en.catchType (.cls ce.cls)) := hWn.alike
  obtain ⟨kt', hkt', -⟩ := hal.2.2 _ _ hkt
  have has : (U.vm.noted g.method.cls en.catchType (.cls ce.cls)).assignable ce.cls ce.cls = true := by rw [hal.assignable]; exact hself
  have hns : ∀ k, ce.vm ≠ .statics k := fun k h => by rw [hobj] at h; cases h
  obtain ⟨f1, f2⟩ := (resolveClass_links e.toSetting (X.warmed.classLinks hL)).op (op := VmOp.resolveClass g.method.cls en.catchType) rfl
  have hcov' := hcov
  simp only [covers] at hcov'
  refine ⟨U.vm.noted g.method.cls en.catchType (.cls ce.cls), X.noted hWn, fun target hrest => ?_⟩
  obtain ⟨hgo, hw⟩ := X.here.throwing (g := g) x
  refine Steps.head hgo hw ?_
  have hstep : (stepThrowing e ((U.setTop g).pushFrame (.throwing x)) x (.java g :: U.frames.tail)).Is ((((U.setTop g).pushFrame (.throwing x)).setVm (U.vm.noted g.method.cls en.catchType (.cls ce.cls))).setFrames (.java { g with pc := en.handlerPc, stack := [.ref x] } :: U.frames.tail)) [] := by
    simp only [stepThrowing, searchFrame, vmDo]
    generalize hr : Sem.go _ e false [] ((U.setTop g).pushFrame (.throwing x)) = res
    obtain ⟨as, rfl, ha⟩ := Sem.eq_ok_of hr (a := Handler.found en.handlerPc) (s' := ((U.setTop g).pushFrame (.throwing x)).setVm (U.vm.noted g.method.cls en.catchType (.cls ce.cls))) (acts' := []) (by
      have hm' : ((U.setTop g).pushFrame (.throwing x)).vm.method? g.method = some meth := X.method'
      have hv' : ((U.setTop g).pushFrame (.throwing x)).vm = U.vm := rfl
      have hh' : ((U.setTop g).pushFrame (.throwing x)).heap[x]? = some ce := hce
      have key : ∀ (Q : Handler → Pre) (E : CtlPost) (d : Bool) (acts : List Action), wp (findHandler g x) Q E e d acts ((U.setTop g).pushFrame (.throwing x)) ↔ Q (.found en.handlerPc) d acts (((U.setTop g).pushFrame (.throwing x)).setVm (U.vm.noted g.method.cls en.catchType (.cls ce.cls))) := by
        intro Q E d acts
        rw [W.findHandler_eq hm' X.code, hex]
        simp [findHandler.go, hcov', h0, f1, f2, hh', hv', hns, hkt', has, VmOp.dirties, VmOp.acts]
      simp [key])
    exact ⟨rfl, ha⟩
  rw [stepThread_throwing (frames_entered X.here.top _), hstep.1]
  obtain ⟨g₀, hfe⟩ := X.frames_eq
  have hr' : (U.setVm (U.vm.noted g.method.cls en.catchType (.cls ce.cls))).frames = .java g₀ :: below := hfe
  rw [State.setTop_of_frames _ hr'] at hrest
  have e1 : ((U.setTop g).pushFrame (.throwing x)).setVm (U.vm.noted g.method.cls en.catchType (.cls ce.cls)) = ((U.setVm (U.vm.noted g.method.cls en.catchType (.cls ce.cls))).setFrames (.throwing x :: .java g :: below)) := by
    rw [State.pushFrame, State.frames_setTop _ hfe, State.setTop_of_frames _ hfe, State.setFrames_setFrames]; rfl
  rw [e1, State.setFrames_setFrames, hfe, List.tail_cons]
  exact hrest
end TB

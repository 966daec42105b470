/-! calls, with the words of WA -/
theorem gW : GoodIn WA WA := fun _ h => ⟨h, WA_g h⟩
theorem gC {a : Cond} (h : a ∈ WA) : GoodIn WA (a :: WA) := fun w hw => (List.mem_cons.mp hw).elim (fun e => by rw [e]; exact ⟨h, WA_g h⟩) (gW w)
section CW
variable {R : Room} {s : State} {args : Array Value} {own C host : String} {index maxL mc ms : Nat} {y : MethodName} {bytes : ByteArray} {ret : Option FieldType} {rm : Room}
theorem cw_V (n : Nat) (hw : ∀ w ∈ WA, w.before args s = true) (k1 : Cond.methodLink own index y ∈ WA) (k2 : Cond.instanceMethod y ∈ WA) (k3 : Cond.selects C y y ∈ WA) (k4 : Cond.initialized C ∈ WA) (kc : Cond.code y bytes maxL ret ∈ WA) (hrc : rm.cells = mc) (hrs : rm.slots = ms)
    (hd : y.cls = C ∧ y.cls ≠ "java/lang/invoke/MethodHandle" ∧ y.cls ≠ "java/lang/invoke/VarHandle" ∧ (parseMethodDescriptor y.desc).map (fun d => d.parameters.length) = some n) (hR : rm.frames + 1 ≤ R.frames ∧ 8 + (maxL + 11) + rm.locals ≤ R.locals) :
    CallW R s args own C index y bytes maxL ret (Cond.code y bytes maxL ret :: WA) rm mc ms n := by
  refine cwV n hw (fun w h => ?_) rfl hrc hrs hd hR
  unfold wsV at h
  rcases List.mem_append.mp h with h | h
  · simp only [List.mem_cons, List.not_mem_nil, or_false] at h
    rcases h with rfl | rfl | rfl | rfl
    · exact gW _ k1
    · exact gW _ k2
    · exact gW _ k3
    · exact gW _ k4
  · exact gC kc w h
theorem cw_S (n : Nat) (hw : ∀ w ∈ WA, w.before args s = true) (k1 : Cond.methodLink own index y ∈ WA) (k2 : Cond.static y ∈ WA) (k4 : Cond.initialized own ∈ WA) (kc : Cond.code y bytes maxL ret ∈ WA) (hrc : rm.cells = mc) (hrs : rm.slots = ms)
    (hd : y.cls = own ∧ y.cls ≠ "java/lang/invoke/MethodHandle" ∧ y.cls ≠ "java/lang/invoke/VarHandle" ∧ (parseMethodDescriptor y.desc).map (fun d => d.parameters.length) = some n) (hR : rm.frames + 1 ≤ R.frames ∧ 8 + (maxL + 11) + rm.locals ≤ R.locals) :
    CallB R s args own index y bytes maxL ret (Cond.code y bytes maxL ret :: WA) rm mc ms n ∧ (Cond.static y).before args s = true := by
  refine cwS n hw (fun w h => ?_) rfl hrc hrs hd hR
  unfold wsS at h
  rcases List.mem_append.mp h with h | h
  · simp only [List.mem_cons, List.not_mem_nil, or_false] at h
    rcases h with rfl | rfl | rfl
    · exact gW _ k1
    · exact gW _ k2
    · exact gW _ k4
  · exact gC kc w h
theorem cw_I (n : Nat) (hw : ∀ w ∈ WA, w.before args s = true) (k1 : Cond.methodLink own index y ∈ WA) (k2 : Cond.instanceMethod y ∈ WA) (k4 : Cond.initialized y.cls ∈ WA) (kc : Cond.code y bytes maxL none ∈ WA) (hrc : rm.cells = mc) (hrs : rm.slots = ms) (hy1 : y.name = "<init>")
    (hd : y.cls ≠ "java/lang/invoke/MethodHandle" ∧ y.cls ≠ "java/lang/invoke/VarHandle" ∧ (parseMethodDescriptor y.desc).map (fun d => d.parameters.length) = some n) (hR : rm.frames + 1 ≤ R.frames ∧ 8 + (maxL + 11) + rm.locals ≤ R.locals) :
    CallB R s args own index y bytes maxL none (Cond.code y bytes maxL none :: WA) rm mc ms n ∧ y.name = "<init>" ∧ (Cond.instanceMethod y).before args s = true :=
  cwI n hw (gC kc) rfl hrc hrs (hw _ k4) (hw _ k1) (hw _ k2) hy1 hd hR
theorem cw_SN (n : Nat) (hw : ∀ w ∈ WA, w.before args s = true) (k1 : va_Nw (.methodLinkNest own index y host) s) (k2 : Cond.static y ∈ WA) (k4 : Cond.initialized y.cls ∈ WA) (kc : Cond.code y bytes maxL ret ∈ WA) (hrc : rm.cells = mc) (hrs : rm.slots = ms)
    (hd : y.cls ≠ "java/lang/invoke/MethodHandle" ∧ y.cls ≠ "java/lang/invoke/VarHandle" ∧ (parseMethodDescriptor y.desc).map (fun d => d.parameters.length) = some n) (hR : rm.frames + 1 ≤ R.frames ∧ 8 + (maxL + 11) + rm.locals ≤ R.locals) :
    va_CN R s args own index y host bytes maxL ret (Cond.code y bytes maxL ret :: WA) rm mc ms n ∧ (Cond.static y).before args s = true ∧ True :=
  ⟨va_cnB n hw (gC kc) rfl hrc hrs k1 (hw _ k4) hd hR, hw _ k2, trivial⟩
theorem cw_IN (n : Nat) (hw : ∀ w ∈ WA, w.before args s = true) (k1 : va_Nw (.methodLinkNest own index y host) s) (k2 : Cond.instanceMethod y ∈ WA) (k4 : Cond.initialized y.cls ∈ WA) (kc : Cond.code y bytes maxL none ∈ WA) (hrc : rm.cells = mc) (hrs : rm.slots = ms) (hy1 : y.name = "<init>")
    (hd : y.cls ≠ "java/lang/invoke/MethodHandle" ∧ y.cls ≠ "java/lang/invoke/VarHandle" ∧ (parseMethodDescriptor y.desc).map (fun d => d.parameters.length) = some n) (hR : rm.frames + 1 ≤ R.frames ∧ 8 + (maxL + 11) + rm.locals ≤ R.locals) :
    va_CN R s args own index y host bytes maxL none (Cond.code y bytes maxL none :: WA) rm mc ms n ∧ y.name = "<init>" ∧ (Cond.instanceMethod y).before args s = true :=
  ⟨va_cnB n hw (gC kc) rfl hrc hrs k1 (hw _ k4) hd hR, hy1, hw _ k2⟩
end CW
/-- the array classes -/
abbrev TY (cs : Nat → ClassId) : List (ClassId × FieldType) := [(cs 0, .int), (cs 1, .boolean), (cs 2, .object "IssueRows$Rule"), (cs 3, .object "IssueRows$Issue"), (cs 4, .long)]
section PX
variable {p : Program} {l : Launch} {e : Env} {R : Room} {s : State} {m : MethodId} {args : Array Value} {below : List Frame} {meth : Method} {c : Code} {H : Heap} {locs : List Loc} {cells slots : Nat} {Q : State → Prop}
variable {cc : ByteArray} {pc : Nat} {ls : Array Slot} {rest : List Value} {D : va_G} {cl : List vw_C} {A : Nat → Prop} {tys : List (ClassId × FieldType)} {H0 : Heap} {N : Nat} {bk : Nat → Nat} {cw : Nat → va_E}
theorem pw_ialdC (hexec : p.tables.exec = Jvm.exec) (hb : c.code = cc) (hK : va_K D cl tys s) (hP : va_P D cl (wl N bk cw) H) (t0 : Nat) (k : Nat) (hk : k < N) {cA : ClassId} {n : Nat} {f : Nat → Int32} (he : cw k = .inl (cA, n, .inl f)) (ht : tys[t0]? = some (cA, .int)) {i : Int32} (hi : vp_in i n) (hdg : decode cc pc = .ok (.iaload, 1))
    (kk : W p l e R s m args below meth c H locs cells slots Q (F0 m (pc + 1) ls (.int (f i.toNatClampNeg) :: rest))) : W p l e R s m args below meth c H locs cells slots Q (F0 m pc ls (.int i :: .ref (bk k) :: rest)) :=
  va_iald hexec hb hK hP k t0 (wl_at hk he) ht hi hdg kk
theorem pw_iastC (hexec : p.tables.exec = Jvm.exec) (hb : c.code = cc) (hK : va_K D cl tys s) (hP : va_P D cl (wl N bk cw) H) (hD : va_D A (wl N bk cw)) (hS : va_S A H0 H locs) (t0 : Nat) (k : Nat) (hk : k < N) {cA : ClassId} {n : Nat} {f : Nat → Int32} (he : cw k = .inl (cA, n, .inl f)) (ht : tys[t0]? = some (cA, .int)) {i x : Int32} (hi : vp_in i n) (hdg : decode cc pc = .ok (.iastore, 1))
    (kk : ∀ (cw1 : Nat → va_E) (H1 : Heap) (locs1 : List Loc), cw1 = va_up cw k (.inl (cA, n, .inl (upd f i.toNatClampNeg x))) → va_P D cl (wl N bk cw1) H1 → va_D A (wl N bk cw1) → va_S A H0 H1 locs1 → W p l e R s m args below meth c H1 locs1 cells slots Q (F0 m (pc + 1) ls rest)) : W p l e R s m args below meth c H locs cells slots Q (F0 m pc ls (.int x :: .int i :: .ref (bk k) :: rest)) := by
  refine va_iast hexec hb hK hP hD hS k t0 (wl_at hk he) ht hi hdg (fun H1 locs1 hP hD hS => ?_)
  rw [wl_set] at hP hD
  exact kk _ H1 locs1 rfl hP hD hS
end PX
theorem T0 : (0 : Int32).toInt = 0 := by decide
theorem T1 : (1 : Int32).toInt = 1 := by decide
theorem T2 : (2 : Int32).toInt = 2 := by decide
theorem T3 : (3 : Int32).toInt = 3 := by decide
theorem T4 : (4 : Int32).toInt = 4 := by decide
theorem T5 : (5 : Int32).toInt = 5 := by decide
theorem T6 : (6 : Int32).toInt = 6 := by decide
theorem T7 : (7 : Int32).toInt = 7 := by decide
theorem T8 : (8 : Int32).toInt = 8 := by decide
theorem T9 : (9 : Int32).toInt = 9 := by decide
theorem T10 : (10 : Int32).toInt = 10 := by decide
theorem T20 : (20 : Int32).toInt = 20 := by decide
theorem T30 : (30 : Int32).toInt = 30 := by decide
theorem T39 : (39 : Int32).toInt = 39 := by decide
theorem T40 : (40 : Int32).toInt = 40 := by decide
theorem T41 : (41 : Int32).toInt = 41 := by decide
theorem T50 : (50 : Int32).toInt = 50 := by decide
theorem T99 : (99 : Int32).toInt = 99 := by decide
theorem T100 : (100 : Int32).toInt = 100 := by decide
theorem T199 : (199 : Int32).toInt = 199 := by decide
theorem T200 : (200 : Int32).toInt = 200 := by decide
theorem T999 : (999 : Int32).toInt = 999 := by decide
theorem T1000 : (1000 : Int32).toInt = 1000 := by decide
theorem T9999 : (9999 : Int32).toInt = 9999 := by decide
theorem T1000000 : (1000000 : Int32).toInt = 1000000 := by decide
theorem T10000000 : (10000000 : Int32).toInt = 10000000 := by decide
theorem T1000000000 : (1000000000 : Int32).toInt = 1000000000 := by decide
theorem Tm1 : (-1 : Int32).toInt = -1 := by decide

/-! MY WORLDS: N cells in a row, cell k at the address bk k, holding cw k. A write is a change of cw at a number, a new cell is the number N. -/
def wl (N : Nat) (bk : Nat → Nat) (cw : Nat → va_E) : va_W := (List.range N).map (fun k => (bk k, cw k))
theorem wl_len {N : Nat} {bk : Nat → Nat} {cw : Nat → va_E} : (wl N bk cw).length = N := by simp [wl]
theorem wl_get {N : Nat} {bk : Nat → Nat} {cw : Nat → va_E} {k : Nat} (hk : k < N) : (wl N bk cw)[k]? = some (bk k, cw k) := by
  simp [wl, hk]
theorem wl_at {N : Nat} {bk : Nat → Nat} {cw : Nat → va_E} {k : Nat} {e : va_E} (hk : k < N) (he : cw k = e) : (wl N bk cw)[k]? = some (bk k, e) := by
  subst he; exact wl_get hk
theorem wl_none {N : Nat} {bk : Nat → Nat} {cw : Nat → va_E} {k : Nat} (hk : ¬ k < N) : (wl N bk cw)[k]? = none := by
  rw [List.getElem?_eq_none_iff, wl_len]; omega
theorem wl_of {N : Nat} {bk : Nat → Nat} {cw : Nat → va_E} {k : Nat} {q : Nat × va_E} (h : (wl N bk cw)[k]? = some q) : k < N ∧ q = (bk k, cw k) := by
  by_cases hk : k < N
  · rw [wl_get hk] at h; exact ⟨hk, (Option.some.inj h).symm⟩
  · rw [wl_none hk] at h; cases h
theorem wl_set {N : Nat} {bk : Nat → Nat} {cw : Nat → va_E} {k : Nat} {e : va_E} : (wl N bk cw).set k (bk k, e) = wl N bk (va_up cw k e) := by
  apply List.ext_getElem?
  intro j
  by_cases hj : j < N
  · by_cases hjk : j = k
    · subst hjk
      rw [List.getElem?_set_self (by rw [wl_len]; exact hj), wl_get hj, va_up_self]
    · rw [List.getElem?_set_ne (Ne.symm hjk), wl_get hj, wl_get hj, va_up_ne _ _ hjk]
  · rw [wl_none hj, List.getElem?_eq_none_iff, List.length_set, wl_len]; omega
theorem wl_push {N : Nat} {bk : Nat → Nat} {cw : Nat → va_E} {q : Nat} {e : va_E} : wl N bk cw ++ [(q, e)] = wl (N + 1) (va_up bk N q) (va_up cw N e) := by
  apply List.ext_getElem?
  intro j
  by_cases hj : j < N
  · rw [List.getElem?_append_left (by rw [wl_len]; exact hj), wl_get hj, wl_get (by omega), va_up_ne _ _ (by omega), va_up_ne _ _ (by omega)]
  · rw [List.getElem?_append_right (by rw [wl_len]; omega), wl_len]
    by_cases hj2 : j = N
    · subst hj2
      rw [wl_get (by omega), va_up_self, va_up_self, Nat.sub_self]; rfl
    · rw [wl_none (by omega), List.getElem?_eq_none_iff]
      simp; omega
theorem wl_congr {N : Nat} {bk bk' : Nat → Nat} {cw cw' : Nat → va_E} (hb : ∀ k, k < N → bk k = bk' k) (hc : ∀ k, k < N → cw k = cw' k) : wl N bk cw = wl N bk' cw' := by
  apply List.ext_getElem?
  intro j
  by_cases hj : j < N
  · rw [wl_get hj, wl_get hj, hb j hj, hc j hj]
  · rw [wl_none hj, wl_none hj]
/-- the addresses of a world, and those that come from sz on -/
def AA (N : Nat) (bk : Nat → Nat) (sz : Nat) : Nat → Prop := fun q => (∃ k, k < N ∧ bk k = q) ∨ sz ≤ q
theorem AA_hi {N : Nat} {bk : Nat → Nat} {sz : Nat} : ∀ q : Nat, sz ≤ q → AA N bk sz q := fun _ h => Or.inr h
/-- what holds at a method's start -/
def PB (D : va_G) (cl : List vw_C) (tys : List (ClassId × FieldType)) (N : Nat) (bk : Nat → Nat) (cw : Nat → va_E) (sz : Nat) (U : State) : Prop :=
  U.heap.size = sz ∧ va_P D cl (wl N bk cw) U.heap ∧ va_K D cl tys U ∧ va_D (fun _ => True) (wl N bk cw) ∧ NN U
abbrev Wt : Type := Nat × (Nat → Nat) × (Nat → va_E)
/-- the world behind a method -/
def Wd (D : va_G) (cl : List vw_C) (tys : List (ClassId × FieldType)) (A : Nat → Prop) (u : Wt) (t : State) : Prop :=
  va_P D cl (wl u.1 u.2.1 u.2.2) t.heap ∧ va_K D cl tys t ∧ va_D A (wl u.1 u.2.1 u.2.2)
theorem wl_self {N : Nat} {bk : Nat → Nat} {cw : Nat → va_E} {A : Nat → Prop} {sz : Nat} (h : va_D A (wl N bk cw)) : va_D (AA N bk sz) (wl N bk cw) :=
  h.weaken (fun k q hk _ => by obtain ⟨h1, h2⟩ := wl_of hk; exact Or.inl ⟨k, h1, by rw [h2]⟩)
theorem wl_free {A0 : Nat → Prop} {N : Nat} {bk : Nat → Nat} {cw : Nat → va_E} {H0 H : Heap} {locs : List Loc} (hD : va_D A0 (wl N bk cw)) (hS : va_S A0 H0 H locs) (hA : ∀ q, H0.size ≤ q → A0 q) : ∀ q, AA N bk H.size q → A0 q := by
  intro q h
  rcases h with ⟨k, hk, rfl⟩ | h
  · exact hD.2 k _ (wl_get hk)
  · exact hA q (Nat.le_trans hS.1 h)
theorem PB_blind {D : va_G} {cl : List vw_C} {tys : List (ClassId × FieldType)} {N : Nat} {bk : Nat → Nat} {cw : Nat → va_E} {sz : Nat} {av : List Value} : FrameBlind (va_Pc av (PB D cl tys N bk cw sz)) := by
  intro a U g mk q
  obtain ⟨q0, q1, qP, qK, qD, qN⟩ := q
  exact ⟨q0, q1, qP, va_K.moved (u := U) (U := U.calling g mk a) (Vm.Alike.refl U.vm) qK, qD, NN.same (u := U) (U := U.calling g mk a) rfl qN⟩
theorem pw_preV {s : State} {H : Heap} {D : va_G} {cl : List vw_C} {tys : List (ClassId × FieldType)} {N : Nat} {bk : Nat → Nat} {cw : Nat → va_E} {A : Nat → Prop} {ci : Nat} {r : vw_C} {fs As : List Value} (hN : NN s) (hK : va_K D cl tys s) (hP : va_P D cl (wl N bk cw) H) (hD : va_D A (wl N bk cw)) (k : Nat) (hk : k < N) (hek : cw k = .inr (ci, fs)) (hc : cl[ci]? = some r) :
    PreV s H r.1 (bk k) (va_Pc (.ref (bk k) :: As) (PB D cl tys N bk cw H.size)) As :=
  ⟨PB_blind, va_recv hK hP hc (wl_at hk hek), fun U hU hW => ⟨rfl, by rw [hU], by rw [hU]; exact hP, va_K.moved hW.alike hK, hD.weaken (fun _ _ _ _ => trivial), hN.warm hW⟩⟩
theorem pw_preS {s : State} {H : Heap} {D : va_G} {cl : List vw_C} {tys : List (ClassId × FieldType)} {N : Nat} {bk : Nat → Nat} {cw : Nat → va_E} {A : Nat → Prop} {As : List Value} (hN : NN s) (hK : va_K D cl tys s) (hP : va_P D cl (wl N bk cw) H) (hD : va_D A (wl N bk cw)) :
    PreS s H (va_Pc As (PB D cl tys N bk cw H.size)) As :=
  ⟨PB_blind, fun U hU hW => ⟨rfl, by rw [hU], by rw [hU]; exact hP, va_K.moved hW.alike hK, hD.weaken (fun _ _ _ _ => trivial), hN.warm hW⟩⟩
/-- a method's start: names for what its body has -/
theorem pw_entry {l : Launch} {y : MethodName} {ws ws' : List Cond} {rm : Room} {Qc : Array Value → State → Outcome → State → Prop} {mc ms : Nat} {free : Addr → Prop} {cc : ByteArray} {maxL : Nat} {ret : Option FieldType} {D : va_G} {cl : List vw_C} {tys : List (ClassId × FieldType)} {N : Nat} {bk : Nat → Nat} {cw : Nat → va_E} {sz : Nat} {av : List Value}
    (hy : plainName y.cls = true) (hw : ws = Cond.code y cc maxL ret :: ws') (hn : (lg_sl av).length ≤ maxL)
    (body : ∀ (p : Program) (e : Env) (s : State) (m : MethodId) (below : List Frame) (meth : Method) (c : Code) (ls : Array Slot), p.tables.exec = Jvm.exec → c.code = cc → meth.sig.returnType = ret → c.maxLocals = maxL → (∀ w ∈ ws, w.before av.toArray s = true) → s.vm.findClass y.cls = some m.cls → meth.locks = false → meth.name = y.name → s.heap.size = sz →
      va_P D cl (wl N bk cw) s.heap → va_K D cl tys s → va_D (AA N bk sz) (wl N bk cw) → va_S (AA N bk sz) s.heap s.heap [] → (∀ q, s.heap.size ≤ q → AA N bk sz q) → NN s → lv_has ls maxL (lv_args 0 av) →
      W p l e rm s m av.toArray below meth c s.heap [] 0 0 (MQ below Qc av.toArray s mc ms free) (F0 m 0 ls [])) :
    Met l y ws rm (va_Pc av (PB D cl tys N bk cw sz)) Qc mc ms free := by
  refine Met.ofW (cc := cc) (maxL := maxL) (ret := ret) hy hw ?_
  intro p e s m args below meth c s₁ B hml hv
  obtain ⟨rfl, hsz, hP, hK, hD0, hN⟩ := hv
  have hl := lv_entry av (n := maxL) hn
  rw [lg_entry_eq]
  exact body p e s m below meth c _ B.exec B.bytes B.returns hml (atoms_spec (ws := ws) B.pre) (findClass_of_methodNamed B.named) B.notSynchronized (name_of_methodNamed B.named B.method).1 hsz hP hK (wl_self hD0) va_S.rf (fun q h => Or.inr (by rw [← hsz]; exact h)) hN hl
section PW
variable {p : Program} {l : Launch} {e : Env} {R : Room} {s : State} {m : MethodId} {args : Array Value} {below : List Frame} {meth : Method} {c : Code} {H : Heap} {locs : List Loc} {cells slots : Nat} {Q : State → Prop}
variable {pc : Nat} {ls : Array Slot} {rest st0 : List Value} {a : Array Value} {A0 : Nat → Prop} {H0 : Heap} {mc ms : Nat} {D : va_G} {cl : List vw_C} {tys : List (ClassId × FieldType)} {N : Nat} {bk : Nat → Nat}
theorem pw_calli {post : Int32 → Wt → Prop} (hr : va_Run p l e R s m args below meth c H locs cells slots mc ms (F0 m pc ls st0) rest (va_Qi post (Wd D cl tys (AA N bk H.size)) (AA N bk H.size) a) (AA N bk H.size)) (hS : va_S A0 H0 H locs) (hF : ∀ q, AA N bk H.size q → A0 q)
    (kk : ∀ (r : Int32) (N1 : Nat) (bk1 : Nat → Nat) (cw1 : Nat → va_E) (H1 : Heap) (locs1 : List Loc), post r (N1, bk1, cw1) → va_P D cl (wl N1 bk1 cw1) H1 → va_D A0 (wl N1 bk1 cw1) → va_S A0 H0 H1 locs1 → W p l e R s m args below meth c H1 locs1 (cells + mc) (slots + ms) Q (F0 m (pc + 3) ls (.int r :: rest))) : W p l e R s m args below meth c H locs cells slots Q (F0 m pc ls st0) := by
  refine va_calli hr hS (fun q _ h => hF q h) hF (fun r u t H1 locs1 ht hvm hw hB hz1 hk1 hS1 => ?_)
  obtain ⟨N1, bk1, cw1⟩ := u
  obtain ⟨hP1, hK1, hD1⟩ := hB
  exact kk r N1 bk1 cw1 H1 locs1 hw (by rw [← ht]; exact hP1) (hD1.weaken (fun _ q _ h => hF q.1 h)) hS1
theorem pw_callv {post : Wt → Prop} (hr : va_Run p l e R s m args below meth c H locs cells slots mc ms (F0 m pc ls st0) rest (va_Qv post (Wd D cl tys (AA N bk H.size)) (AA N bk H.size) a) (AA N bk H.size)) (hS : va_S A0 H0 H locs) (hF : ∀ q, AA N bk H.size q → A0 q)
    (kk : ∀ (N1 : Nat) (bk1 : Nat → Nat) (cw1 : Nat → va_E) (H1 : Heap) (locs1 : List Loc), post (N1, bk1, cw1) → va_P D cl (wl N1 bk1 cw1) H1 → va_D A0 (wl N1 bk1 cw1) → va_S A0 H0 H1 locs1 → W p l e R s m args below meth c H1 locs1 (cells + mc) (slots + ms) Q (F0 m (pc + 3) ls rest)) : W p l e R s m args below meth c H locs cells slots Q (F0 m pc ls st0) := by
  refine va_callv hr hS (fun q _ h => hF q h) hF (fun u t H1 locs1 ht hvm hw hB hz1 hk1 hS1 => ?_)
  obtain ⟨N1, bk1, cw1⟩ := u
  obtain ⟨hP1, hK1, hD1⟩ := hB
  exact kk N1 bk1 cw1 H1 locs1 hw (by rw [← ht]; exact hP1) (hD1.weaken (fun _ q _ h => hF q.1 h)) hS1
end PW
section PR
variable {p : Program} {l : Launch} {e : Env} {R : Room} {s : State} {m : MethodId} {args : Array Value} {below : List Frame} {meth : Method} {c : Code} {H : Heap} {locs : List Loc} {cells slots : Nat} {Q : State → Prop}
variable {cc : ByteArray} {pc : Nat} {ls : Array Slot} {rest : List Value} {D : va_G} {cl : List vw_C} {A : Nat → Prop} {tys : List (ClassId × FieldType)} {H0 : Heap} {N : Nat} {bk : Nat → Nat} {cw : Nat → va_E}
theorem pw_get (hexec : p.tables.exec = Jvm.exec) (hb : c.code = cc) {own C : String} {T : u_T} {NF ci index : Nat} {Ts : List Cond} (hts : ∀ w ∈ Ts, w.before args s = true) (hin : ∀ w ∈ u_ws C T NF, w ∈ Ts) (hown : s.vm.findClass own = some m.cls) (hK : va_K D cl tys s) (hP : va_P D cl (wl N bk cw) H) (k : Nat) (hk : k < N) {fs : List Value} (he : cw k = .inr (ci, fs)) (hc : cl[ci]? = some (C, T, NF)) (j : Nat) (hj : j < NF) (hlink : (Cond.fieldLink own index (T j).1 (T j).2.1 (T j).2.2.1).before args s = true) {v : Value} (hv : fs[j]? = some v) (hdg : decode cc pc = .ok (.getfield index, 3))
    (kk : W p l e R s m args below meth c H locs cells slots Q (F0 m (pc + 3) ls (v :: rest))) : W p l e R s m args below meth c H locs cells slots Q (F0 m pc ls (.ref (bk k) :: rest)) :=
  va_get hexec hb hts hin hown hK hP k (wl_at hk he) hc j hj hlink (fun _ h9 => h9) hv hdg kk
theorem pw_put (hexec : p.tables.exec = Jvm.exec) (hb : c.code = cc) {own C : String} {T : u_T} {NF ci index : Nat} {Ts : List Cond} (hts : ∀ w ∈ Ts, w.before args s = true) (hin : ∀ w ∈ u_ws C T NF, w ∈ Ts) (ty0 : Nat → FieldType) (hty : ∀ k, k < NF → parseFieldDescriptor (T k).2.2.1 = some (ty0 k)) (hnm : ∀ a, a < NF → ∀ b, b < NF → a ≠ b → (T a).2.1 ≠ (T b).2.1) (hown : s.vm.findClass own = some m.cls) (hK : va_K D cl tys s) (hP : va_P D cl (wl N bk cw) H) (hD : va_D A (wl N bk cw)) (hS0 : va_S A H0 H locs) (k : Nat) (hk : k < N) {fs fs' : List Value} (he : cw k = .inr (ci, fs)) (hc : cl[ci]? = some (C, T, NF)) (j : Nat) (hj : j < NF) (hlink : (Cond.fieldLink own index (T j).1 (T j).2.1 (T j).2.2.1).before args s = true) (hfin : (T j).2.2.2 = false) {ty : FieldType} {v : Value} (hd : parseFieldDescriptor (T j).2.2.1 = some ty) (hn : narrow ty v = v) (hfit : fits ty v = true) (hl : j < fs.length) (hfs : fs.set j v = fs') (hdg : decode cc pc = .ok (.putfield index, 3))
    (kk : ∀ (cw1 : Nat → va_E) (H1 : Heap) (locs1 : List Loc), cw1 = va_up cw k (.inr (ci, fs')) → va_P D cl (wl N bk cw1) H1 → va_D A (wl N bk cw1) → va_S A H0 H1 locs1 → W p l e R s m args below meth c H1 locs1 cells slots Q (F0 m (pc + 3) ls rest)) : W p l e R s m args below meth c H locs cells slots Q (F0 m pc ls (v :: .ref (bk k) :: rest)) :=
  va_put hexec hb hts hin ty0 hty hnm hown hK hP hD hS0 k (wl_at hk he) hc j hj hlink (fun _ h9 => h9) hfin hd hn hfit hl hdg (fun H1 locs1 hP hD hS => by
    rw [wl_set, hfs] at hP hD
    exact kk _ H1 locs1 rfl hP hD hS)
theorem pw_putF (hexec : p.tables.exec = Jvm.exec) (hb : c.code = cc) {own C : String} {T : u_T} {NF ci index : Nat} {Ts : List Cond} (hts : ∀ w ∈ Ts, w.before args s = true) (hin : ∀ w ∈ u_ws C T NF, w ∈ Ts) (ty0 : Nat → FieldType) (hty : ∀ k, k < NF → parseFieldDescriptor (T k).2.2.1 = some (ty0 k)) (hnm : ∀ a, a < NF → ∀ b, b < NF → a ≠ b → (T a).2.1 ≠ (T b).2.1) (hown : s.vm.findClass own = some m.cls) (hK : va_K D cl tys s) (hP : va_P D cl (wl N bk cw) H) (hD : va_D A (wl N bk cw)) (hS0 : va_S A H0 H locs) (k : Nat) (hk : k < N) {fs fs' : List Value} (he : cw k = .inr (ci, fs)) (hc : cl[ci]? = some (C, T, NF)) (j : Nat) (hj : j < NF) (hlink : (Cond.fieldLink own index (T j).1 (T j).2.1 (T j).2.2.1).before args s = true) (hfin : (T j).2.2.2 = true) (hin2 : meth.name = "<init>") (hdecl : (T j).1 = own) {ty : FieldType} {v : Value} (hd : parseFieldDescriptor (T j).2.2.1 = some ty) (hn : narrow ty v = v) (hfit : fits ty v = true) (hl : j < fs.length) (hfs : fs.set j v = fs') (hdg : decode cc pc = .ok (.putfield index, 3))
    (kk : ∀ (cw1 : Nat → va_E) (H1 : Heap) (locs1 : List Loc), cw1 = va_up cw k (.inr (ci, fs')) → va_P D cl (wl N bk cw1) H1 → va_D A (wl N bk cw1) → va_S A H0 H1 locs1 → W p l e R s m args below meth c H1 locs1 cells slots Q (F0 m (pc + 3) ls rest)) : W p l e R s m args below meth c H locs cells slots Q (F0 m pc ls (v :: .ref (bk k) :: rest)) :=
  va_putF hexec hb hts hin ty0 hty hnm hown hK hP hD hS0 k (wl_at hk he) hc j hj hlink (fun _ h9 => h9) hfin hin2 hdecl hd hn hfit hl hdg (fun H1 locs1 hP hD hS => by
    rw [wl_set, hfs] at hP hD
    exact kk _ H1 locs1 rfl hP hD hS)
theorem pw_iald (hexec : p.tables.exec = Jvm.exec) (hb : c.code = cc) (hK : va_K D cl tys s) (hP : va_P D cl (wl N bk cw) H) (t0 : Nat) (k : Nat) (hk : k < N) {cA : ClassId} {n : Nat} {f : Nat → Int32} (he : cw k = .inl (cA, n, .inl f)) (ht : tys[t0]? = some (cA, .int)) {i : Int32} (j : Nat) (hi : i = nI j) (hj : j < n) (hn : n < 2 ^ 31) (hdg : decode cc pc = .ok (.iaload, 1))
    (kk : W p l e R s m args below meth c H locs cells slots Q (F0 m (pc + 1) ls (.int (f j) :: rest))) : W p l e R s m args below meth c H locs cells slots Q (F0 m pc ls (.int i :: .ref (bk k) :: rest)) := by
  subst hi
  refine va_iald hexec hb hK hP k t0 (wl_at hk he) ht (vp_in_nI hj hn) hdg ?_
  rw [nI_clamp (by omega)]
  exact kk
theorem pw_iast (hexec : p.tables.exec = Jvm.exec) (hb : c.code = cc) (hK : va_K D cl tys s) (hP : va_P D cl (wl N bk cw) H) (hD : va_D A (wl N bk cw)) (hS : va_S A H0 H locs) (t0 : Nat) (k : Nat) (hk : k < N) {cA : ClassId} {n : Nat} {f : Nat → Int32} (he : cw k = .inl (cA, n, .inl f)) (ht : tys[t0]? = some (cA, .int)) {i x : Int32} (j : Nat) (hi : i = nI j) (hj : j < n) (hn : n < 2 ^ 31) (hdg : decode cc pc = .ok (.iastore, 1))
    (kk : ∀ (cw1 : Nat → va_E) (H1 : Heap) (locs1 : List Loc), cw1 = va_up cw k (.inl (cA, n, .inl (upd f j x))) → va_P D cl (wl N bk cw1) H1 → va_D A (wl N bk cw1) → va_S A H0 H1 locs1 → W p l e R s m args below meth c H1 locs1 cells slots Q (F0 m (pc + 1) ls rest)) : W p l e R s m args below meth c H locs cells slots Q (F0 m pc ls (.int x :: .int i :: .ref (bk k) :: rest)) := by
  subst hi
  refine va_iast hexec hb hK hP hD hS k t0 (wl_at hk he) ht (vp_in_nI hj hn) hdg (fun H1 locs1 hP hD hS => ?_)
  rw [wl_set, nI_clamp (by omega)] at hP hD
  exact kk _ H1 locs1 rfl hP hD hS
theorem pw_alen (hexec : p.tables.exec = Jvm.exec) (hb : c.code = cc) (hK : va_K D cl tys s) (hP : va_P D cl (wl N bk cw) H) (t0 : Nat) (k : Nat) (hk : k < N) {cA : ClassId} {x : vp_A} (he : cw k = .inl (cA, x)) {ty : FieldType} (ht : tys[t0]? = some (cA, ty)) (hdg : decode cc pc = .ok (.arraylength, 1))
    (kk : W p l e R s m args below meth c H locs cells slots Q (F0 m (pc + 1) ls (.int (nI x.1) :: rest))) : W p l e R s m args below meth c H locs cells slots Q (F0 m pc ls (.ref (bk k) :: rest)) :=
  va_alen hexec hb hK hP k t0 (wl_at hk he) ht rfl hdg kk
theorem pw_aldq (hexec : p.tables.exec = Jvm.exec) (hb : c.code = cc) (hK : va_K D cl tys s) (hP : va_P D cl (wl N bk cw) H) (t0 : Nat) (k : Nat) (hk : k < N) {cA : ClassId} {C : String} {n : Nat} {f : Nat → Option Nat} (he : cw k = .inl (cA, n, .inr (.inr (.inr (.inr f))))) (ht : tys[t0]? = some (cA, .object C)) {i : Int32} (j : Nat) (hi : i = nI j) (hj : j < n) (hn : n < 2 ^ 31) {r : Nat} (hr : f j = some r) (hdg : decode cc pc = .ok (.aaload, 1))
    (kk : W p l e R s m args below meth c H locs cells slots Q (F0 m (pc + 1) ls (.ref r :: rest))) : W p l e R s m args below meth c H locs cells slots Q (F0 m pc ls (.int i :: .ref (bk k) :: rest)) := by
  subst hi
  refine va_aldq hexec hb hK hP k t0 (wl_at hk he) ht (vp_in_nI hj hn) hdg ?_
  rw [nI_clamp (by omega), hr]
  exact kk
theorem pw_astq (hexec : p.tables.exec = Jvm.exec) (hb : c.code = cc) (hK : va_K D cl tys s) (hP : va_P D cl (wl N bk cw) H) (hD : va_D A (wl N bk cw)) (hS : va_S A H0 H locs) (t0 : Nat) (k : Nat) (hk : k < N) {cA : ClassId} {C : String} {T : u_T} {NF : Nat} {n : Nat} {f : Nat → Option Nat} (he : cw k = .inl (cA, n, .inr (.inr (.inr (.inr f))))) (ht : tys[t0]? = some (cA, .object C)) (kv : Nat) (hkv : kv < N) {ci : Nat} {vs : List Value} (hev : cw kv = .inr (ci, vs)) (hc : cl[ci]? = some (C, T, NF)) {i : Int32} (j : Nat) (hi : i = nI j) (hj : j < n) (hn : n < 2 ^ 31) (hdg : decode cc pc = .ok (.aastore, 1))
    (kk : ∀ (cw1 : Nat → va_E) (H1 : Heap) (locs1 : List Loc), cw1 = va_up cw k (.inl (cA, n, .inr (.inr (.inr (.inr (va_up f j (some (bk kv)))))))) → va_P D cl (wl N bk cw1) H1 → va_D A (wl N bk cw1) → va_S A H0 H1 locs1 → W p l e R s m args below meth c H1 locs1 cells slots Q (F0 m (pc + 1) ls rest)) : W p l e R s m args below meth c H locs cells slots Q (F0 m pc ls (.ref (bk kv) :: .int i :: .ref (bk k) :: rest)) := by
  subst hi
  refine va_astq hexec hb hK hP hD hS k t0 kv ci (r := (C, T, NF)) (wl_at hk he) ht (wl_at hkv hev) hc (vp_in_nI hj hn) hdg (fun H1 locs1 hP hD hS => ?_)
  rw [wl_set, nI_clamp (by omega)] at hP hD
  exact kk _ H1 locs1 rfl hP hD hS
theorem pw_new (hexec : p.tables.exec = Jvm.exec) (hb : c.code = cc) {own C : String} {T : u_T} {NF ci index : Nat} {Ts : List Cond} (hts : ∀ w ∈ Ts, w.before args s = true) (hin : ∀ w ∈ u_ws C T NF, w ∈ Ts) (ty : Nat → FieldType) (hty : ∀ k, k < NF → parseFieldDescriptor (T k).2.2.1 = some (ty k)) (hown : s.vm.findClass own = some m.cls) (hcl : (Cond.classLink own index C).before args s = true) (hinst : (Cond.instantiable C NF).before args s = true) (hini : (Cond.initialized C).before args s = true)
    (hK : va_K D cl tys s) (hP : va_P D cl (wl N bk cw) H) (hD : va_D A (wl N bk cw)) (hS : va_S A H0 H locs) (hA : ∀ q, H0.size ≤ q → A q) (hc : cl[ci]? = some (C, T, NF)) {fs : List Value} (hfs : ∀ j, j < NF → defaultValue (ty j) = vp_V fs j) (hcells : cells + 1 ≤ R.cells) (hslots : slots + NF ≤ R.slots) (hdg : decode cc pc = .ok (.new index, 3))
    (kk : ∀ (q : Nat) (H1 : Heap), va_P D cl (wl (N + 1) (va_up bk N q) (va_up cw N (.inr (ci, fs)))) H1 → va_D A (wl (N + 1) (va_up bk N q) (va_up cw N (.inr (ci, fs)))) → va_S A H0 H1 locs →
      W p l e R s m args below meth c H1 locs (cells + 1) (slots + NF) Q (F0 m (pc + 3) ls (.ref q :: rest))) : W p l e R s m args below meth c H locs cells slots Q (F0 m pc ls rest) :=
  va_new hexec hb hts hin ty hty hown hcl hinst hini hK hP hD hS hA hc hfs hcells hslots hdg (fun q H1 hP hD hS => by
    rw [wl_push] at hP hD
    exact kk q H1 hP hD hS)
end PR
section PS
variable {p : Program} {l : Launch} {e : Env} {R : Room} {s : State} {m : MethodId} {args : Array Value} {below : List Frame} {meth : Method} {c : Code} {H : Heap} {locs : List Loc} {cells slots : Nat} {Q : State → Prop}
variable {cc : ByteArray} {pc : Nat} {ls : Array Slot} {rest st0 : List Value} {D : va_G} {cl : List vw_C} {A : Nat → Prop} {tys : List (ClassId × FieldType)} {H0 : Heap} {N : Nat} {bk : Nat → Nat} {cw : Nat → va_E}
theorem pw_newa (hexec : p.tables.exec = Jvm.exec) (hb : c.code = cc) {atype : ArrayType} (harr : (Cond.arrayClass (newarray.typeOf atype)).before args s = true) (hty : newarray.typeOf atype = .int) (hK : va_K D cl tys s) (hP : va_P D cl (wl N bk cw) H) (hD : va_D A (wl N bk cw)) (hS : va_S A H0 H locs) (hA : ∀ q, H0.size ≤ q → A q) (t0 : Nat) {cA : ClassId} (ht : tys[t0]? = some (cA, .int))
    {i : Int32} (n : Nat) (hi : i = nI n) (hn : n < 2 ^ 27) (hcells : cells + 1 ≤ R.cells) (hslots : slots + n ≤ R.slots) (hdg : decode cc pc = .ok (.newarray atype, 2))
    (kk : ∀ (q : Nat) (H1 : Heap), va_P D cl (wl (N + 1) (va_up bk N q) (va_up cw N (.inl (cA, n, .inl (fun _ => 0))))) H1 → va_D A (wl (N + 1) (va_up bk N q) (va_up cw N (.inl (cA, n, .inl (fun _ => 0))))) → va_S A H0 H1 locs →
      W p l e R s m args below meth c H1 locs (cells + 1) (slots + n) Q (F0 m (pc + 2) ls (.ref q :: rest))) : W p l e R s m args below meth c H locs cells slots Q (F0 m pc ls (.int i :: rest)) := by
  subst hi
  refine va_newa hexec hb harr hty hK hP hD hS hA (a0 := (n, .inl (fun _ => 0))) (fun _ => rfl) (nI_pos (by omega)) (nI_clamp (by omega)) (by show n * 4 ≤ 536870912; omega) hcells hslots hdg (fun q cA' H1 hK' hP hD hS => ?_)
  have h1 := (hK.2 t0 _ ht).2
  have h2 := (hK'.2 tys.length (cA', .int) (by simp)).2
  have h3 : cA' = cA := Option.some.inj (h2.symm.trans h1)
  subst h3
  rw [wl_push] at hP hD
  exact kk q H1 hP hD hS
theorem pw_newq (hexec : p.tables.exec = Jvm.exec) (hb : c.code = cc) {own C : String} {index : Nat} (hown : s.vm.findClass own = some m.cls) (hclink : (Cond.classLink own index C).before args s = true) (hover : va_AO C s) (hK : va_K D cl tys s) (hP : va_P D cl (wl N bk cw) H) (hD : va_D A (wl N bk cw)) (hS : va_S A H0 H locs) (hA : ∀ q, H0.size ≤ q → A q) (t0 : Nat) {cA : ClassId} (ht : tys[t0]? = some (cA, .object C))
    {i : Int32} (n : Nat) (hi : i = nI n) (hn : n < 2 ^ 27) (hcells : cells + 1 ≤ R.cells) (hslots : slots + n ≤ R.slots) (hdg : decode cc pc = .ok (.anewarray index, 3))
    (kk : ∀ (q : Nat) (H1 : Heap), va_P D cl (wl (N + 1) (va_up bk N q) (va_up cw N (.inl (cA, n, .inr (.inr (.inr (.inr (fun _ => none)))))))) H1 → va_D A (wl (N + 1) (va_up bk N q) (va_up cw N (.inl (cA, n, .inr (.inr (.inr (.inr (fun _ => none)))))))) → va_S A H0 H1 locs →
      W p l e R s m args below meth c H1 locs (cells + 1) (slots + n) Q (F0 m (pc + 3) ls (.ref q :: rest))) : W p l e R s m args below meth c H locs cells slots Q (F0 m pc ls (.int i :: rest)) := by
  subst hi
  refine va_newq hexec hb hown hclink hover hK hP hD hS hA (nI_pos (by omega)) (nI_clamp (by omega)) (by omega) hcells hslots hdg (fun q cA' H1 hK' hP hD hS => ?_)
  obtain ⟨_, _, _, _, _, h1⟩ := (hK.2 t0 _ ht).2
  obtain ⟨_, _, _, _, _, h2⟩ := (hK'.2 tys.length (cA', .object C) (by simp)).2
  have h3 : cA' = cA := Option.some.inj (h2.symm.trans h1)
  subst h3
  rw [wl_push] at hP hD
  exact kk q H1 hP hD hS
theorem pw_callSi {post : Int32 → Prop} {a : Array Value} (hr : va_Run p l e R s m args below meth c H locs cells slots 0 0 (F0 m pc ls st0) rest (vp_Si post a) (fun _ => False))
    (kk : ∀ r : Int32, post r → W p l e R s m args below meth c H locs cells slots Q (F0 m (pc + 3) ls (.int r :: rest))) : W p l e R s m args below meth c H locs cells slots Q (F0 m pc ls st0) := vp_callSi hr.run kk
theorem pw_callSq {post : Option Nat → Prop} {a : Array Value} (hr : va_Run p l e R s m args below meth c H locs cells slots 0 0 (F0 m pc ls st0) rest (va_Sq post a) (fun _ => False))
    (kk : ∀ r : Option Nat, post r → W p l e R s m args below meth c H locs cells slots Q (F0 m (pc + 3) ls (va_rf r :: rest))) : W p l e R s m args below meth c H locs cells slots Q (F0 m pc ls st0) := va_csq hr.run kk
end PS
/-- a truth as an int -/
def bI (P : Prop) [Decidable P] : Int32 := if P then 1 else 0
theorem bI_t {P : Prop} [Decidable P] (h : P) : bI P = 1 := if_pos h
theorem bI_f {P : Prop} [Decidable P] (h : ¬ P) : bI P = 0 := if_neg h
theorem bI_0 {P : Prop} [Decidable P] : bI P = 0 ↔ ¬ P := by
  by_cases h : P
  · simp [bI, h]
  · simp [bI, h]
theorem bI_nar {P : Prop} [Decidable P] : narrow .boolean (.int (bI P)) = .int (bI P) := by
  by_cases h : P
  · rw [bI_t h]; rfl
  · rw [bI_f h]; rfl
theorem bI_c {P P' : Prop} [Decidable P] [Decidable P'] (h : P ↔ P') : bI P = bI P' := by
  by_cases q : P
  · rw [bI_t q, bI_t (h.mp q)]
  · rw [bI_f q, bI_f (fun z => q (h.mpr z))]
section PI
variable {p : Program} {l : Launch} {e : Env} {R : Room} {s : State} {m : MethodId} {args : Array Value} {below : List Frame} {meth : Method} {c : Code} {H : Heap} {locs : List Loc} {cells slots : Nat} {Q : State → Prop}
variable {cc : ByteArray} {pc : Nat} {ls : Array Slot} {rest : List Value}
theorem pw_ifeq (hexec : p.tables.exec = Jvm.exec) (hb : c.code = cc) {P : Prop} [Decidable P] {off : Int} {tgt : Nat} (hdg : decode cc pc = .ok (.ifCond .eq off, 3)) (ht : (pc : Int) + off = (tgt : Int))
    (kt : ¬ P → W p l e R s m args below meth c H locs cells slots Q (F0 m tgt ls rest)) (kf : P → W p l e R s m args below meth c H locs cells slots Q (F0 m (pc + 3) ls rest)) : W p l e R s m args below meth c H locs cells slots Q (F0 m pc ls (.int (bI P) :: rest)) :=
  lv_if_eq hexec hb hdg ht (fun h => kt (bI_0.mp h)) (fun h => kf (Classical.byContradiction fun q => h (bI_0.mpr q)))
theorem pw_ifne (hexec : p.tables.exec = Jvm.exec) (hb : c.code = cc) {P : Prop} [Decidable P] {off : Int} {tgt : Nat} (hdg : decode cc pc = .ok (.ifCond .ne off, 3)) (ht : (pc : Int) + off = (tgt : Int))
    (kt : P → W p l e R s m args below meth c H locs cells slots Q (F0 m tgt ls rest)) (kf : ¬ P → W p l e R s m args below meth c H locs cells slots Q (F0 m (pc + 3) ls rest)) : W p l e R s m args below meth c H locs cells slots Q (F0 m pc ls (.int (bI P) :: rest)) :=
  lv_if_ne hexec hb hdg ht (fun h => kt (Classical.byContradiction fun q => h (bI_0.mpr q))) (fun h => kf (bI_0.mp h))
end PI

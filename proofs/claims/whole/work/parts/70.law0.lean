/-! THE LAW: three worlds side by side (the class's, the reference's, the law's own array of longs), and a call in one of them. -/
theorem va_P_comm {D : va_G} {cl : List vw_C} {w1 w2 : va_W} {H : Heap} (h : va_P D cl (w1 ++ w2) H) : va_P D cl (w2 ++ w1) H := va_P.swap (a := []) h
theorem va_D_comm {A : Nat → Prop} {w1 w2 : va_W} (h : va_D A (w1 ++ w2)) : va_D A (w2 ++ w1) := va_D.swap (a := []) h
theorem ap_l {w1 w2 : va_W} {k : Nat} {q : Nat × va_E} (h : w1[k]? = some q) : (w1 ++ w2)[k]? = some q := by
  rw [List.getElem?_append_left (List.getElem?_eq_some_iff.mp h).1]; exact h
theorem ap_r {w1 w2 : va_W} {k : Nat} {q : Nat × va_E} (h : w2[k]? = some q) : (w1 ++ w2)[w1.length + k]? = some q := by
  rw [List.getElem?_append_right (by omega), show w1.length + k - w1.length = k by omega]; exact h
theorem va_P_l {D : va_G} {cl : List vw_C} {w1 w2 : va_W} {H : Heap} (h : va_P D cl (w1 ++ w2) H) : va_P D cl w1 H := fun k q hk => h k q (ap_l hk)
theorem va_P_r {D : va_G} {cl : List vw_C} {w1 w2 : va_W} {H : Heap} (h : va_P D cl (w1 ++ w2) H) : va_P D cl w2 H := fun k q hk => h _ q (ap_r hk)
theorem va_D_l {A : Nat → Prop} {w1 w2 : va_W} (h : va_D A (w1 ++ w2)) : va_D A w1 := ⟨fun i j x y hx hy => h.1 i j x y (ap_l hx) (ap_l hy), fun k x hk => h.2 k x (ap_l hk)⟩
theorem va_D_r {A : Nat → Prop} {w1 w2 : va_W} (h : va_D A (w1 ++ w2)) : va_D A w2 := ⟨fun i j x y hx hy e => by have := h.1 _ _ x y (ap_r hx) (ap_r hy) e; omega, fun k x hk => h.2 _ x (ap_r hk)⟩
theorem va_D_x {A : Nat → Prop} {w1 w2 : va_W} (h : va_D A (w1 ++ w2)) {i j : Nat} {x y : Nat × va_E} (hx : w1[i]? = some x) (hy : w2[j]? = some y) : x.1 ≠ y.1 := fun e => by
  have h1 := h.1 _ _ x y (ap_l hx) (ap_r hy) e
  have h2 := (List.getElem?_eq_some_iff.mp hx).1
  omega
/-- one world has changed, the others stand -/
theorem wl_frame {D : va_G} {cl : List vw_C} {N : Nat} {bk : Nat → Nat} {cw : Nat → va_E} {w1 w2 : va_W} {H H1 : Heap} {A : Nat → Prop} (hP : va_P D cl (wl N bk cw ++ w2) H) (hD : va_D A (wl N bk cw ++ w2)) (hk : ∀ q : Nat, q < H.size → ¬ AA N bk H.size q → H1[q]? = H[q]?) (hF : ∀ q, AA N bk H.size q → A q) (hP1 : va_P D cl w1 H1) (hD1 : va_D (AA N bk H.size) w1) : va_P D cl (w1 ++ w2) H1 ∧ va_D A (w1 ++ w2) := by
  have hP2 := va_P_r hP
  have out : ∀ (j : Nat) (y : Nat × va_E), w2[j]? = some y → y.1 < H.size ∧ ¬ AA N bk H.size y.1 := by
    intro j y hy
    have hl := (hP2 j y hy).lt
    refine ⟨hl, fun h => ?_⟩
    rcases h with ⟨k, hk, e⟩ | h
    · exact va_D_x hD (wl_get hk) hy e
    · omega
  refine ⟨hP1.app (hP2.kept (fun k q hq => hk q.1 (out k q hq).1 (out k q hq).2)), (hD1.weaken (fun _ _ _ h => hF _ h)).app (va_D_r hD) (fun i j x y hx hy e => ?_)⟩
  exact (out j y hy).2 (by rw [← e]; exact hD1.2 i x hx)
section LWC
variable {p : Program} {l : Launch} {e : Env} {R : Room} {s : State} {m : MethodId} {args : Array Value} {below : List Frame} {meth : Method} {c : Code} {H : Heap} {locs : List Loc} {cells slots : Nat} {Q : State → Prop}
variable {pc : Nat} {ls : Array Slot} {rest st0 : List Value} {av : Array Value} {A0 : Nat → Prop} {H0 : Heap} {mc ms : Nat} {D : va_G} {cl : List vw_C} {tys : List (ClassId × FieldType)} {N : Nat} {bk : Nat → Nat} {cw : Nat → va_E} {w2 : va_W}
theorem lw_calli {post : Int32 → Wt → Prop} (hr : va_Run p l e R s m args below meth c H locs cells slots mc ms (F0 m pc ls st0) rest (va_Qi post (Wd D cl tys (AA N bk H.size)) (AA N bk H.size) av) (AA N bk H.size)) (hP : va_P D cl (wl N bk cw ++ w2) H) (hD : va_D A0 (wl N bk cw ++ w2)) (hS : va_S A0 H0 H locs) (hA : ∀ q, H0.size ≤ q → A0 q)
    (kk : ∀ (r : Int32) (N1 : Nat) (bk1 : Nat → Nat) (cw1 : Nat → va_E) (H1 : Heap) (locs1 : List Loc), post r (N1, bk1, cw1) → va_P D cl (wl N1 bk1 cw1 ++ w2) H1 → va_D A0 (wl N1 bk1 cw1 ++ w2) → va_S A0 H0 H1 locs1 → W p l e R s m args below meth c H1 locs1 (cells + mc) (slots + ms) Q (F0 m (pc + 3) ls (.int r :: rest))) : W p l e R s m args below meth c H locs cells slots Q (F0 m pc ls st0) := by
  have hF : ∀ q, AA N bk H.size q → A0 q := wl_free (va_D_l hD) hS hA
  refine va_calli hr hS (fun q _ h => hF q h) hF (fun r u t H1 locs1 ht hvm hw hB hz1 hk1 hS1 => ?_)
  obtain ⟨b1, b2, b3⟩ := hB
  rw [ht] at b1
  obtain ⟨f1, f2⟩ := wl_frame hP hD hk1 hF b1 b3
  exact kk r u.1 u.2.1 u.2.2 H1 locs1 hw f1 f2 hS1
theorem lw_callv {post : Wt → Prop} (hr : va_Run p l e R s m args below meth c H locs cells slots mc ms (F0 m pc ls st0) rest (va_Qv post (Wd D cl tys (AA N bk H.size)) (AA N bk H.size) av) (AA N bk H.size)) (hP : va_P D cl (wl N bk cw ++ w2) H) (hD : va_D A0 (wl N bk cw ++ w2)) (hS : va_S A0 H0 H locs) (hA : ∀ q, H0.size ≤ q → A0 q)
    (kk : ∀ (N1 : Nat) (bk1 : Nat → Nat) (cw1 : Nat → va_E) (H1 : Heap) (locs1 : List Loc), post (N1, bk1, cw1) → va_P D cl (wl N1 bk1 cw1 ++ w2) H1 → va_D A0 (wl N1 bk1 cw1 ++ w2) → va_S A0 H0 H1 locs1 → W p l e R s m args below meth c H1 locs1 (cells + mc) (slots + ms) Q (F0 m (pc + 3) ls rest)) : W p l e R s m args below meth c H locs cells slots Q (F0 m pc ls st0) := by
  have hF : ∀ q, AA N bk H.size q → A0 q := wl_free (va_D_l hD) hS hA
  refine va_callv hr hS (fun q _ h => hF q h) hF (fun u t H1 locs1 ht hvm hw hB hz1 hk1 hS1 => ?_)
  obtain ⟨b1, b2, b3⟩ := hB
  rw [ht] at b1
  obtain ⟨f1, f2⟩ := wl_frame hP hD hk1 hF b1 b3
  exact kk u.1 u.2.1 u.2.2 H1 locs1 hw f1 f2 hS1
end LWC
/-- the law's own array of longs -/
abbrev wL (cs : Nat → ClassId) (ba : Nat) (f : Nat → Int64) : va_W := [(ba, .inl (cs 4, 1, .inr (.inl f)))]
abbrev wX (cs : Nat → ClassId) (z bo : Nat → Nat) (g q pp dd : Nat → Nat → Int32) (bk : Nat → Nat) : va_W := wl (27 + 4 * z 0) bk (CW cs z bo g q pp dd bk)
abbrev wM (cs : Nat → ClassId) (th : Int32) (zm : Nat → Nat) (a : Nat → Nat → Int32) (bk : Nat → Nat) : va_W := wl 28 bk (MW cs th zm a bk)
/-- what holds all along the law -/
def LF (p : Program) (l : Launch) (s : State) (m : MethodId) (meth : Method) (c : Code) (b L : Nat) (xs : Nat → Int32) (D : va_G) (cs : Nat → ClassId) : Prop :=
  p.tables.exec = Jvm.exec ∧ c.code = code ∧ meth.sig.returnType = ret ∧ c.maxLocals = 7 ∧ s.vm.findClass "IssueRowsLaw" = some m.cls ∧ (∀ w ∈ WA, w.before #[Value.ref b] s = true) ∧ va_X b L xs s s.heap ∧ b < s.heap.size ∧ meth.locks = false ∧ va_K D classes (TY cs) s ∧ NN s ∧ TW s ∧ l.stackTraces = false ∧ L ≤ 2560
abbrev LA (s : State) : Nat → Prop := fun q => s.heap.size ≤ q
abbrev Lv (b xa ma ba i : Nat) : List (Nat × Value) := [(0, .ref b), (1, .ref xa), (2, .ref ma), (3, .ref ba), (4, .int (nI i))]
/-- the law comes to its end from pc, whatever the two states are, so long as they agree -/
def LC (p : Program) (l : Launch) (e : Env) (s : State) (m : MethodId) (below : List Frame) (meth : Method) (c : Code) (b : Nat) (D : va_G) (cs : Nat → ClassId) (xa ma ba : Nat) (Q : State → Prop) (i cells slots pc : Nat) : Prop :=
  ∀ (z bo zm : Nat → Nat) (g q pp dd a : Nat → Nat → Int32) (th : Int32) (f : Nat → Int64) (bkX bkM : Nat → Nat) (H : Heap) (locs : List Loc) (ls : Array Slot), Rl z bo g q pp dd zm a → bkX 0 = xa → bkM 0 = ma →
    va_P D classes (wX cs z bo g q pp dd bkX ++ (wM cs th zm a bkM ++ wL cs ba f)) H → va_D (LA s) (wX cs z bo g q pp dd bkX ++ (wM cs th zm a bkM ++ wL cs ba f)) → va_S (LA s) s.heap H locs → lv_has ls 7 (Lv b xa ma ba i) →
    W p l e room_1 s m #[Value.ref b] below meth c H locs cells slots Q (F0 m pc ls [])
/-- the contracts of an operation -/
def OpX (y : MethodName) (w : List Cond) (rm : Room) (mc ms : Nat) (As : List Value) (z bo : Nat → Nat) (g q pp dd : Nat → Nat → Int32) (R : XS) : Prop :=
  ∀ (l : Launch) (D : va_G) (cs : Nat → ClassId) (bk : Nat → Nat) (sz : Nat), Met l y w rm (va_Pc (.ref (bk 0) :: As) (PB D classes (TY cs) (27 + 4 * z 0) bk (CW cs z bo g q pp dd bk) sz)) (va_Qi (Xr cs bk R) (Wd D classes (TY cs) (AA (27 + 4 * z 0) bk sz)) (AA (27 + 4 * z 0) bk sz)) mc ms (AA (27 + 4 * z 0) bk sz)
def OpG (y : MethodName) (w : List Cond) (rm : Room) (mc ms : Nat) (As : List Value) (z bo : Nat → Nat) (g q pp dd : Nat → Nat → Int32) (R : XS) : Prop :=
  ∀ (l : Launch) (D : va_G) (cs : Nat → ClassId) (bk : Nat → Nat) (sz : Nat), Met l y w rm (va_Pc (.ref (bk 0) :: As) (PB D classes (TY cs) (27 + 4 * z 0) bk (CW cs z bo g q pp dd bk) sz)) (va_Qi (Xg cs bk (z 0) R) (Wd D classes (TY cs) (AA (27 + 4 * z 0) bk sz)) (AA (27 + 4 * z 0) bk sz)) mc ms (AA (27 + 4 * z 0) bk sz)
def OpM (y : MethodName) (w : List Cond) (rm : Room) (As : List Value) (th : Int32) (zm : Nat → Nat) (a : Nat → Nat → Int32) (T : MS) : Prop :=
  ∀ (l : Launch) (D : va_G) (cs : Nat → ClassId) (bk : Nat → Nat) (sz : Nat), Met l y w rm (va_Pc (.ref (bk 0) :: As) (PB D classes (TY cs) 28 bk (MW cs th zm a bk) sz)) (va_Qi (Mr cs bk T) (Wd D classes (TY cs) (AA 28 bk sz)) (AA 28 bk sz)) 0 0 (AA 28 bk sz)
section LWX
variable {p : Program} {l : Launch} {e : Env} {R : Room} {s : State} {m : MethodId} {args : Array Value} {below : List Frame} {meth : Method} {c : Code} {H : Heap} {locs : List Loc} {cells slots : Nat} {Q : State → Prop}
variable {pc : Nat} {ls : Array Slot} {rest st0 : List Value} {av : Array Value} {A0 : Nat → Prop} {H0 : Heap} {mc ms : Nat} {D : va_G} {cs : Nat → ClassId} {bk bkM : Nat → Nat} {w2 : va_W} {z bo zm : Nat → Nat} {g q pp dd a : Nat → Nat → Int32} {T : MS} {U : XS} {th : Int32} {wl9 : va_W}
theorem lw_callX (hr : va_Run p l e R s m args below meth c H locs cells slots mc ms (F0 m pc ls st0) rest (va_Qi (Xr cs bk U) (Wd D classes (TY cs) (AA (27 + 4 * z 0) bk H.size)) (AA (27 + 4 * z 0) bk H.size) av) (AA (27 + 4 * z 0) bk H.size)) (hP : va_P D classes (wX cs z bo g q pp dd bk ++ w2) H) (hD : va_D A0 (wX cs z bo g q pp dd bk ++ w2)) (hS : va_S A0 H0 H locs) (hA : ∀ q, H0.size ≤ q → A0 q)
    (kk : ∀ (H1 : Heap) (locs1 : List Loc), va_P D classes (wX cs U.2.1 U.2.2.1 U.2.2.2.1 U.2.2.2.2.1 U.2.2.2.2.2.1 U.2.2.2.2.2.2 bk ++ w2) H1 → va_D A0 (wX cs U.2.1 U.2.2.1 U.2.2.2.1 U.2.2.2.2.1 U.2.2.2.2.2.1 U.2.2.2.2.2.2 bk ++ w2) → va_S A0 H0 H1 locs1 → W p l e R s m args below meth c H1 locs1 (cells + mc) (slots + ms) Q (F0 m (pc + 3) ls (.int U.1 :: rest))) : W p l e R s m args below meth c H locs cells slots Q (F0 m pc ls st0) :=
  lw_calli hr hP hD hS hA (fun r N1 bk1 cw1 H1 locs1 hw hP hD hS => by
    obtain ⟨h0, hw⟩ := hw
    obtain ⟨h1, h2⟩ := Prod.mk.inj hw
    obtain ⟨h3, h4⟩ := Prod.mk.inj h2
    rw [h1, h3, h4] at hP hD
    rw [h0]
    exact kk H1 locs1 hP hD hS)
theorem lw_callG (hr : va_Run p l e R s m args below meth c H locs cells slots mc ms (F0 m pc ls st0) rest (va_Qi (Xg cs bk (z 0) U) (Wd D classes (TY cs) (AA (27 + 4 * z 0) bk H.size)) (AA (27 + 4 * z 0) bk H.size) av) (AA (27 + 4 * z 0) bk H.size)) (hP : va_P D classes (wX cs z bo g q pp dd bk ++ w2) H) (hD : va_D A0 (wX cs z bo g q pp dd bk ++ w2)) (hS : va_S A0 H0 H locs) (hA : ∀ q, H0.size ≤ q → A0 q)
    (kk : ∀ (bk9 : Nat → Nat) (H1 : Heap) (locs1 : List Loc), bk9 0 = bk 0 → va_P D classes (wX cs U.2.1 U.2.2.1 U.2.2.2.1 U.2.2.2.2.1 U.2.2.2.2.2.1 U.2.2.2.2.2.2 bk9 ++ w2) H1 → va_D A0 (wX cs U.2.1 U.2.2.1 U.2.2.2.1 U.2.2.2.2.1 U.2.2.2.2.2.1 U.2.2.2.2.2.2 bk9 ++ w2) → va_S A0 H0 H1 locs1 → W p l e R s m args below meth c H1 locs1 (cells + mc) (slots + ms) Q (F0 m (pc + 3) ls (.int U.1 :: rest))) : W p l e R s m args below meth c H locs cells slots Q (F0 m pc ls st0) :=
  lw_calli hr hP hD hS hA (fun r N1 bk1 cw1 H1 locs1 hw hP hD hS => by
    obtain ⟨h0, bk2, hb2, hw⟩ := hw
    obtain ⟨h1, h2⟩ := Prod.mk.inj hw
    obtain ⟨h3, h4⟩ := Prod.mk.inj h2
    rw [h1, h3, h4] at hP hD
    rw [h0]
    exact kk bk2 H1 locs1 (hb2 0 (by omega)) hP hD hS)
/-- a call of the reference's, whose world lies behind the class's -/
theorem lw_callM (hr : va_Run p l e R s m args below meth c H locs cells slots mc ms (F0 m pc ls st0) rest (va_Qi (Mr cs bk T) (Wd D classes (TY cs) (AA 28 bk H.size)) (AA 28 bk H.size) av) (AA 28 bk H.size)) (hP : va_P D classes (wl9 ++ (wM cs th zm a bk ++ w2)) H) (hD : va_D A0 (wl9 ++ (wM cs th zm a bk ++ w2))) (hS : va_S A0 H0 H locs) (hA : ∀ q, H0.size ≤ q → A0 q)
    (kk : ∀ (H1 : Heap) (locs1 : List Loc), va_P D classes (wl9 ++ (wM cs T.2.1 T.2.2.1 T.2.2.2 bk ++ w2)) H1 → va_D A0 (wl9 ++ (wM cs T.2.1 T.2.2.1 T.2.2.2 bk ++ w2)) → va_S A0 H0 H1 locs1 → W p l e R s m args below meth c H1 locs1 (cells + mc) (slots + ms) Q (F0 m (pc + 3) ls (.int T.1 :: rest))) : W p l e R s m args below meth c H locs cells slots Q (F0 m pc ls st0) := by
  have hP' := va_P_comm hP
  have hD' := va_D_comm hD
  rw [List.append_assoc] at hP' hD'
  exact lw_calli hr hP' hD' hS hA (fun r N1 bk1 cw1 H1 locs1 hw hP hD hS => by
    obtain ⟨h0, hw⟩ := hw
    obtain ⟨h1, h2⟩ := Prod.mk.inj hw
    obtain ⟨h3, h4⟩ := Prod.mk.inj h2
    rw [h1, h3, h4, ← List.append_assoc] at hP hD
    rw [h0]
    exact kk H1 locs1 (va_P_comm hP) (va_D_comm hD) hS)
end LWX
section LWA
variable {p : Program} {l : Launch} {e : Env} {s : State} {m : MethodId} {args : Array Value} {below : List Frame} {meth : Method} {c : Code} {H : Heap} {locs : List Loc} {cells slots : Nat} {Q : State → Prop} {R : Room}
/-- script[i + j] -/
theorem lw_arg {b L i : Nat} {xs : Nat → Int32} {ls : Array Slot} {lv : List (Nat × Value)} {st : List Value} {pc : Nat} {v : Int} (j : Nat) (hx : p.tables.exec = Jvm.exec) (hb : c.code = code) (hX : va_X b L xs s s.heap) (hbl : b < s.heap.size) (hS : va_S (LA s) s.heap H locs) (hl : lv_has ls 7 lv) (k0 k4 : Nat) (h0 : lv[k0]? = some (0, .ref b)) (h4 : lv[k4]? = some (4, .int (nI i))) (hL : L ≤ 2560) (hi : i + 5 ≤ L) (hj : j < 5) (hv : Int32.ofInt v = nI j)
    (d0 : decode code pc = .ok (.aload_n 0, 1)) (d1 : decode code (pc + 1) = .ok (.iload 4, 2)) (d3 : decode code (pc + 3) = .ok (.iconst v, 1)) (d4 : decode code (pc + 4) = .ok (.iadd, 1)) (d5 : decode code (pc + 5) = .ok (.iaload, 1))
    (kk : W p l e R s m args below meth c H locs cells slots Q (F0 m (pc + 6) ls (.int (xs (i + j)) :: st))) : W p l e R s m args below meth c H locs cells slots Q (F0 m pc ls st) := by
  refine lv_aload_n hx hb d0 rfl (lv_at hl k0 h0) ?_
  refine lv_iload hx hb d1 (lv_at hl k4 h4) ?_
  refine lv_iconst (v := nI j) hx hb d3 hv ?_
  refine lv_iadd hx hb d4 ?_
  have e1 : nI i + nI j = nI (i + j) := nI_add i j
  rw [e1]
  refine va_sld hx hb hX hbl (Nat.not_le.mpr hbl) hS (vp_in_nI (show i + j < L by omega) (by omega)) d5 ?_
  rw [nI_clamp (by omega)]
  exact kk
end LWA

/-! THE REFERENCE's world: cell 0 the object, cells 1 .. 27 its arrays, in the order in which they are made: first, again, most, pattern, ordinal, state, expected, claims, claimDay, copies, came, volumeOf, replacedBy, cents, replaces, rowSize, person, personDays, holder, holderFrom, roundIssue, roundClaims, rowFirst, rowLast, rowMany, note, noteIssue. z: issues, round, volumes, rows, notes. th: thrown. -/
def lenM (k : Nat) : Nat := match k with
  | 1 => 10
  | 2 => 10
  | 3 => 10
  | 17 => 1600
  | 18 => 1600
  | 26 => 100
  | 27 => 100
  | _ => 200
def arrM (cs : Nat → ClassId) (k : Nat) (f : Nat → Int32) : va_E := if k = 15 then .inl (cs 1, 200, .inl f) else .inl (cs 0, lenM k, .inl f)
def fldM (th : Int32) (z : Nat → Nat) (bk : Nat → Nat) : List Value := [.int th, .ref (bk 1), .ref (bk 2), .ref (bk 3), .int (nI (z 0)), .ref (bk 4), .ref (bk 5), .ref (bk 6), .ref (bk 7), .ref (bk 8), .ref (bk 9), .ref (bk 10), .ref (bk 11), .ref (bk 12), .ref (bk 13), .ref (bk 14), .ref (bk 15), .ref (bk 16), .ref (bk 17), .ref (bk 18), .ref (bk 19), .ref (bk 20), .int (nI (z 1)), .ref (bk 21), .ref (bk 22), .int (nI (z 2)), .int (nI (z 3)), .ref (bk 23), .ref (bk 24), .ref (bk 25), .int (nI (z 4)), .ref (bk 26), .ref (bk 27)]
def MW (cs : Nat → ClassId) (th : Int32) (z : Nat → Nat) (a : Nat → Nat → Int32) (bk : Nat → Nat) : Nat → va_E := fun k => if k = 0 then .inr (7, fldM th z bk) else arrM cs k (a k)
theorem MW_obj {cs : Nat → ClassId} {th : Int32} {z : Nat → Nat} {a : Nat → Nat → Int32} {bk : Nat → Nat} (th' : Int32) (z' : Nat → Nat) : va_up (MW cs th z a bk) 0 (.inr (7, fldM th' z' bk)) = MW cs th' z' a bk := by
  funext k
  by_cases h : k = 0
  · subst h; rw [va_up_self]; rfl
  · rw [va_up_ne _ _ h]; simp [MW, h]
theorem MW_arr {cs : Nat → ClassId} {th : Int32} {z : Nat → Nat} {a : Nat → Nat → Int32} {bk : Nat → Nat} (k : Nat) (hk : k ≠ 0) (f : Nat → Int32) : va_up (MW cs th z a bk) k (arrM cs k f) = MW cs th z (va_up a k f) bk := by
  funext j
  by_cases h : j = k
  · subst h; rw [va_up_self]; simp [MW, hk, va_up_self]
  · rw [va_up_ne _ _ h]
    by_cases h0 : j = 0
    · simp [MW, h0]
    · simp [MW, h0, va_up_ne _ _ h]
abbrev MS : Type := Int32 × Int32 × (Nat → Nat) × (Nat → Nat → Int32)
/-- the reference behind a call: the answer and the world are the pure function's -/
def Mr (cs : Nat → ClassId) (bk : Nat → Nat) (R : MS) (r : Int32) (u : Wt) : Prop := r = R.1 ∧ u = (28, bk, MW cs R.2.1 R.2.2.1 R.2.2.2 bk)
def Mv (cs : Nat → ClassId) (bk : Nat → Nat) (R : MS) (u : Wt) : Prop := u = (28, bk, MW cs R.2.1 R.2.2.1 R.2.2.2 bk)
theorem Mr_of {cs : Nat → ClassId} {bk : Nat → Nat} {R : MS} {r th : Int32} {z : Nat → Nat} {a : Nat → Nat → Int32} (h : R = (r, th, z, a)) : Mr cs bk R r (28, bk, MW cs th z a bk) := by subst h; exact ⟨rfl, rfl⟩
theorem Mv_of {cs : Nat → ClassId} {bk : Nat → Nat} {R : MS} {r th : Int32} {z : Nat → Nat} {a : Nat → Nat → Int32} (h : R = (r, th, z, a)) : Mv cs bk R (28, bk, MW cs th z a bk) := by subst h; exact rfl
section PZ
variable {p : Program} {l : Launch} {e : Env} {R : Room} {s : State} {m : MethodId} {args : Array Value} {below : List Frame} {meth : Method} {c : Code} {H : Heap} {locs : List Loc} {cells slots : Nat} {Q : State → Prop}
variable {cc : ByteArray} {pc : Nat} {ls : Array Slot} {rest : List Value} {D : va_G} {cl : List vw_C} {A : Nat → Prop} {tys : List (ClassId × FieldType)} {H0 : Heap} {N : Nat} {bk : Nat → Nat} {cw : Nat → va_E}
theorem pw_zald (hexec : p.tables.exec = Jvm.exec) (hb : c.code = cc) (hK : va_K D cl tys s) (hP : va_P D cl (wl N bk cw) H) (t0 : Nat) (k : Nat) (hk : k < N) {cA : ClassId} {n : Nat} {f : Nat → Int32} (he : cw k = .inl (cA, n, .inl f)) (ht : tys[t0]? = some (cA, .boolean)) {i : Int32} (j : Nat) (hi : i = nI j) (hj : j < n) (hn : n < 2 ^ 31) (hdg : decode cc pc = .ok (.baload, 1))
    (kk : W p l e R s m args below meth c H locs cells slots Q (F0 m (pc + 1) ls (.int (f j) :: rest))) : W p l e R s m args below meth c H locs cells slots Q (F0 m pc ls (.int i :: .ref (bk k) :: rest)) := by
  subst hi
  refine va_zald hexec hb hK hP k t0 (wl_at hk he) ht (vp_in_nI hj hn) hdg ?_
  rw [nI_clamp (by omega)]
  exact kk
theorem pw_zast (hexec : p.tables.exec = Jvm.exec) (hb : c.code = cc) (hK : va_K D cl tys s) (hP : va_P D cl (wl N bk cw) H) (hD : va_D A (wl N bk cw)) (hS : va_S A H0 H locs) (t0 : Nat) (k : Nat) (hk : k < N) {cA : ClassId} {n : Nat} {f : Nat → Int32} (he : cw k = .inl (cA, n, .inl f)) (ht : tys[t0]? = some (cA, .boolean)) {i : Int32} (j : Nat) (hi : i = nI j) (hj : j < n) (hn : n < 2 ^ 31) (hdg : decode cc pc = .ok (.bastore, 1))
    (kk : ∀ (cw1 : Nat → va_E) (H1 : Heap) (locs1 : List Loc), cw1 = va_up cw k (.inl (cA, n, .inl (upd f j 1))) → va_P D cl (wl N bk cw1) H1 → va_D A (wl N bk cw1) → va_S A H0 H1 locs1 → W p l e R s m args below meth c H1 locs1 cells slots Q (F0 m (pc + 1) ls rest)) : W p l e R s m args below meth c H locs cells slots Q (F0 m pc ls (.int 1 :: .int i :: .ref (bk k) :: rest)) := by
  subst hi
  refine va_zast hexec hb hK hP hD hS k t0 (wl_at hk he) ht (vp_in_nI hj hn) hdg (fun H1 locs1 hP hD hS => ?_)
  rw [wl_set, nI_clamp (by omega), show vp_nar .boolean 1 = 1 from by decide] at hP hD
  exact kk _ H1 locs1 rfl hP hD hS
end PZ
section PM
variable {p : Program} {l : Launch} {e : Env} {R : Room} {s : State} {m : MethodId} {args : Array Value} {below : List Frame} {meth : Method} {c : Code} {H : Heap} {locs : List Loc} {cells slots : Nat} {Q : State → Prop}
variable {pc : Nat} {ls : Array Slot} {rest st0 : List Value} {av : Array Value} {A0 : Nat → Prop} {H0 : Heap} {mc ms : Nat} {D : va_G} {cl : List vw_C} {tys : List (ClassId × FieldType)} {N : Nat} {bk bk2 : Nat → Nat} {cs : Nat → ClassId} {T : MS} {u0 : Wt}
theorem pm_callv (hr : va_Run p l e R s m args below meth c H locs cells slots mc ms (F0 m pc ls st0) rest (va_Qv (Mv cs bk T) (Wd D cl tys (AA N bk2 H.size)) (AA N bk2 H.size) av) (AA N bk2 H.size)) (hS : va_S A0 H0 H locs) (hF : ∀ q, AA N bk2 H.size q → A0 q)
    (kk : ∀ (H1 : Heap) (locs1 : List Loc), va_P D cl (wl 28 bk (MW cs T.2.1 T.2.2.1 T.2.2.2 bk)) H1 → va_D A0 (wl 28 bk (MW cs T.2.1 T.2.2.1 T.2.2.2 bk)) → va_S A0 H0 H1 locs1 → W p l e R s m args below meth c H1 locs1 (cells + mc) (slots + ms) Q (F0 m (pc + 3) ls rest)) : W p l e R s m args below meth c H locs cells slots Q (F0 m pc ls st0) :=
  pw_callv hr hS hF (fun N1 bk1 cw1 H1 locs1 hw hP hD hS => by
    obtain ⟨h1, h2⟩ := Prod.mk.inj hw
    obtain ⟨h3, h4⟩ := Prod.mk.inj h2
    rw [h1, h3, h4] at hP hD
    exact kk H1 locs1 hP hD hS)
theorem pm_calli (hr : va_Run p l e R s m args below meth c H locs cells slots mc ms (F0 m pc ls st0) rest (va_Qi (Mr cs bk T) (Wd D cl tys (AA N bk2 H.size)) (AA N bk2 H.size) av) (AA N bk2 H.size)) (hS : va_S A0 H0 H locs) (hF : ∀ q, AA N bk2 H.size q → A0 q)
    (kk : ∀ (H1 : Heap) (locs1 : List Loc), va_P D cl (wl 28 bk (MW cs T.2.1 T.2.2.1 T.2.2.2 bk)) H1 → va_D A0 (wl 28 bk (MW cs T.2.1 T.2.2.1 T.2.2.2 bk)) → va_S A0 H0 H1 locs1 → W p l e R s m args below meth c H1 locs1 (cells + mc) (slots + ms) Q (F0 m (pc + 3) ls (.int T.1 :: rest))) : W p l e R s m args below meth c H locs cells slots Q (F0 m pc ls st0) :=
  pw_calli hr hS hF (fun r N1 bk1 cw1 H1 locs1 hw hP hD hS => by
    obtain ⟨h0, hw⟩ := hw
    obtain ⟨h1, h2⟩ := Prod.mk.inj hw
    obtain ⟨h3, h4⟩ := Prod.mk.inj h2
    rw [h1, h3, h4] at hP hD
    rw [h0]
    exact kk H1 locs1 hP hD hS)
end PM

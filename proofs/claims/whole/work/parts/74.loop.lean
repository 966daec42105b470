/-! THE CLAIM OUT OF ONE WALK OF THE LAW'S BODY. Your part is whole_start (and what it stands on); all else here is the same for every law, but numbers. -/
def R_law : String := "IssueRowsLaw"
def lw_P (b : Addr) (xs : List Int32) (args : Array Value) (s : State) : Prop := args = #[.ref b] ∧ s.IntsAt b xs ∧ xs.length ≤ 2560 ∧ (Jvm.Cond.and given_1 narrow_1).before args s = true
def lw_Q (_ : Array Value) (s : State) (o : Outcome) (t : State) : Prop := o = .returned (some (.int 1)) ∧ Framed s o t [] 601024 7293034
def lw_Z (below : List Frame) (a : Array Value) (s : State) : State → Prop := fun t => ∃ o, t.status = .running ∧ Ended t below o ∧ lw_Q a s o t
/-- the law's own end, with 1 on the stack, nothing written that was there before, its room as the claim has it -/
theorem lw_ret {p : Program} {l : Launch} {e : Env} {s : State} {m : MethodId} {below : List Frame} {meth : Method} {c : Code} {b : Nat} (hx : p.tables.exec = Jvm.exec) (hb : c.code = code) (hr : meth.sig.returnType = ret) (hlocks : meth.locks = false) {pc : Nat} {H : Heap} {ls : Array Slot} (hdg : decode code pc = .ok (.ireturn, 1)) : W p l e room_1 s m #[Value.ref b] below meth c H [] 601024 7293034 (lw_Z below #[Value.ref b] s) (F0 m pc ls [.int 1]) := by
  intro T hT X
  obtain ⟨fs, hret, hrun, hended, hW, hframe⟩ := X.leave (v := some (.int 1)) (hlocks := hlocks) (fun h => by rw [hr] at h; cases h)
  have hmeth' : T.vm.method? m = some meth := X.method'
  refine ⟨T.setFrames fs, ?_, .returned (some (.int 1)), hrun, hended, rfl, ⟨_, rfl⟩, hW, hframe⟩
  jvm_step X.here [X.here.top, hx, hb, hdg, hmeth', hr, ret, narrow_b1]
  (try refine ⟨rfl, ?_⟩); (try refine ⟨rfl, ?_⟩)
  first | (intro acts; rw [hret _ acts rfl rfl rfl]) | rw [hret _ _ rfl rfl rfl]
  exact Steps.refl _
/-- what holds at the law's entry: the machine, the code, the tables' words (any of lw_tbl by 'hts w (by decide +kernel)'), the script of L ints xs at the cell b, what the Statement gives of the start (any of its parts by flat_of_before) -/
def lw_At (p : Program) (s : State) (m : MethodId) (meth : Method) (c : Code) (b L : Nat) (xs : Nat → Int32) : Prop :=
  p.tables.exec = Jvm.exec ∧ c.code = code ∧ meth.sig.returnType = ret ∧ c.maxLocals = 7 ∧ s.vm.findClass R_law = some m.cls ∧ (∀ w ∈ lw_tbl, w.before #[Value.ref b] s = true) ∧ va_X b L xs s s.heap ∧ b < s.heap.size ∧ meth.locks = false ∧ (Jvm.Cond.and given_1 narrow_1).before #[Value.ref b] s = true
/-! THE LAW'S LOOP. -/
theorem lw_gt {L i : Nat} (hL : L ≤ 2560) (hi : i ≤ 4000) : (Int32.ofNat L - 5 < nI i) ↔ L < i + 5 := by
  have h1 : (nI L).toInt = L := nI_toInt (by omega)
  have h2 : (nI i).toInt = i := nI_toInt (by omega)
  have T5 : (5 : Int32).toInt = 5 := by decide
  have h3 : (nI L - 5).toInt = (L : Int) - 5 := by rw [Int32.toInt_sub, h1, T5]; exact Int.bmod_eq_of_le (by omega) (by omega)
  show nI L - 5 < nI i ↔ _
  rw [Int32.lt_iff_toInt_lt, h2, h3]; omega
theorem lw_past {y : Int32} (h : ¬ y ≤ 16) : (16 : Int) < y.toInt := by
  have T : (16 : Int32).toInt = 16 := by decide
  have := mt Int32.le_iff_toInt_le.mpr h
  rw [T] at this
  omega
theorem lw_head {p : Program} {l : Launch} {e : Env} {s : State} {m : MethodId} {below : List Frame} {meth : Method} {c : Code} {b L : Nat} {xs : Nat → Int32} {D : va_G} {cs : Nat → ClassId} {xa ma ba : Nat} {Q : State → Prop} {i cells slots : Nat} (F : LF p l s m meth c b L xs D cs) (hi : i ≤ 2565) (kt : L < i + 5 → LC p l e s m below meth c b D cs xa ma ba Q i cells slots 872) (kf : i + 5 ≤ L → LC p l e s m below meth c b D cs xa ma ba Q i cells slots 32) : LC p l e s m below meth c b D cs xa ma ba Q i cells slots 23 := by
  obtain ⟨hx, hb, hr, hml, hown, hw, hX, hbl, hlocks, hK, hN, hT, hlt, hL⟩ := F
  intro z bo zm g q pp dd a th f bkX bkM H locs ls hR hx0 hm0 hP hD hS hl
  refine lv_iload hx hb d_L_law_23 (lv_at hl 4 rfl) ?_
  refine lv_aload_n hx hb d_L_law_25 rfl (lv_at hl 0 rfl) ?_
  refine va_slen hx hb hX hbl (Nat.not_le.mpr hbl) hS d_L_law_26 ?_
  refine lv_iconst (v := 5) hx hb d_L_law_27 (by decide) ?_
  refine lv_isub hx hb d_L_law_28 ?_
  refine lv_icmp_gt (tgt := 872) hx hb d_L_law_29 (by decide) (fun h => ?_) (fun h => ?_)
  · exact kt ((lw_gt hL (by omega)).mp h) z bo zm g q pp dd a th f bkX bkM H locs ls hR hx0 hm0 hP hD hS hl
  · exact kf (by have := mt (lw_gt hL (show i ≤ 4000 by omega)).mpr h; omega) z bo zm g q pp dd a th f bkX bkM H locs ls hR hx0 hm0 hP hD hS hl
theorem lw_exit {p : Program} {l : Launch} {e : Env} {s : State} {m : MethodId} {below : List Frame} {meth : Method} {c : Code} {b L : Nat} {xs : Nat → Int32} {D : va_G} {cs : Nat → ClassId} {xa ma ba : Nat} {i cells slots : Nat} (F : LF p l s m meth c b L xs D cs) (hc : cells ≤ 601024) (hs : slots ≤ 7293034) : LC p l e s m below meth c b D cs xa ma ba (lw_Z below #[Value.ref b] s) i cells slots 872 := by
  obtain ⟨hx, hb, hr, hml, hown, hw, hX, hbl, hlocks, hK, hN, hT, hlt, hL⟩ := F
  intro z bo zm g q pp dd a th f bkX bkM H locs ls hR hx0 hm0 hP hD hS hl
  refine lv_iconst (v := 1) hx hb d_L_law_872 (by decide) ?_
  exact va_forget hS.2.2 (W.widen hc hs (lw_ret hx hb hr hlocks d_L_law_873))
theorem lw_next {p : Program} {l : Launch} {e : Env} {s : State} {m : MethodId} {below : List Frame} {meth : Method} {c : Code} {b L : Nat} {xs : Nat → Int32} {D : va_G} {cs : Nat → ClassId} {xa ma ba : Nat} {Q : State → Prop} {i cells slots : Nat} (F : LF p l s m meth c b L xs D cs) (kk : LC p l e s m below meth c b D cs xa ma ba Q (i + 5) cells slots 23) : LC p l e s m below meth c b D cs xa ma ba Q i cells slots 866 := by
  obtain ⟨hx, hb, hr, hml, hown, hw, hX, hbl, hlocks, hK, hN, hT, hlt, hL⟩ := F
  intro z bo zm g q pp dd a th f bkX bkM H locs ls hR hx0 hm0 hP hD hS hl
  refine lv_iinc (k := 4) (v := nI (i + 5)) (lv' := [(4, .int (nI (i + 5))), (0, .ref b), (1, .ref xa), (2, .ref ma), (3, .ref ba)]) hx hb d_L_law_866 hl rfl (nI_add i 5) (by decide) rfl (fun ls hl => ?_)
  refine lv_goto (tgt := 23) hx hb d_L_law_869 (by decide) ?_
  exact kk z bo zm g q pp dd a th f bkX bkM H locs ls hR hx0 hm0 hP hD hS ⟨hl.1, hl.2.1, fun q hq => hl.2.2 q (by simp only [Lv, List.mem_cons, List.not_mem_nil, or_false] at hq ⊢; rcases hq with h | h | h | h | h <;> simp [h])⟩
set_option maxHeartbeats 4000000 in
theorem lw_step {p : Program} {l : Launch} {e : Env} {s : State} {m : MethodId} {below : List Frame} {meth : Method} {c : Code} {b L : Nat} {xs : Nat → Int32} {D : va_G} {cs : Nat → ClassId} {xa ma ba : Nat} {Q : State → Prop} {i cells slots : Nat} (F : LF p l s m meth c b L xs D cs) (hi : i + 5 ≤ L) (hc : cells + 4 ≤ 601024) (hs : slots + 35 ≤ 7293034) (kk : LC p l e s m below meth c b D cs xa ma ba Q i (cells + 4) (slots + 35) 866) : LC p l e s m below meth c b D cs xa ma ba Q i cells slots 32 := by
  have F0 := F
  obtain ⟨hx, hb, hr, hml, hown, hw, hX, hbl, hlocks, hK, hN, hT, hlt, hL⟩ := F
  intro z bo zm g q pp dd a th f bkX bkM H locs ls hR hx0 hm0 hP hD hS hl
  refine lv_aload_n hx hb d_L_law_32 rfl (lv_at hl 0 rfl) ?_
  refine lv_iload hx hb d_L_law_33 (lv_at hl 4 rfl) ?_
  refine va_sld hx hb hX hbl (Nat.not_le.mpr hbl) hS (vp_in_nI (show i < L by omega) (by omega)) d_L_law_35 ?_
  refine lv_bipush (v := 31) hx hb d_L_law_36 (by decide) ?_
  refine lv_iand hx hb d_L_law_38 ?_
  generalize xs (nI i).toNatClampNeg &&& 31 = y
  by_cases h0 : y < 0
  · exact lv_tableOut (tgt := 866) hx hb d_L_law_39 (Or.inl (by have := Int32.lt_iff_toInt_lt.mp h0; exact this)) (by decide) (W.widen (by omega) (by omega) (kk z bo zm g q pp dd a th f bkX bkM H locs ls hR hx0 hm0 hP hD hS hl))
  by_cases h1 : y ≤ 16
  · obtain ⟨j, hj, rfl⟩ := nI_of2 (M := 16) (n := 16) (by decide) h0 h1
    have hjs : j = 0 ∨ j = 1 ∨ j = 2 ∨ j = 3 ∨ j = 4 ∨ j = 5 ∨ j = 6 ∨ j = 7 ∨ j = 8 ∨ j = 9 ∨ j = 10 ∨ j = 11 ∨ j = 12 ∨ j = 13 ∨ j = 14 ∨ j = 15 ∨ j = 16 := by omega
    rcases hjs with rfl | rfl | rfl | rfl | rfl | rfl | rfl | rfl | rfl | rfl | rfl | rfl | rfl | rfl | rfl | rfl | rfl
    · exact lv_tableIn (off := 81) (tgt := 120) hx hb d_L_law_39 (by decide) (by decide) (by decide +kernel) (by decide) (cs_rule F0 hi hc hs kk z bo zm g q pp dd a th f bkX bkM H locs ls hR hx0 hm0 hP hD hS hl)
    · exact lv_tableIn (off := 142) (tgt := 181) hx hb d_L_law_39 (by decide) (by decide) (by decide +kernel) (by decide) (cs_issue F0 hi hc hs kk z bo zm g q pp dd a th f bkX bkM H locs ls hR hx0 hm0 hP hD hS hl)
    · exact lv_tableIn (off := 191) (tgt := 230) hx hb d_L_law_39 (by decide) (by decide) (by decide +kernel) (by decide) (cs_checkIn F0 hi hc hs kk z bo zm g q pp dd a th f bkX bkM H locs ls hR hx0 hm0 hP hD hS hl)
    · exact lv_tableIn (off := 240) (tgt := 279) hx hb d_L_law_39 (by decide) (by decide) (by decide +kernel) (by decide) (cs_claim F0 hi hc hs kk z bo zm g q pp dd a th f bkX bkM H locs ls hR hx0 hm0 hP hD hS hl)
    · exact lv_tableIn (off := 265) (tgt := 304) hx hb d_L_law_39 (by decide) (by decide) (by decide +kernel) (by decide) (cs_claimed F0 hi hc hs kk z bo zm g q pp dd a th f bkX bkM H locs ls hR hx0 hm0 hP hD hS hl)
    · exact lv_tableIn (off := 333) (tgt := 372) hx hb d_L_law_39 (by decide) (by decide) (by decide +kernel) (by decide) (cs_list F0 hi hc hs kk z bo zm g q pp dd a th f bkX bkM H locs ls hR hx0 hm0 hP hD hS hl)
    · exact lv_tableIn (off := 382) (tgt := 421) hx hb d_L_law_39 (by decide) (by decide) (by decide +kernel) (by decide) (cs_route F0 hi hc hs kk z bo zm g q pp dd a th f bkX bkM H locs ls hR hx0 hm0 hP hD hS hl)
    · exact lv_tableIn (off := 419) (tgt := 458) hx hb d_L_law_39 (by decide) (by decide) (by decide +kernel) (by decide) (cs_returned F0 hi hc hs kk z bo zm g q pp dd a th f bkX bkM H locs ls hR hx0 hm0 hP hD hS hl)
    · exact lv_tableIn (off := 456) (tgt := 495) hx hb d_L_law_39 (by decide) (by decide) (by decide +kernel) (by decide) (cs_replace F0 hi hc hs kk z bo zm g q pp dd a th f bkX bkM H locs ls hR hx0 hm0 hP hD hS hl)
    · exact lv_tableIn (off := 493) (tgt := 532) hx hb d_L_law_39 (by decide) (by decide) (by decide +kernel) (by decide) (cs_bind F0 hi hc hs kk z bo zm g q pp dd a th f bkX bkM H locs ls hR hx0 hm0 hP hD hS hl)
    · exact lv_tableIn (off := 530) (tgt := 569) hx hb d_L_law_39 (by decide) (by decide) (by decide +kernel) (by decide) (cs_volume F0 hi hc hs kk z bo zm g q pp dd a th f bkX bkM H locs ls hR hx0 hm0 hP hD hS hl)
    · exact lv_tableIn (off := 598) (tgt := 637) hx hb d_L_law_39 (by decide) (by decide) (by decide +kernel) (by decide) (cs_statement F0 hi hc hs kk z bo zm g q pp dd a th f bkX bkM H locs ls hR hx0 hm0 hP hD hS hl)
    · exact lv_tableIn (off := 623) (tgt := 662) hx hb d_L_law_39 (by decide) (by decide) (by decide +kernel) (by decide) (cs_row F0 hi hc hs kk z bo zm g q pp dd a th f bkX bkM H locs ls hR hx0 hm0 hP hD hS hl)
    · exact lv_tableIn (off := 691) (tgt := 730) hx hb d_L_law_39 (by decide) (by decide) (by decide +kernel) (by decide) (cs_about F0 hi hc hs kk z bo zm g q pp dd a th f bkX bkM H locs ls hR hx0 hm0 hP hD hS hl)
    · exact lv_tableIn (off := 728) (tgt := 767) hx hb d_L_law_39 (by decide) (by decide) (by decide +kernel) (by decide) (cs_cost F0 hi hc hs kk z bo zm g q pp dd a th f bkX bkM H locs ls hR hx0 hm0 hP hD hS hl)
    · exact lv_tableIn (off := 765) (tgt := 804) hx hb d_L_law_39 (by decide) (by decide) (by decide +kernel) (by decide) (cs_told F0 hi hc hs kk z bo zm g q pp dd a th f bkX bkM H locs ls hR hx0 hm0 hP hD hS hl)
    · exact lv_tableIn (off := 802) (tgt := 841) hx hb d_L_law_39 (by decide) (by decide) (by decide +kernel) (by decide) (cs_lateness F0 hi hc hs kk z bo zm g q pp dd a th f bkX bkM H locs ls hR hx0 hm0 hP hD hS hl)
  · exact lv_tableOut (tgt := 866) hx hb d_L_law_39 (Or.inr (lw_past h1)) (by decide) (W.widen (by omega) (by omega) (kk z bo zm g q pp dd a th f bkX bkM H locs ls hR hx0 hm0 hP hD hS hl))
theorem lw_loop {p : Program} {l : Launch} {e : Env} {s : State} {m : MethodId} {below : List Frame} {meth : Method} {c : Code} {b L : Nat} {xs : Nat → Int32} {D : va_G} {cs : Nat → ClassId} {xa ma ba : Nat} (F : LF p l s m meth c b L xs D cs) (k : Nat) : ∀ (i cells slots : Nat), L < i + 5 * k + 5 → i ≤ 2565 → cells + 4 * k ≤ 601024 → slots + 35 * k ≤ 7293034 → LC p l e s m below meth c b D cs xa ma ba (lw_Z below #[Value.ref b] s) i cells slots 23 := by
  have hL : L ≤ 2560 := F.2.2.2.2.2.2.2.2.2.2.2.2.2
  induction k with
  | zero => exact fun i cells slots h1 h2 h3 h4 => lw_head F h2 (fun _ => lw_exit F (by omega) (by omega)) (fun h => by omega)
  | succ k ih => exact fun i cells slots h1 h2 h3 h4 => lw_head F h2 (fun _ => lw_exit F (by omega) (by omega)) (fun h => lw_step F h (by omega) (by omega) (lw_next F (ih (i + 5) (cells + 4) (slots + 35) (by omega) (by omega) (by omega) (by omega))))

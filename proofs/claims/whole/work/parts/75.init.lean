/-! THE LAW'S START: what the tables say at it, and the first states of the two. -/
theorem st_arr {s : State} {a : Array Value} {ty : FieldType} (h : (Cond.arrayClass ty).before a s = true) (hty : ∀ C, ty ≠ .object C) : ∃ cA, ArrOfT s cA ty ∧ va_RA s cA ty := by
  obtain ⟨c, k, comp, h1, h2, h3⟩ := Cond.arrayClass_spec h
  refine ⟨c, fun n z => ⟨(fun k h => by cases h), k, h2, comp, h3⟩, ?_⟩
  cases ty <;> first | exact h1 | exact absurd rfl (hty _)
theorem st_ref {s : State} {C : String} (h : va_AO C s) : ∃ cA, ArrOfT s cA (.object C) ∧ va_RA s cA (.object C) := by
  obtain ⟨comp, c, k, h1, h2, h3, h4, h5⟩ := Cond.arrayOver_spec h
  exact ⟨c, fun n z => ⟨(fun k h => by cases h), k, h3, comp, h4⟩, k, comp, h3, h4, h1, h5⟩
theorem st_K {s : State} {a : Array Value} (hw : ∀ w ∈ WA, w.before a s = true) (hN : NN s) : ∃ (D : va_G) (cs : Nat → ClassId), va_K D classes (TY cs) s := by
  obtain ⟨c0, j0, k0⟩ := u_known hw i_X (hw _ kA_X)
  obtain ⟨c1, j1, k1⟩ := u_known hw i_U (hw _ kA_U)
  obtain ⟨c2, j2, k2⟩ := u_known hw i_I (hw _ kA_I)
  obtain ⟨c3, j3, k3⟩ := u_known hw i_G (hw _ kA_G)
  obtain ⟨c4, j4, k4⟩ := u_known hw i_P (hw _ kA_P)
  obtain ⟨c5, j5, k5⟩ := u_known hw i_V (hw _ kA_V)
  obtain ⟨c6, j6, k6⟩ := u_known hw i_S (hw _ kA_S)
  obtain ⟨c7, j7, k7⟩ := u_known hw i_M (hw _ kA_M)
  obtain ⟨a0, t0⟩ := st_arr (hw _ kR_int) (fun _ h => by cases h)
  obtain ⟨a1, t1⟩ := st_arr (hw _ kR_boolean) (fun _ h => by cases h)
  obtain ⟨a2, t2⟩ := st_ref hN.2.1
  obtain ⟨a3, t3⟩ := st_ref hN.2.2
  obtain ⟨a4, t4⟩ := st_arr (hw _ kR_long) (fun _ h => by cases h)
  refine ⟨(fun c => match c with | 0 => c0 | 1 => c1 | 2 => c2 | 3 => c3 | 4 => c4 | 5 => c5 | 6 => c6 | _ => c7, fun c => match c with | 0 => j0 | 1 => j1 | 2 => j2 | 3 => j3 | 4 => j4 | 5 => j5 | 6 => j6 | _ => j7), fun k => match k with | 0 => a0 | 1 => a1 | 2 => a2 | 3 => a3 | _ => a4, fun c q hq => ?_, fun k q hq => ?_⟩
  · match c, hq with
    | 0, hq => cases hq; exact k0
    | 1, hq => cases hq; exact k1
    | 2, hq => cases hq; exact k2
    | 3, hq => cases hq; exact k3
    | 4, hq => cases hq; exact k4
    | 5, hq => cases hq; exact k5
    | 6, hq => cases hq; exact k6
    | 7, hq => cases hq; exact k7
    | c + 8, hq => exact absurd hq (by simp [classes])
  · match k, hq with
    | 0, hq => cases hq; exact t0
    | 1, hq => cases hq; exact t1
    | 2, hq => cases hq; exact t2
    | 3, hq => cases hq; exact t3
    | 4, hq => cases hq; exact t4
    | k + 5, hq => exact absurd hq (by simp [TY])
theorem st_nest : ∀ q ∈ nestQ, Cond.methodLinkNest q.1 q.2.1 q.2.2.1 q.2.2.2 ∈ lw_tbl := by decide +kernel
theorem st_N {s : State} {a : Array Value} (hts : ∀ w ∈ lw_tbl, w.before a s = true) : NN s :=
  ⟨fun q hq => hts _ (st_nest q hq), va_AO.of (hts _ (by decide +kernel)), va_AO.of (hts _ (by decide +kernel))⟩
theorem st_own : ∀ w ∈ Bundle.ownAtoms "IssueRows" 127 xN upN, w ∈ lw_tbl ∨ w = .isRef (.static "java/lang/Throwable" "UNASSIGNED_STACK" "[Ljava/lang/StackTraceElement;") ∨ w = .isRef (.static "java/lang/Throwable" "SUPPRESSED_SENTINEL" "Ljava/util/List;") := by decide +kernel
theorem st_T {s : State} {b : Nat} (hts : ∀ w ∈ lw_tbl, w.before #[Value.ref b] s = true) (hg : (Jvm.Cond.and given_1 narrow_1).before #[Value.ref b] s = true) : TW s := by
  have hs := flat_of_before _ hg
  refine ⟨tw_along (a := #[Value.ref b]) (State.WarmedH.refl s) (fun _ _ h _ => h) tw_ride (fun w hw => ?_), ?_, ?_, ?_⟩
  · rcases st_own w hw with h | h | h
    · exact hts w h
    · subst h; exact hs _ (by decide +kernel)
    · subst h; exact hs _ (by decide +kernel)
  · exact hts (Cond.stringRef "IssueRows" 125 "no such claim") (by decide +kernel)
  · exact hts (Cond.stringRef "IssueRows" 184 "no such issue of a volume") (by decide +kernel)
  · exact hts (Cond.stringRef "IssueRows" 198 "no such row") (by decide +kernel)
/-- ten places hold x -/
def ten (x : Int32) : Nat → Int32 := upd (upd (upd (upd (upd (upd (upd (upd (upd (upd (fun _ => 0) (0) (x)) (1) (x)) (2) (x)) (3) (x)) (4) (x)) (5) (x)) (6) (x)) (7) (x)) (8) (x)) (9) (x)
def z00 : Nat → Nat := fun _ => 0
def g00 : Nat → Nat → Int32 := fun _ _ => 0
def q00 : Nat → Nat → Int32 := fun k => match k with
  | 0 => fun _ => 30
  | 1 => fun _ => 20
  | 2 => fun _ => 3
  | _ => fun _ => 0
def a00 : Nat → Nat → Int32 := fun k => match k with
  | 1 => ten 30
  | 2 => ten 20
  | 3 => ten 3
  | _ => fun _ => 0
theorem ten_at (x : Int32) : ∀ p, p < 10 → ten x p = x := fun p hp => by
  match p, hp with
  | 0, _ => rfl
  | 1, _ => rfl
  | 2, _ => rfl
  | 3, _ => rfl
  | 4, _ => rfl
  | 5, _ => rfl
  | 6, _ => rfl
  | 7, _ => rfl
  | 8, _ => rfl
  | 9, _ => rfl
/-- the two states agree at the start -/
theorem Rl_00 : Rl z00 z00 g00 q00 g00 g00 z00 a00 := by
  have n0 : ∀ {i : Nat}, ¬ i < z00 0 := fun h => Nat.not_lt_zero _ h
  refine ⟨⟨rfl, Nat.zero_le _, fun i _ => rfl⟩, fun i h => absurd h n0, fun p hp => ⟨(ten_at 30 p hp).symm, (ten_at 20 p hp).symm, (ten_at 3 p hp).symm⟩, ⟨rfl, Nat.zero_le _, fun t h => absurd h (Nat.not_lt_zero _)⟩, ⟨rfl, Nat.zero_le _, fun t h => absurd h (Nat.not_lt_zero _)⟩, ⟨rfl, Nat.zero_le _, fun t h => absurd h (Nat.not_lt_zero _)⟩, ⟨fun t h => absurd h n0, fun s t h => absurd h n0, fun s t _ h => absurd h n0⟩, fun i j h => absurd h n0, ⟨rfl, Nat.zero_le _, z00, rfl, ?_, ?_, ?_, ?_, ?_, ?_, ?_⟩⟩
  · exact fun w _ => rfl
  · exact fun w _ => Nat.le_refl _
  · rfl
  · exact fun w t h => absurd h (Nat.not_lt_zero _)
  · exact fun w s t i j h => absurd h (Nat.not_lt_zero _)
  · exact fun i h => absurd h n0
  · exact fun i h => absurd h n0
theorem st_rules (bk : Nat → Nat) : va_up (va_up (va_up (va_up (va_up (va_up (va_up (va_up (va_up (va_up (fun _ => none) (0) (some (bk 17))) (1) (some (bk 18))) (2) (some (bk 19))) (3) (some (bk 20))) (4) (some (bk 21))) (5) (some (bk 22))) (6) (some (bk 23))) (7) (some (bk 24))) (8) (some (bk 25))) (9) (some (bk 26)) = fun j : Nat => if j < 10 then some (bk (j + 17)) else none := by
  funext j
  match j with
  | 0 => rfl
  | 1 => rfl
  | 2 => rfl
  | 3 => rfl
  | 4 => rfl
  | 5 => rfl
  | 6 => rfl
  | 7 => rfl
  | 8 => rfl
  | 9 => rfl
  | j + 10 =>
    rw [if_neg (by omega)]
    repeat rw [va_up_ne _ _ (by omega)]

theorem VO_mono {e : Nat → Nat} {v : Nat} (h : ∀ w, w < v → e w ≤ e (w + 1)) : ∀ d w, w + d ≤ v → e w ≤ e (w + d)
  | 0, w, _ => Nat.le_refl _
  | d + 1, w, hw => Nat.le_trans (VO_mono h d w (by omega)) (h (w + d) (by omega))
theorem VO_open {n v m : Nat} {g q : Nat → Nat → Int32} (H : VO n v m g q) (hv : v < 40) : VO n (v + 1) (m + 1) g (va_up q 8 (upd (q 8) (v + 1) (q 8 v))) := by
  obtain ⟨c1, c2, e, c3, c4, c5, c6, c7, c8, c9, c10⟩ := H
  have E : ∀ w, w ≤ v → va_up e (v + 1) (e v) w = e w := fun w hw => va_up_ne _ _ (by omega)
  have E1 : va_up e (v + 1) (e v) (v + 1) = e v := va_up_self _ _ _
  refine ⟨by omega, by omega, va_up e (v + 1) (e v), ?_, ?_, ?_, ?_, ?_, ?_, ?_, c10⟩
  · rw [E 0 (by omega)]; exact c3
  · intro w hw
    show upd (q 8) (v + 1) (q 8 v) w = _
    by_cases e1 : w = v + 1
    · rw [e1, pk_us, E1]; exact c4 v (Nat.le_refl _)
    · rw [pk_un e1, E w (by omega)]; exact c4 w (by omega)
  · intro w hw
    rw [E w (by omega)]
    by_cases e1 : w = v
    · rw [e1, E1]; exact Nat.le_refl _
    · rw [E (w + 1) (by omega)]; exact c5 w (by omega)
  · rw [E1]; exact c6
  · intro w t hw
    rw [E w (by omega)]
    by_cases e1 : w = v
    · rw [e1, E1]; intro h1 h2; omega
    · rw [E (w + 1) (by omega)]; exact c7 w t (by omega)
  · intro w s t i j hw
    rw [E w (by omega)]
    by_cases e1 : w = v
    · rw [e1, E1]; intro h1 h2 h3; omega
    · rw [E (w + 1) (by omega)]; exact c8 w s t i j (by omega)
  · intro i hi h5
    obtain ⟨w, t, q1, q2, q3, q4, q5⟩ := c9 i hi h5
    exact ⟨w, t, by omega, q2, by rw [E w (by omega)]; exact q3, by rw [E (w + 1) (by omega)]; exact q4, q5⟩
abbrev mkB (v : Nat) (h : Nat → Int32) : Nat → Int32 := upd (upd h 4 5) 9 (nI v)
theorem VO_add {n v m j : Nat} {g q : Nat → Nat → Int32} (H : VO n (v + 1) m g q) (hn : n ≤ 200) (hj : j < n) (h4 : g j 4 = 3) (hlt : ∀ x, x < n → g x 9 = nI v → g x 1 < g j 1) : VO n (v + 1) m (va_up g j (mkB v (g j))) (va_up (va_up q 7 (upd (q 7) (cB g n) (nI j))) 8 (upd (q 8) (v + 1) (nI (cB g n + 1)))) := by
  obtain ⟨c1, c2, e, c3, c4, c5, c6, c7, c8, c9, c10⟩ := H
  have n5 : g j 4 ≠ 5 := by rw [h4]; decide
  have E : ∀ w, w ≤ v → va_up e (v + 1) (e (v + 1) + 1) w = e w := fun w hw => va_up_ne _ _ (by omega)
  have E1 : va_up e (v + 1) (e (v + 1) + 1) (v + 1) = e (v + 1) + 1 := va_up_self _ _ _
  have M : ∀ w, w ≤ v + 1 → e w ≤ e (v + 1) := fun w hw => by
    have := VO_mono c5 (v + 1 - w) w (by omega)
    rwa [show w + (v + 1 - w) = v + 1 by omega] at this
  have G : ∀ x, x ≠ j → va_up g j (mkB v (g j)) x = g x := fun x hx => va_up_ne _ _ hx
  have G1 : va_up g j (mkB v (g j)) j = mkB v (g j) := va_up_self _ _ _
  have N5 : ∀ x, g x 4 = 5 → x ≠ j := fun x hx ex => by rw [ex] at hx; exact n5 hx
  rw [← c6]
  have Q7 : ∀ t, t < e (v + 1) → upd (q 7) (e (v + 1)) (nI j) t = q 7 t := fun t ht => pk_un (by omega)
  have old : ∀ w t, w < v + 1 → e w ≤ t → t < va_up e (v + 1) (e (v + 1) + 1) (w + 1) → t ≠ e (v + 1) → t < e (w + 1) := by
    intro w t hw h1 h2 h3
    by_cases e1 : w = v
    · rw [e1, E1] at h2; rw [e1]; omega
    · rw [E (w + 1) (by omega)] at h2; exact h2
  refine ⟨c1, c2, va_up e (v + 1) (e (v + 1) + 1), ?_, ?_, ?_, ?_, ?_, ?_, ?_, ?_⟩
  · rw [E 0 (by omega)]; exact c3
  · intro w hw
    show upd (q 8) (v + 1) (nI (e (v + 1) + 1)) w = _
    by_cases e1 : w = v + 1
    · rw [e1, pk_us, E1]
    · rw [pk_un e1, E w (by omega)]; exact c4 w hw
  · intro w hw
    rw [E w (by omega)]
    by_cases e1 : w = v
    · rw [e1, E1]; have := c5 v (by omega); omega
    · rw [E (w + 1) (by omega)]; exact c5 w hw
  · rw [E1, cB_up n5 rfl n hj, c6]
  · intro w t hw
    rw [E w (by omega)]
    intro h1 h2
    show ∃ i, i < n ∧ upd (q 7) (e (v + 1)) (nI j) t = nI i ∧ _
    by_cases et : t = e (v + 1)
    · have ew : w = v := by
        by_cases e1 : w = v
        · exact e1
        · rw [E (w + 1) (by omega)] at h2; have := M (w + 1) (by omega); omega
      refine ⟨j, hj, by rw [et, pk_us], ?_, ?_⟩
      · rw [G1, ew]; rfl
      · rw [G1]; rfl
    · have h3 := old w t hw h1 h2 et
      obtain ⟨i, hi, r1, r2, r3⟩ := c7 w t hw h1 h3
      have := M (w + 1) (by omega)
      exact ⟨i, hi, by rw [Q7 t (by omega)]; exact r1, by rw [G i (N5 i r3)]; exact r2, by rw [G i (N5 i r3)]; exact r3⟩
  · intro w s t i k hw
    rw [E w (by omega)]
    intro hs hst ht hi hk
    show upd (q 7) (e (v + 1)) (nI j) s = nI i → upd (q 7) (e (v + 1)) (nI j) t = nI k → _
    have hw1 := M (w + 1) (by omega)
    have hsE : s < e (v + 1) := by
      by_cases et : t = e (v + 1)
      · omega
      · have := old w t hw (by omega) ht et; omega
    have hs' : s < e (w + 1) := old w s hw hs (by omega) (by omega)
    obtain ⟨i', hi', r1, r2, r3⟩ := c7 w s hw hs hs'
    rw [Q7 s hsE]
    intro qs qt
    have ei : i = i' := by
      have := qs.symm.trans r1
      rwa [nI_eq (by omega) (by omega)] at this
    subst ei
    rw [G i (N5 i r3)]
    by_cases et : t = e (v + 1)
    · have ew : w = v := by
        by_cases e1 : w = v
        · exact e1
        · rw [E (w + 1) (by omega)] at ht; omega
      rw [et, pk_us] at qt
      have ek : j = k := by rwa [nI_eq (by omega) (by omega)] at qt
      subst ek
      rw [G1]
      exact hlt i hi (by rw [r2, ew])
    · have ht' := old w t hw (by omega) ht et
      rw [Q7 t (by omega)] at qt
      obtain ⟨k', hk', s1, s2, s3⟩ := c7 w t hw (by omega) ht'
      have ek : k = k' := by
        have := qt.symm.trans s1
        rwa [nI_eq (by omega) (by omega)] at this
      subst ek
      rw [G k (N5 k s3)]
      exact c8 w s t i k hw hs hst ht' hi hk qs qt
  · intro i hi h5
    show ∃ w t, w < v + 1 ∧ va_up g j (mkB v (g j)) i 9 = nI w ∧ _ ∧ _ ∧ upd (q 7) (e (v + 1)) (nI j) t = nI i
    by_cases ei : i = j
    · subst ei
      refine ⟨v, e (v + 1), by omega, by rw [G1]; rfl, ?_, ?_, by rw [pk_us]⟩
      · rw [E v (Nat.le_refl _)]; exact c5 v (by omega)
      · rw [E1]; omega
    · rw [G i ei] at h5 ⊢
      obtain ⟨w, t, q1, q2, q3, q4, q5⟩ := c9 i hi h5
      have := M (w + 1) (by omega)
      refine ⟨w, t, q1, q2, by rw [E w (by omega)]; exact q3, ?_, by rw [Q7 t (by omega)]; exact q5⟩
      by_cases e1 : w = v
      · rw [e1, E1]; rw [e1] at q4; omega
      · rw [E (w + 1) (by omega)]; exact q4
  · intro i hi h5
    by_cases ei : i = j
    · subst ei; rw [G1] at h5; exact absurd rfl h5
    · rw [G i ei] at h5 ⊢; exact c10 i hi h5
/-- what is bound up to the ordinal ab -/
def GB (v n : Nat) (P : Nat → Prop) (o : Nat → Int32) (ab : Int32) (g0 g : Nat → Nat → Int32) : Prop := (∀ x, x < n → P x → o x ≤ ab → g x = mkB v (g0 x)) ∧ (∀ x, x < n → ¬ (P x ∧ o x ≤ ab) → g x = g0 x)
section EQ
variable {z bo zm : Nat → Nat} {g0 q0 pp dd a : Nat → Nat → Int32} {th : Int32}
theorem bind_all (H : Rl z bo g0 q0 pp dd zm a) (pt : Int32) (nb : Nat) (hnb : nb ≤ 50) (v : Nat) (hv9 : ∀ x, x < z 0 → g0 x 9 ≠ nI v) (zz : Nat → Nat) (hz3 : zz 3 = v + 1) : ∀ (k i f r kk : Nat) (ab : Int32) (g q : Nat → Nat → Int32) (e : Nat), i + k = z 0 → f + r = nb → IV (pH a pt) (a 5) bo (z 0) i ab → GB v (z 0) (pH a pt) (a 5) ab g0 g → (v < 40 → VO (z 0) (v + 1) (v + 1) g q) → e = cB g (z 0) →
    (lp_isB bo g0 pt nb k i f = 0 ∧ lp_mb1 th zm a pt nb r ab kk = (-3, th, zm, a)) ∨ (lp_isB bo g0 pt nb k i f = 1 ∧ ∃ ab' kk' g' q', lp_mb1 th zm a pt nb r ab kk = lp_mb1 th zm a pt nb 0 ab' kk' ∧ lp_bindN pt nb v k zz bo g q pp dd i f e = (nI v, zz, bo, g', q', pp, dd) ∧ GB v (z 0) (pH a pt) (a 5) ab' g0 g' ∧ (v < 40 → VO (z 0) (v + 1) (v + 1) g' q') ∧ (∀ c, c ≠ 7 → c ≠ 8 → q' c = q c))
  | 0, i, f, r, kk, ab, g, q, e, hik, hfr, hI, hG, hV, he => by
    have hO := Rl_OR H
    have z2 := H.1.2.1
    cases r with
    | zero =>
      refine Or.inr ⟨by rw [lp_isB, if_pos (by rw [show f = nb from hfr])], ab, kk, g, q, rfl, by rw [lp_bindN], hG, hV, fun _ _ _ => rfl⟩
    | succ r =>
      have en := IV_end (by omega) hO (show IV (pH a pt) (a 5) bo (z 0) (z 0) ab by have := hI; rwa [show i = z 0 from hik] at this)
      rw [← nxt_here] at en
      have ne : ¬ nI f = nI nb := by rw [nI_eq (by omega) (by omega)]; omega
      refine Or.inl ⟨by rw [lp_isB, if_neg ne], ?_⟩
      rw [lp_mb1, ← H.1.1, en, if_pos (by decide)]
  | k + 1, i, f, r, kk, ab, g, q, e, hik, hfr, hI, hG, hV, he => by
    have hO := Rl_OR H
    have hQ := Rl_QH H pt
    have z2 := H.1.2.1
    cases r with
    | zero =>
      have y : nI nb ≤ nI f := by rw [show f = nb from hfr]; exact Int32.le_refl _
      refine Or.inr ⟨by rw [lp_isB, if_pos y, if_pos (by rw [show f = nb from hfr])], ab, kk, g, q, rfl, by rw [lp_bindN, if_pos y], hG, hV, fun _ _ _ => rfl⟩
    | succ r =>
      have ny : ¬ nI nb ≤ nI f := by
        rw [Int32.le_iff_toInt_le, nI_toInt (by omega), nI_toInt (by omega)]; omega
      have hbi : bo i < z 0 := hO.1 i (by omega)
      obtain ⟨⟨⟨h0, h1, -, -, h4, -, -, -, -, -, -, h12, h13⟩, -⟩, -⟩ := H.2.1 (bo i) hbi
      rw [lp_isB, lp_bindN, if_neg ny, if_neg ny, h0, h4, h12, h13]
      have eg : g (bo i) = g0 (bo i) := by
        refine hG.2 (bo i) hbi (fun h => ?_)
        exact absurd h.2 (Int32.not_le.mpr (hI.2 i (Nat.le_refl _) (by omega) h.1))
      rw [eg, h0, h4]
      by_cases p : pH a pt (bo i)
      · have en := IV_hit (by omega) hO hQ hI (by omega) p
        have hI2 := IV_on hO hQ hI (by omega) p
        rw [← nxt_here] at en
        rw [if_pos p.1, if_pos p.2, if_pos p.1, if_pos p.2, lp_mb1, ← H.1.1, en, if_neg (nI_pos (by omega)), nI_clamp (by omega)]
        by_cases o : 0 ≤ a 19 (bo i) ∧ a 19 (bo i) < a 16 (bo i)
        · rw [if_pos o, if_pos o]; exact Or.inl ⟨rfl, rfl⟩
        · rw [if_neg o, if_neg o]
          have g4 : g (bo i) 4 = 3 := by rw [eg, h4]; exact p.2
          have hG2 : GB v (z 0) (pH a pt) (a 5) (a 5 (bo i)) g0 (va_up g (bo i) (mkB v (g0 (bo i)))) := by
            refine ⟨fun x hx px ox => ?_, fun x hx nx => ?_⟩
            · by_cases ex : x = bo i
              · rw [ex, va_up_self]
              · rw [va_up_ne _ _ ex]
                obtain ⟨t, ht, rfl⟩ := pigeon (z 0) bo hO.1 hO.2.1 x hx
                by_cases et : t < i
                · exact hG.1 _ hx px (hI.1 t et px)
                · by_cases e2 : t = i
                  · rw [e2] at ex; exact absurd rfl ex
                  · exact absurd ox (Int32.not_le.mpr (hI2.2 t (by omega) ht px))
            · by_cases ex : x = bo i
              · rw [ex] at nx; exact absurd ⟨p, Int32.le_refl _⟩ nx
              · rw [va_up_ne _ _ ex]
                refine hG.2 x hx (fun h => nx ⟨h.1, ?_⟩)
                exact Int32.le_of_lt (Int32.lt_of_le_of_lt h.2 (hI.2 i (Nat.le_refl _) (by omega) p))
          have hV2 : v < 40 → VO (z 0) (v + 1) (v + 1) (va_up g (bo i) (mkB v (g0 (bo i)))) (va_up (va_up q 7 (upd (q 7) e (nI (bo i)))) 8 (upd (q 8) (zz 3) (nI (e + 1)))) := by
            intro hv
            have K := VO_add (hV hv) z2 hbi g4 (fun x hx x9 => by
              by_cases m : pH a pt x ∧ a 5 x ≤ ab
              · rw [hG.1 x hx m.1 m.2, eg, h1]
                show g0 x 1 < a 5 (bo i)
                rw [(H.2.1 x hx).1.1.2.1]
                exact Int32.lt_of_le_of_lt m.2 (hI.2 i (Nat.le_refl _) (by omega) p)
              · rw [hG.2 x hx m] at x9
                exact absurd x9 (hv9 x hx))
            rw [hz3, he]
            rw [eg] at K
            exact K
          have he2 : e + 1 = cB (va_up g (bo i) (mkB v (g0 (bo i)))) (z 0) := by
            rw [cB_up (by rw [g4]; decide) rfl (z 0) hbi, he]
          rcases bind_all H pt nb hnb v hv9 zz hz3 k (i + 1) (f + 1) r (kk + 1) (a 5 (bo i)) _ _ (e + 1) (by omega) (by omega) hI2 hG2 hV2 he2 with ⟨q1, q2⟩ | ⟨q1, ab', kk', g', q', q2, q3, q4, q5, q6⟩
          · exact Or.inl ⟨q1, q2⟩
          · refine Or.inr ⟨q1, ab', kk', g', q', q2, q3, q4, q5, fun c c7 c8 => ?_⟩
            rw [q6 c c7 c8, va_up_ne _ _ c8, va_up_ne _ _ c7]
      · have S := bind_all H pt nb hnb v hv9 zz hz3 k (i + 1) f (r + 1) kk ab g q e (by omega) (by omega) (IV_skip hI p) hG hV he
        by_cases c0 : a 4 (bo i) = pt
        · have c3 : ¬ a 6 (bo i) = 3 := fun h => p ⟨c0, h⟩
          rw [if_pos c0, if_neg c3, if_pos c0, if_neg c3]; exact S
        · rw [if_neg c0, if_neg c0]; exact S
theorem mb2_sp {pt ab : Int32} (zm : Nat → Nat) : ∀ (k i : Nat) (a : Nat → Nat → Int32), ∃ a', lp_mb2 pt ab k th zm a i = (nI (zm 2), th, va_up zm 2 (zm 2 + 1), a') ∧ (∀ c, c ≠ 6 → c ≠ 12 → a' c = a c) ∧ (∀ x, i ≤ x → x < i + k → pH a pt x → a 5 x ≤ ab → a' 6 x = 5 ∧ a' 12 x = nI (zm 2)) ∧ (∀ x, ¬ (i ≤ x ∧ x < i + k ∧ pH a pt x ∧ a 5 x ≤ ab) → a' 6 x = a 6 x ∧ a' 12 x = a 12 x)
  | 0, i, a => ⟨a, by rw [lp_mb2], fun _ _ _ => rfl, fun x h1 h2 => by omega, fun _ _ => ⟨rfl, rfl⟩⟩
  | k + 1, i, a => by
    rw [lp_mb2]
    by_cases m : pH a pt i ∧ a 5 i ≤ ab
    · rw [if_pos m.1.1, if_pos m.1.2, if_pos m.2]
      obtain ⟨a', e1, e2, e3, e4⟩ := mb2_sp zm k (i + 1) (va_up (va_up a 6 (upd (a 6) i 5)) 12 (upd (a 12) i (nI (zm 2))))
      have P : ∀ x, x ≠ i → (pH (va_up (va_up a 6 (upd (a 6) i 5)) 12 (upd (a 12) i (nI (zm 2)))) pt x ↔ pH a pt x) := by
        intro x hx
        show (a 4 x = pt ∧ upd (a 6) i 5 x = 3) ↔ _
        rw [pk_un hx]
      refine ⟨a', e1, fun c c6 c12 => ?_, fun x h1 h2 hp h5 => ?_, fun x hx => ?_⟩
      · rw [e2 c c6 c12, va_up_ne _ _ c12, va_up_ne _ _ c6]
      · by_cases ex : x = i
        · subst ex
          obtain ⟨y1, y2⟩ := e4 x (fun h => by omega)
          rw [y1, y2]
          show upd (a 6) x 5 x = 5 ∧ upd (a 12) x (nI (zm 2)) x = nI (zm 2)
          rw [pk_us, pk_us]; exact ⟨rfl, rfl⟩
        · exact e3 x (by omega) (by omega) ((P x ex).mpr hp) h5
      · by_cases ex : x = i
        · subst ex; exact absurd ⟨Nat.le_refl _, by omega, m.1, m.2⟩ hx
        · obtain ⟨y1, y2⟩ := e4 x (fun h => hx ⟨by omega, by omega, (P x ex).mp h.2.2.1, h.2.2.2⟩)
          rw [y1, y2]
          show upd (a 6) i 5 x = a 6 x ∧ upd (a 12) i (nI (zm 2)) x = a 12 x
          rw [pk_un ex, pk_un ex]; exact ⟨rfl, rfl⟩
    · have e0 : (if a 4 i = pt then (if a 6 i = 3 then (if a 5 i ≤ ab then lp_mb2 pt ab k th zm (va_up (va_up a 6 (upd (a 6) i 5)) 12 (upd (a 12) i (nI (zm 2)))) (i + 1) else lp_mb2 pt ab k th zm a (i + 1)) else lp_mb2 pt ab k th zm a (i + 1)) else lp_mb2 pt ab k th zm a (i + 1)) = lp_mb2 pt ab k th zm a (i + 1) := by
        by_cases c1 : a 4 i = pt
        · by_cases c2 : a 6 i = 3
          · by_cases c3 : a 5 i ≤ ab
            · exact absurd ⟨⟨c1, c2⟩, c3⟩ m
            · rw [if_pos c1, if_pos c2, if_neg c3]
          · rw [if_pos c1, if_neg c2]
        · rw [if_neg c1]
      rw [e0]
      obtain ⟨a', e1, e2, e3, e4⟩ := mb2_sp zm k (i + 1) a
      refine ⟨a', e1, e2, fun x h1 h2 hp h5 => ?_, fun x hx => ?_⟩
      · by_cases ex : x = i
        · subst ex; exact absurd ⟨hp, h5⟩ m
        · exact e3 x (by omega) (by omega) hp h5
      · refine e4 x (fun h => hx ⟨by omega, by omega, h.2.2.1, h.2.2.2⟩)
end EQ

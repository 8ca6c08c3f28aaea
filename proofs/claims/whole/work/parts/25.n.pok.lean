/-! PURE: what is read without a fault is a program -/
def stOK (h s : Nat) (nu : Nat → Nat) (b : Nat) : Prop := s < 9 ∧ ∀ w, w < arM s → mayM h s w (nu (b + w))
def PV (h : Nat) (x : PT9) : Prop := x.2.2.1 ≤ 7 ∧ (∀ i, i < x.2.2.1 → stOK h (x.2.2.2.1 i) x.2.2.2.2 (4 * i)) ∧ (x.1 = 9 ∨ (x.1 < 9 ∧ x.2.2.1 < 7 ∧ x.2.2.2.1 x.2.2.1 = x.1 ∧ x.2.1 ≤ arM x.1 ∧ ∀ w, w < x.2.1 → mayM h x.1 w (x.2.2.2.2 (4 * x.2.2.1 + w))))
theorem PV_tok {h k v : Nat} {x : PT9} (hx : PV h x) (hk : k < 13) : PV h (tokS h x k v).2 := by
  obtain ⟨s, gv, ln, so, nu⟩ := x
  obtain ⟨h1, h2, h3⟩ := hx
  simp only at h1 h2 h3
  unfold tokS
  simp only
  split
  · split
    · exact ⟨h1, h2, h3⟩
    · split
      · exact ⟨h1, h2, h3⟩
      · refine ⟨h1, fun i hi => ?_, Or.inr ⟨by show k - 4 < 9; omega, by show ln < 7; omega, upN_s, Nat.zero_le _, fun w hw => absurd hw (Nat.not_lt_zero w)⟩⟩
        have hi : i < ln := hi
        show stOK h (upN so ln (k - 4) i) nu (4 * i)
        rw [upN_n (by omega)]
        exact h2 i hi
  · rename_i h9
    rcases h3 with h3 | ⟨a1, a2, a3, a4, a5⟩
    · exact absurd h3 h9
    · split
      · rename_i hgv
        split
        · split
          · rename_i hm
            refine ⟨h1, fun i hi => ?_, Or.inr ⟨a1, a2, a3, by show gv + 1 ≤ arM s; omega, fun w hw => ?_⟩⟩
            · have hi : i < ln := hi
              obtain ⟨b1, b2⟩ := h2 i hi
              refine ⟨b1, fun w hw => ?_⟩
              have h4 := arM_le (so i)
              have hw : w < arM (so i) := hw
              show mayM h (so i) w (upN nu (4 * ln + gv) v (4 * i + w))
              rw [upN_n (by omega)]
              exact b2 w hw
            · have hw : w < gv + 1 := hw
              show mayM h s w (upN nu (4 * ln + gv) v (4 * ln + w))
              by_cases e : w = gv
              · subst e; rw [upN_s]; exact hm
              · rw [upN_n (by omega)]; exact a5 w (by omega)
          · exact ⟨h1, h2, Or.inr ⟨a1, a2, a3, a4, a5⟩⟩
        · exact ⟨h1, h2, Or.inr ⟨a1, a2, a3, a4, a5⟩⟩
      · rename_i hgv
        split
        · refine ⟨by show ln + 1 ≤ 7; omega, fun i hi => ?_, Or.inl rfl⟩
          have hi : i < ln + 1 := hi
          show stOK h (so i) nu (4 * i)
          by_cases e : i = ln
          · subst e
            rw [a3]
            exact ⟨a1, fun w hw => a5 w (by omega)⟩
          · exact h2 i (by omega)
        · exact ⟨h1, h2, Or.inr ⟨a1, a2, a3, a4, a5⟩⟩
theorem kF_13 {q : Nat → Nat} {n p : Nat} : kF q n p < 13 := by
  unfold kF
  split
  · split
    · decide
    · split
      · unfold wkM
        split
        · decide
        · split
          · have := wordV_or (pkP q p (eF q n p - p)); omega
          · decide
      · split <;> decide
  · decide
theorem PV_run {q : Nat → Nat} {n h : Nat} : ∀ (c a : Nat) (x : PT9), PV h x → PV h (runT q n h c a x).2.2 := by
  intro c
  induction c with
  | zero => intro a x hx; exact hx
  | succ c ih =>
    intro a x hx
    rw [runT]
    split
    · exact hx
    · split
      · exact ih _ _ (PV_tok hx kF_13)
      · exact PV_tok hx kF_13
theorem okS_may {h s : Nat} {nu : Nat → Nat} {b : Nat} (hh : h < 2) (hs : stOK h s nu b) : okS s (nu b) (nu (b + 1)) (nu (b + 2)) (nu (b + 3)) ∧ (s = 8 → nu (b + 2) ≤ 7) := by
  obtain ⟨h9, hm⟩ := hs
  have m : ∀ w, w < arM s → mayM h s w (nu (b + w)) := hm
  refine ⟨⟨h9, fun e => ?_, fun e => ?_, fun e => ?_, fun e => ?_, fun e => ?_, fun e => ?_, fun e => ?_⟩, fun e => ?_⟩
  · subst e; have a := m 0 (by decide); have b := m 1 (by decide); rw [Nat.add_zero] at a; unfold mayM at a b; omega
  · subst e; have a := m 0 (by decide); have b := m 1 (by decide); rw [Nat.add_zero] at a; unfold mayM at a b; omega
  · subst e; have a := m 0 (by decide); have b := m 1 (by decide); have c := m 2 (by decide); have d := m 3 (by decide); rw [Nat.add_zero] at a; unfold mayM at a b c d; omega
  · subst e; have a := m 0 (by decide); have b := m 1 (by decide); have c := m 2 (by decide); rw [Nat.add_zero] at a; unfold mayM at a b c; omega
  · subst e; have a := m 0 (by decide); have b := m 1 (by decide); rw [Nat.add_zero] at a; unfold mayM at a b; omega
  · subst e; have a := m 0 (by decide); have b := m 1 (by decide); rw [Nat.add_zero] at a; unfold mayM at a b; omega
  · subst e; have a := m 0 (by decide); have b := m 1 (by decide); have c := m 2 (by decide); rw [Nat.add_zero] at a; unfold mayM at a b c; omega
  · subst e; have c := m 2 (by decide); unfold mayM at c; omega
theorem PV_0 (h : Nat) (so nu : Nat → Nat) : PV h (9, 0, 0, so, nu) := ⟨Nat.zero_le 7, fun i hi => absurd hi (Nat.not_lt_zero i), Or.inl rfl⟩

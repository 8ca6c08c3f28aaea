/-! PURE: a step goes forward; what holds of a walk -/
theorem phi_w16 {x pos v : Nat} (hp : pos + 2 ≤ 16) (hv : v < 4) : phiM (withN x pos 2 v) = phiM x := by
  have hv : v < 2 ^ 2 := hv
  unfold phiM
  simp (disch := omega) only [bw_ne]
theorem phi_at {x h v : Nat} (hh : h < 2) (h8 : v < 8) (hv : bitsN x (16 + 3 * h) 3 < v) : phiM x + 2 ≤ phiM (withN x (16 + 3 * h) 3 v) := by
  have h8 : v < 2 ^ 3 := h8
  unfold phiM
  rcases (show h = 0 ∨ h = 1 by omega) with rfl | rfl
  · simp (disch := omega) only [bw_ne, bw_same, Nat.reduceMul, Nat.reduceAdd] at *
    omega
  · simp (disch := omega) only [bw_ne, bw_same, Nat.reduceMul, Nat.reduceAdd] at *
    omega
theorem phi_enq {x h q : Nat} (hh : h < 2) (hn : ¬ bitsN x (22 + 2 * h) 2 = 3) (hq : q < 8) : phiM x ≤ phiM (withN (withN x (26 + 9 * h + 3 * bitsN x (22 + 2 * h) 2) 3 q) (22 + 2 * h) 2 (bitsN x (22 + 2 * h) 2 + 1)) + 1 := by
  have h8 : q < 2 ^ 3 := hq
  have h4 : bitsN x (22 + 2 * h) 2 < 4 := bitsN_lt _ _ _
  have h5 : bitsN x (22 + 2 * h) 2 + 1 < 2 ^ 2 := by omega
  unfold phiM
  rcases (show h = 0 ∨ h = 1 by omega) with rfl | rfl
  · simp (disch := omega) only [bw_ne, bw_same, Nat.reduceMul, Nat.reduceAdd] at *
    omega
  · simp (disch := omega) only [bw_ne, bw_same, Nat.reduceMul, Nat.reduceAdd] at *
    omega
theorem phi_broken {x h : Nat} (hh : h < 2) (hn : 0 < bitsN x (22 + 2 * h) 2) : phiM x + 1 ≤ phiM (brokenM x h) := by
  have h4 : bitsN x (22 + 2 * h) 2 < 4 := bitsN_lt _ _ _
  have e9 : 0 < 2 ^ 9 := by decide
  have e2 : 0 < 2 ^ 2 := by decide
  have e1 : 1 < 2 ^ 1 := by decide
  unfold phiM brokenM
  rcases (show h = 0 ∨ h = 1 by omega) with rfl | rfl
  · simp (disch := omega) only [bw_ne, bw_same, Nat.reduceMul, Nat.reduceAdd] at *
    omega
  · simp (disch := omega) only [bw_ne, bw_same, Nat.reduceMul, Nat.reduceAdd] at *
    omega
theorem phi_fall {x v : Nat} (h0 : bitsN x 46 2 = 0) (hv : v < 4) (h1 : 0 < v) : phiM x + 1 ≤ phiM (withN x 46 2 v) := by
  have hv : v < 2 ^ 2 := hv
  unfold phiM
  simp (disch := omega) only [bw_ne, bw_same]
  rw [if_pos h0, if_neg (by omega)]
  omega
theorem phi_shift {x h wh y : Nat} (hh : h < 2) (h3 : wh < 3) : phiM (shiftM x h wh y) = phiM y := by
  have d1 : bitsN x (26 + 9 * h + 3) 3 < 2 ^ 3 := bitsN_lt _ _ _
  have d2 : bitsN x (26 + 9 * h + 6) 3 < 2 ^ 3 := bitsN_lt _ _ _
  have d0 : 0 < 2 ^ 3 := by decide
  unfold shiftM phiM
  rcases (show h = 0 ∨ h = 1 by omega) with rfl | rfl
  · rcases (show wh = 0 ∨ wh = 1 ∨ wh = 2 by omega) with rfl | rfl | rfl <;> simp (disch := omega) only [bw_ne, Nat.reduceMul, Nat.reduceAdd, reduceIte, Nat.reduceEqDiff] at *
  · rcases (show wh = 0 ∨ wh = 1 ∨ wh = 2 by omega) with rfl | rfl | rfl <;> simp (disch := omega) only [bw_ne, Nat.reduceMul, Nat.reduceAdd, reduceIte, Nat.reduceEqDiff] at *
theorem phi_cnt {x h : Nat} (hh : h < 2) (hn : 0 < bitsN x (22 + 2 * h) 2) : phiM x + 1 ≤ phiM (withN x (22 + 2 * h) 2 (bitsN x (22 + 2 * h) 2 - 1)) := by
  have h4 : bitsN x (22 + 2 * h) 2 < 4 := bitsN_lt _ _ _
  have h5 : bitsN x (22 + 2 * h) 2 - 1 < 2 ^ 2 := by omega
  unfold phiM
  rcases (show h = 0 ∨ h = 1 by omega) with rfl | rfl
  · simp (disch := omega) only [bw_ne, bw_same, Nat.reduceMul, Nat.reduceAdd] at *
    omega
  · simp (disch := omega) only [bw_ne, bw_same, Nat.reduceMul, Nat.reduceAdd] at *
    omega
theorem phi_act {g : Nat → Nat → Nat} {x h so k : Nat} (hh : h < 2) (hs : so < 4) (hok : okS so (g 3 (4 * k)) (g 3 (4 * k + 1)) (g 3 (4 * k + 2)) (g 3 (4 * k + 3))) : phiM (actM g x h so k) = phiM x := by
  have ha := okS_a hok hs
  have hi : bitsN x (2 * g 3 (4 * k)) 2 < 4 := bitsN_lt _ _ _
  unfold actM
  split
  · exact phi_w16 (by omega) (by omega)
  · split
    · have := okS_b hok (by assumption)
      exact phi_w16 (by omega) hi
    · split
      · have := (okS_c hok).1 (by assumption)
        rw [phi_w16 (by omega) (by omega), phi_w16 (by omega) hi]
      · have h2 : so = 2 := by omega
        have := okS_d hok h2
        have := (okS_c hok).2 h2
        split
        · rw [phi_w16 (by omega) (by omega), phi_w16 (by omega) hi]
        · exact phi_w16 (by omega) hi
theorem phi_does {g : Nat → Nat → Nat} {x h y : Nat} (hL : okL g) (hx : wfM g x) (hh : h < 2) (e : doesM g x h = some y) : phiM x + 1 ≤ phiM y := by
  have hp := (hx.2 h hh).1
  have h7 := (hL h hh).1
  unfold doesM at e
  split at e
  · cases e
  · split at e
    · cases e
    · split at e
      · cases e
      · rename_i _ _ hne
        have hok := (hL h hh).2 (bitsN x (16 + 3 * h) 3) (by omega)
        have hnx : phiM x + 2 ≤ phiM (withN x (16 + 3 * h) 3 (bitsN x (16 + 3 * h) 3 + 1)) := phi_at hh (by omega) (by omega)
        have hi : ∀ f, bitsN x f 2 < 4 := fun f => bitsN_lt _ _ _
        unfold doesM2 at e
        split at e
        · split at e
          · cases e
          · cases e; omega
        · split at e
          · split at e
            · cases e; omega
            · cases e
          · split at e
            · have := okS_6 hok (by assumption)
              cases e; rw [phi_w16 (by omega) (by omega)]; omega
            · split at e
              · have := okS_7 hok (by assumption)
                cases e; rw [phi_w16 (by omega) (hi _)]; omega
              · split at e
                · split at e
                  · split at e
                    · cases e; exact Nat.le_trans (by omega) (phi_at (x := x) hh (by omega) (by omega))
                    · cases e; exact Nat.le_trans (by omega) (phi_at (x := x) hh (by omega) (by omega))
                  · split at e
                    · cases e; exact Nat.le_trans (by omega) (phi_at (x := x) hh (by omega) (by omega))
                    · cases e; exact Nat.le_trans (by omega) (phi_at (x := x) hh (by omega) (by omega))
                · split at e
                  · cases e
                  · have en : bitsN (withN x (16 + 3 * h) 3 (bitsN x (16 + 3 * h) 3 + 1)) (22 + 2 * h) 2 = bitsN x (22 + 2 * h) 2 := bw_ne (show bitsN x (16 + 3 * h) 3 + 1 < 2 ^ 3 by omega) (by omega)
                    have := phi_enq (x := withN x (16 + 3 * h) 3 (bitsN x (16 + 3 * h) 3 + 1)) (q := bitsN x (16 + 3 * h) 3) hh (by rw [en]; assumption) (by omega)
                    rw [en] at this
                    cases e
                    omega
theorem phi_wishE {g : Nat → Nat → Nat} {x h wh y : Nat} (hL : okL g) (hx : wfM g x) (hh : h < 2) (hw : wh < bitsN x (22 + 2 * h) 2) (e : wishE g x h wh = some y) : phiM x + 1 ≤ phiM y := by
  have hq := (hx.2 h hh).2 wh hw
  have hok := (hL h hh).2 _ hq.1
  have h4 : bitsN x (22 + 2 * h) 2 < 4 := bitsN_lt _ _ _
  unfold wishE at e
  split at e
  · cases e; exact phi_broken hh (by omega)
  · split at e
    · cases e; exact phi_broken hh (by omega)
    · cases e
      rw [phi_act hh hq.2 hok, phi_shift hh (by omega)]
      exact phi_cnt hh (by omega)
theorem phi_wish {g : Nat → Nat → Nat} {x h wh y : Nat} (hL : okL g) (hx : wfM g x) (hh : h < 2) (h3 : wh < 3) (e : wishM g x h wh = some y) : phiM x + 1 ≤ phiM y := by
  rcases (show wh = 0 ∨ wh = 1 ∨ wh = 2 by omega) with rfl | rfl | rfl
  · have e : wishM0 g x h = some y := e
    unfold wishM0 at e
    split at e
    · exact phi_wishE hL hx hh (by assumption) e
    · cases e
  · have e : wishM1 g x h = some y := e
    unfold wishM1 at e
    split at e
    · split at e
      · cases e
      · split at e
        · exact phi_wishE hL hx hh (by assumption) e
        · cases e
    · cases e
  · have e : wishM2 g x h = some y := e
    unfold wishM2 at e
    split at e
    · split at e
      · cases e
      · split at e
        · split at e
          · exact phi_wishE hL hx hh (by assumption) e
          · cases e
        · cases e
    · cases e
theorem phi_step {mf : Nat} {g : Nat → Nat → Nat} {x k y : Nat} (hL : okL g) (hx : wfM g x) (hk : k < 10) (e : stepM mf g x k = some y) : phiM x + 1 ≤ phiM y := by
  unfold stepM at e
  split at e
  · split at e
    · split at e
      · split at e
        · cases e
        · split at e
          · cases e; exact phi_fall (by assumption) (by omega) (by omega)
          · cases e
      · exact phi_wish hL hx (by omega) (by omega) e
    · exact phi_wish hL hx (by omega) (by omega) e
  · exact phi_does hL hx (by omega) e
theorem phi_le {g : Nat → Nat → Nat} {x : Nat} (hL : okL g) (hx : wfM g x) : phiM x ≤ 35 := by
  have a := (hx.2 0 (by decide)).1
  have b := (hx.2 1 (by decide)).1
  have p := (hL 0 (by decide)).1
  have q := (hL 1 (by decide)).1
  simp only [Nat.reduceMul, Nat.reduceAdd] at *
  unfold phiM
  split <;> omega
/-- what holds of a walk at every time -/
def BInv (g : Nat → Nat → Nat) (b : BT) : Prop := b.1 ≤ 12001 ∧ ∀ i, i < b.1 → wfM g (b.2.1 i) ∧ b.2.2.2.2 i + 6 ≤ phiM (b.2.1 i) ∧ b.2.2.2.1 i < 10 ∧ ((b.2.2.1 i = 4294967295 ∧ b.2.2.2.2 i = 0) ∨ (b.2.2.1 i < i ∧ b.2.2.2.2 i = b.2.2.2.2 (b.2.2.1 i) + 1))
theorem BInv_ins {g : Nat → Nat → Nat} {b : BT} {x fr k : Nat} (h : BInv g b) (hx : wfM g x) (hk : k < 10) (hf : (fr = 4294967295 ∧ 6 ≤ phiM x) ∨ (fr < b.1 ∧ b.2.2.2.2 fr + 7 ≤ phiM x)) : BInv g (insB b x fr k) := by
  obtain ⟨n, t, pa, st, fa⟩ := b
  obtain ⟨h1, h2⟩ := h
  simp only at h1 h2 hf
  unfold insB
  split
  · exact ⟨h1, h2⟩
  · split
    · rename_i _ hn
      simp only at hn
      refine ⟨by show n + 1 ≤ 12001; omega, fun i hi => ?_⟩
      have hi : i < n + 1 := hi
      simp only
      by_cases e : i = n
      · subst e
        rw [upN_s, upN_s, upN_s, upN_s]
        rcases hf with ⟨rfl, hp⟩ | ⟨hf, hp⟩
        · exact ⟨hx, by rw [if_neg (by decide)]; omega, hk, Or.inl ⟨rfl, if_neg (by decide)⟩⟩
        · rw [if_pos (by omega)]
          exact ⟨hx, by omega, hk, Or.inr ⟨hf, by rw [upN_n (by omega)]⟩⟩
      · rw [upN_n e, upN_n e, upN_n e, upN_n e]
        obtain ⟨a1, a2, a3, a4⟩ := h2 i (by omega)
        refine ⟨a1, a2, a3, ?_⟩
        rcases a4 with a4 | ⟨a4, a5⟩
        · exact Or.inl a4
        · exact Or.inr ⟨a4, by rw [upN_n (by omega)]; exact a5⟩
    · exact ⟨h1, h2⟩
theorem ins_mono {b : BT} {x fr k : Nat} : b.1 ≤ (insB b x fr k).1 ∧ ∀ i, i < b.1 → (insB b x fr k).2.1 i = b.2.1 i ∧ (insB b x fr k).2.2.2.2 i = b.2.2.2.2 i := by
  unfold insB
  split
  · exact ⟨Nat.le_refl _, fun i _ => ⟨rfl, rfl⟩⟩
  · split
    · exact ⟨Nat.le_succ _, fun i hi => ⟨upN_n (Nat.ne_of_lt hi), upN_n (Nat.ne_of_lt hi)⟩⟩
    · exact ⟨Nat.le_refl _, fun i _ => ⟨rfl, rfl⟩⟩
theorem BInv_step {mf : Nat} {g : Nat → Nat → Nat} {b : BT} {i k : Nat} (hL : okL g) (h : BInv g b) (hi : i < b.1) (hk : k < 10) : BInv g (stepB mf g b i k) ∧ b.1 ≤ (stepB mf g b i k).1 := by
  unfold stepB
  split
  · exact ⟨h, Nat.le_refl _⟩
  · rename_i y e
    obtain ⟨a1, a2, -⟩ := h.2 i hi
    have p := phi_step hL a1 hk e
    exact ⟨BInv_ins h (wf_step hL a1 hk e) hk (Or.inr ⟨hi, by omega⟩), ins_mono.1⟩
theorem wf_beg {g : Nat → Nat → Nat} {w : Nat → Nat} (hw : ∀ i, i < 4 → w i < 4) : wfM g (begM w) ∧ 6 ≤ phiM (begM w) := by
  have w0 : w 0 < 2 ^ 2 := hw 0 (by decide)
  have w1 : w 1 < 2 ^ 2 := hw 1 (by decide)
  have w2 : w 2 < 2 ^ 2 := hw 2 (by decide)
  have w3 : w 3 < 2 ^ 2 := hw 3 (by decide)
  have z : ∀ f w, bitsN 0 f w = 0 := fun f w => by simp [bitsN]
  constructor
  · rw [wfM_iff]
    unfold begM
    refine ⟨withN_lt (withN_lt (withN_lt (withN_lt (by decide) w0 (by omega)) w1 (by omega)) w2 (by omega)) w3 (by omega), ?_⟩
    simp (disch := omega) only [bw_ne, z]
    exact ⟨⟨Nat.zero_le _, fun h => absurd h (by decide), fun h => absurd h (by decide), fun h => absurd h (by decide)⟩, ⟨Nat.zero_le _, fun h => absurd h (by decide), fun h => absurd h (by decide), fun h => absurd h (by decide)⟩⟩
  · unfold phiM begM
    simp (disch := omega) only [bw_ne, z]
    decide
theorem BInv_0 (g : Nat → Nat → Nat) (t pa st fa : Nat → Nat) : BInv g (0, t, pa, st, fa) := ⟨Nat.zero_le _, fun i hi => absurd hi (Nat.not_lt_zero i)⟩

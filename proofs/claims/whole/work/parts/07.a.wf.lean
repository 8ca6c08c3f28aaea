/-! PURE: a step leads from a state of the laid programs to another -/
def wfH (g : Nat → Nat → Nat) (h at_ n q0 q1 q2 : Nat) : Prop := at_ ≤ g 1 (2 + h) ∧ (0 < n → q0 < g 1 (2 + h) ∧ g 2 (16 + 8 * h + q0) < 4) ∧ (1 < n → q1 < g 1 (2 + h) ∧ g 2 (16 + 8 * h + q1) < 4) ∧ (2 < n → q2 < g 1 (2 + h) ∧ g 2 (16 + 8 * h + q2) < 4)
theorem wfM_iff {g : Nat → Nat → Nat} {x : Nat} : wfM g x ↔ x < 2 ^ 48 ∧ wfH g 0 (bitsN x 16 3) (bitsN x 22 2) (bitsN x 26 3) (bitsN x 29 3) (bitsN x 32 3) ∧ wfH g 1 (bitsN x 19 3) (bitsN x 24 2) (bitsN x 35 3) (bitsN x 38 3) (bitsN x 41 3) := by
  constructor
  · intro ⟨h0, h1⟩
    refine ⟨h0, ⟨(h1 0 (by omega)).1, ?_, ?_, ?_⟩, ⟨(h1 1 (by omega)).1, ?_, ?_, ?_⟩⟩
    · exact (h1 0 (by omega)).2 0
    · exact (h1 0 (by omega)).2 1
    · exact (h1 0 (by omega)).2 2
    · exact (h1 1 (by omega)).2 0
    · exact (h1 1 (by omega)).2 1
    · exact (h1 1 (by omega)).2 2
  · intro ⟨h0, ⟨a0, a1, a2, a3⟩, ⟨b0, b1, b2, b3⟩⟩
    refine ⟨h0, fun h hh => ?_⟩
    rcases (show h = 0 ∨ h = 1 by omega) with rfl | rfl
    · refine ⟨a0, fun k hk => ?_⟩
      have h4 : bitsN x 22 2 < 4 := bitsN_lt _ _ _
      have hk : k < bitsN x 22 2 := hk
      rcases (show k = 0 ∨ k = 1 ∨ k = 2 by omega) with rfl | rfl | rfl
      · exact a1 hk
      · exact a2 hk
      · exact a3 hk
    · refine ⟨b0, fun k hk => ?_⟩
      have h4 : bitsN x 24 2 < 4 := bitsN_lt _ _ _
      have hk : k < bitsN x 24 2 := hk
      rcases (show k = 0 ∨ k = 1 ∨ k = 2 by omega) with rfl | rfl | rfl
      · exact b1 hk
      · exact b2 hk
      · exact b3 hk
theorem wf_w16 {g : Nat → Nat → Nat} {x pos v : Nat} (hx : wfM g x) (hp : pos + 2 ≤ 16) (hv : v < 4) : wfM g (withN x pos 2 v) := by
  rw [wfM_iff] at *
  refine ⟨withN_lt hx.1 hv (by omega), ?_⟩
  have hv : v < 2 ^ 2 := hv
  simp (disch := omega) only [bw_ne]
  exact hx.2
theorem wf_at {g : Nat → Nat → Nat} {x h v : Nat} (hx : wfM g x) (hh : h < 2) (hv : v ≤ g 1 (2 + h)) (h8 : v < 8) : wfM g (withN x (16 + 3 * h) 3 v) := by
  rw [wfM_iff] at *
  have h8 : v < 2 ^ 3 := h8
  refine ⟨withN_lt hx.1 h8 (by omega), ?_⟩
  obtain ⟨-, a, b⟩ := hx
  rcases (show h = 0 ∨ h = 1 by omega) with rfl | rfl
  · simp (disch := omega) only [bw_ne, bw_same, Nat.reduceMul, Nat.reduceAdd]
    exact ⟨⟨hv, a.2⟩, b⟩
  · simp (disch := omega) only [bw_ne, bw_same, Nat.reduceMul, Nat.reduceAdd]
    exact ⟨a, ⟨hv, b.2⟩⟩
theorem wf_enq {g : Nat → Nat → Nat} {x h q : Nat} (hx : wfM g x) (hh : h < 2) (hn : ¬ bitsN x (22 + 2 * h) 2 = 3) (hq : q < g 1 (2 + h)) (h7 : g 1 (2 + h) ≤ 7) (hs : g 2 (16 + 8 * h + q) < 4) :
    wfM g (withN (withN x (26 + 9 * h + 3 * bitsN x (22 + 2 * h) 2) 3 q) (22 + 2 * h) 2 (bitsN x (22 + 2 * h) 2 + 1)) := by
  rw [wfM_iff] at *
  have h8 : q < 2 ^ 3 := by omega
  have h4 : bitsN x (22 + 2 * h) 2 < 4 := bitsN_lt _ _ _
  have h5 : bitsN x (22 + 2 * h) 2 + 1 < 2 ^ 2 := by omega
  refine ⟨withN_lt (withN_lt hx.1 h8 (by omega)) h5 (by omega), ?_⟩
  obtain ⟨-, a, b⟩ := hx
  rcases (show h = 0 ∨ h = 1 by omega) with rfl | rfl
  · simp only [Nat.reduceMul, Nat.reduceAdd] at *
    generalize hN : bitsN x 22 2 = n at *
    rcases (show n = 0 ∨ n = 1 ∨ n = 2 by omega) with rfl | rfl | rfl
    · simp (disch := omega) only [bw_ne, bw_same, Nat.reduceMul, Nat.reduceAdd]
      exact ⟨⟨a.1, fun _ => ⟨hq, hs⟩, fun h9 => absurd h9 (by decide), fun h9 => absurd h9 (by decide)⟩, b⟩
    · simp (disch := omega) only [bw_ne, bw_same, Nat.reduceMul, Nat.reduceAdd]
      exact ⟨⟨a.1, fun _ => a.2.1 (by decide), fun _ => ⟨hq, hs⟩, fun h9 => absurd h9 (by decide)⟩, b⟩
    · simp (disch := omega) only [bw_ne, bw_same, Nat.reduceMul, Nat.reduceAdd]
      exact ⟨⟨a.1, fun _ => a.2.1 (by decide), fun _ => a.2.2.1 (by decide), fun _ => ⟨hq, hs⟩⟩, b⟩
  · simp only [Nat.reduceMul, Nat.reduceAdd] at *
    generalize hN : bitsN x 24 2 = n at *
    rcases (show n = 0 ∨ n = 1 ∨ n = 2 by omega) with rfl | rfl | rfl
    · simp (disch := omega) only [bw_ne, bw_same, Nat.reduceMul, Nat.reduceAdd]
      exact ⟨a, ⟨b.1, fun _ => ⟨hq, hs⟩, fun h9 => absurd h9 (by decide), fun h9 => absurd h9 (by decide)⟩⟩
    · simp (disch := omega) only [bw_ne, bw_same, Nat.reduceMul, Nat.reduceAdd]
      exact ⟨a, ⟨b.1, fun _ => b.2.1 (by decide), fun _ => ⟨hq, hs⟩, fun h9 => absurd h9 (by decide)⟩⟩
    · simp (disch := omega) only [bw_ne, bw_same, Nat.reduceMul, Nat.reduceAdd]
      exact ⟨a, ⟨b.1, fun _ => b.2.1 (by decide), fun _ => b.2.2.1 (by decide), fun _ => ⟨hq, hs⟩⟩⟩
theorem wf_broken {g : Nat → Nat → Nat} {x h : Nat} (hx : wfM g x) (hh : h < 2) : wfM g (brokenM x h) := by
  unfold brokenM
  rw [wfM_iff] at *
  refine ⟨withN_lt (withN_lt (withN_lt hx.1 (by decide) (by omega)) (by decide) (by omega)) (by decide) (by omega), ?_⟩
  obtain ⟨-, a, b⟩ := hx
  have e9 : 0 < 2 ^ 9 := by decide
  have e2 : 0 < 2 ^ 2 := by decide
  have e1 : 1 < 2 ^ 1 := by decide
  rcases (show h = 0 ∨ h = 1 by omega) with rfl | rfl
  · simp (disch := omega) only [bw_ne, bw_same, Nat.reduceMul, Nat.reduceAdd]
    exact ⟨⟨a.1, fun h9 => absurd h9 (by decide), fun h9 => absurd h9 (by decide), fun h9 => absurd h9 (by decide)⟩, b⟩
  · simp (disch := omega) only [bw_ne, bw_same, Nat.reduceMul, Nat.reduceAdd]
    exact ⟨a, ⟨b.1, fun h9 => absurd h9 (by decide), fun h9 => absurd h9 (by decide), fun h9 => absurd h9 (by decide)⟩⟩
theorem wf_fall {g : Nat → Nat → Nat} {x v : Nat} (hx : wfM g x) (hv : v < 4) : wfM g (withN x 46 2 v) := by
  rw [wfM_iff] at *
  have hv : v < 2 ^ 2 := hv
  refine ⟨withN_lt hx.1 hv (by omega), ?_⟩
  simp (disch := omega) only [bw_ne]
  exact hx.2
theorem wf_deq {g : Nat → Nat → Nat} {x h wh : Nat} (hx : wfM g x) (hh : h < 2) (hw : wh < bitsN x (22 + 2 * h) 2) : wfM g (shiftM x h wh (withN x (22 + 2 * h) 2 (bitsN x (22 + 2 * h) 2 - 1))) := by
  have h4 : bitsN x (22 + 2 * h) 2 < 4 := bitsN_lt _ _ _
  have h5 : bitsN x (22 + 2 * h) 2 - 1 < 2 ^ 2 := by omega
  have d1 : bitsN x (26 + 9 * h + 3) 3 < 2 ^ 3 := bitsN_lt _ _ _
  have d2 : bitsN x (26 + 9 * h + 6) 3 < 2 ^ 3 := bitsN_lt _ _ _
  have d0 : 0 < 2 ^ 3 := by decide
  rw [wfM_iff] at *
  obtain ⟨h0, a, b⟩ := hx
  have hb : withN x (22 + 2 * h) 2 (bitsN x (22 + 2 * h) 2 - 1) < 2 ^ 48 := withN_lt h0 h5 (by omega)
  unfold shiftM
  rcases (show wh = 0 ∨ wh = 1 ∨ wh = 2 by omega) with rfl | rfl | rfl
  · refine ⟨withN_lt (withN_lt (withN_lt hb d1 (by omega)) d2 (by omega)) d0 (by omega), ?_⟩
    rcases (show h = 0 ∨ h = 1 by omega) with rfl | rfl
    · simp (disch := omega) only [bw_ne, bw_same, Nat.reduceMul, Nat.reduceAdd, if_true] at *
      exact ⟨⟨a.1, fun h9 => a.2.2.1 (by omega), fun h9 => a.2.2.2 (by omega), fun h9 => absurd h9 (by omega)⟩, b⟩
    · simp (disch := omega) only [bw_ne, bw_same, Nat.reduceMul, Nat.reduceAdd, if_true] at *
      exact ⟨a, ⟨b.1, fun h9 => b.2.2.1 (by omega), fun h9 => b.2.2.2 (by omega), fun h9 => absurd h9 (by omega)⟩⟩
  · refine ⟨withN_lt (withN_lt hb d2 (by omega)) d0 (by omega), ?_⟩
    rcases (show h = 0 ∨ h = 1 by omega) with rfl | rfl
    · simp (disch := omega) only [bw_ne, bw_same, Nat.reduceMul, Nat.reduceAdd, if_true, if_false, Nat.reduceEqDiff, Nat.one_ne_zero] at *
      exact ⟨⟨a.1, fun h9 => a.2.1 (by omega), fun h9 => a.2.2.2 (by omega), fun h9 => absurd h9 (by omega)⟩, b⟩
    · simp (disch := omega) only [bw_ne, bw_same, Nat.reduceMul, Nat.reduceAdd, if_true, if_false, Nat.reduceEqDiff, Nat.one_ne_zero] at *
      exact ⟨a, ⟨b.1, fun h9 => b.2.1 (by omega), fun h9 => b.2.2.2 (by omega), fun h9 => absurd h9 (by omega)⟩⟩
  · refine ⟨withN_lt hb d0 (by omega), ?_⟩
    rcases (show h = 0 ∨ h = 1 by omega) with rfl | rfl
    · simp (disch := omega) only [bw_ne, bw_same, Nat.reduceMul, Nat.reduceAdd, if_false, Nat.reduceEqDiff, reduceIte] at *
      exact ⟨⟨a.1, fun h9 => a.2.1 (by omega), fun h9 => a.2.2.1 (by omega), fun h9 => absurd h9 (by omega)⟩, b⟩
    · simp (disch := omega) only [bw_ne, bw_same, Nat.reduceMul, Nat.reduceAdd, if_false, Nat.reduceEqDiff, reduceIte] at *
      exact ⟨a, ⟨b.1, fun h9 => b.2.1 (by omega), fun h9 => b.2.2.1 (by omega), fun h9 => absurd h9 (by omega)⟩⟩
theorem wf_act {g : Nat → Nat → Nat} {x h so k : Nat} (hx : wfM g x) (hh : h < 2) (hs : so < 4) (hok : okS so (g 3 (4 * k)) (g 3 (4 * k + 1)) (g 3 (4 * k + 2)) (g 3 (4 * k + 3))) : wfM g (actM g x h so k) := by
  have ha := okS_a hok hs
  have hi : bitsN x (2 * g 3 (4 * k)) 2 < 4 := bitsN_lt _ _ _
  unfold actM
  split
  · exact wf_w16 hx (by omega) (by omega)
  · split
    · have := okS_b hok (by assumption)
      exact wf_w16 hx (by omega) hi
    · split
      · have := (okS_c hok).1 (by assumption)
        exact wf_w16 (wf_w16 hx (by omega) hi) (by omega) (by omega)
      · have h2 : so = 2 := by omega
        have := okS_d hok h2
        have := (okS_c hok).2 h2
        split
        · exact wf_w16 (wf_w16 hx (by omega) hi) (by omega) (by omega)
        · exact wf_w16 hx (by omega) hi
theorem wf_does {g : Nat → Nat → Nat} {x h y : Nat} (hL : okL g) (hx : wfM g x) (hh : h < 2) (e : doesM g x h = some y) : wfM g y := by
  have hp := (hx.2 h hh).1
  have h7 := (hL h hh).1
  unfold doesM at e
  split at e
  · cases e
  · split at e
    · cases e
    · split at e
      · cases e
      · rename_i _ _ hne
        have hok := (hL h hh).2 (bitsN x (16 + 3 * h) 3) (by omega)
        have hnx : wfM g (withN x (16 + 3 * h) 3 (bitsN x (16 + 3 * h) 3 + 1)) := wf_at hx hh (by omega) (by omega)
        have hi : ∀ f, bitsN x f 2 < 4 := fun f => bitsN_lt _ _ _
        unfold doesM2 at e
        split at e
        · split at e
          · cases e
          · cases e; exact hnx
        · split at e
          · split at e
            · cases e; exact hnx
            · cases e
          · split at e
            · have := okS_6 hok (by assumption)
              cases e; exact wf_w16 hnx (by omega) (by omega)
            · split at e
              · have := okS_7 hok (by assumption)
                cases e; exact wf_w16 hnx (by omega) (hi _)
              · split at e
                · split at e
                  · split at e
                    · cases e; exact wf_at hx hh (by omega) (by omega)
                    · cases e; exact wf_at hx hh (by omega) (by omega)
                  · split at e
                    · cases e; exact wf_at hx hh (by omega) (by omega)
                    · cases e; exact wf_at hx hh (by omega) (by omega)
                · split at e
                  · cases e
                  · have hs := hok.1
                    have h4 : bitsN x (22 + 2 * h) 2 < 4 := bitsN_lt _ _ _
                    have en : bitsN (withN x (16 + 3 * h) 3 (bitsN x (16 + 3 * h) 3 + 1)) (22 + 2 * h) 2 = bitsN x (22 + 2 * h) 2 := bw_ne (show bitsN x (16 + 3 * h) 3 + 1 < 2 ^ 3 by omega) (by omega)
                    have := wf_enq (q := bitsN x (16 + 3 * h) 3) hnx hh (by rw [en]; assumption) (by omega) h7 (by omega)
                    rw [en] at this
                    cases e
                    exact this
theorem wf_wishE {g : Nat → Nat → Nat} {x h wh y : Nat} (hL : okL g) (hx : wfM g x) (hh : h < 2) (hw : wh < bitsN x (22 + 2 * h) 2) (e : wishE g x h wh = some y) : wfM g y := by
  have hq := (hx.2 h hh).2 wh hw
  have hok := (hL h hh).2 _ hq.1
  unfold wishE at e
  split at e
  · cases e; exact wf_broken hx hh
  · split at e
    · cases e; exact wf_broken hx hh
    · cases e; exact wf_act (wf_deq hx hh hw) hh hq.2 hok
theorem wf_wish {g : Nat → Nat → Nat} {x h wh y : Nat} (hL : okL g) (hx : wfM g x) (hh : h < 2) (h3 : wh < 3) (e : wishM g x h wh = some y) : wfM g y := by
  rcases (show wh = 0 ∨ wh = 1 ∨ wh = 2 by omega) with rfl | rfl | rfl
  · have e : wishM0 g x h = some y := e
    unfold wishM0 at e
    split at e
    · exact wf_wishE hL hx hh (by assumption) e
    · cases e
  · have e : wishM1 g x h = some y := e
    unfold wishM1 at e
    split at e
    · split at e
      · cases e
      · split at e
        · exact wf_wishE hL hx hh (by assumption) e
        · cases e
    · cases e
  · have e : wishM2 g x h = some y := e
    unfold wishM2 at e
    split at e
    · split at e
      · cases e
      · split at e
        · split at e
          · exact wf_wishE hL hx hh (by assumption) e
          · cases e
        · cases e
    · cases e
/-- what step k makes of a state -/
def stepM (mf : Nat) (g : Nat → Nat → Nat) (x k : Nat) : Option Nat :=
  if 2 ≤ k then (if 5 ≤ k then (if 8 ≤ k then (if mf = 0 then none else if bitsN x 46 2 = 0 then some (withN x 46 2 (k - 7)) else none) else wishM g x 1 (k - 5)) else wishM g x 0 (k - 2)) else doesM g x k
abbrev isEndM (mf : Nat) (g : Nat → Nat → Nat) (x : Nat) : Prop := ∀ k, k < 8 → stepM mf g x k = none
theorem wf_step {mf : Nat} {g : Nat → Nat → Nat} {x k y : Nat} (hL : okL g) (hx : wfM g x) (hk : k < 10) (e : stepM mf g x k = some y) : wfM g y := by
  unfold stepM at e
  split at e
  · split at e
    · split at e
      · split at e
        · cases e
        · split at e
          · cases e; exact wf_fall hx (by omega)
          · cases e
      · exact wf_wish hL hx (by omega) (by omega) e
    · exact wf_wish hL hx (by omega) (by omega) e
  · exact wf_does hL hx (by omega) e
theorem eO_lt {o : Option Nat} (hb : ∀ y, o = some y → y < 2 ^ 63) : eO o < lN 0 ↔ o = none := by
  cases o with
  | none => simp [eO]; decide
  | some x =>
    have := hb x rfl
    simp only [eO, pk_lLT this (show 0 < 2 ^ 63 by decide)]
    simp
theorem step_lt {mf : Nat} {g : Nat → Nat → Nat} {x k : Nat} (hL : okL g) (hx : wfM g x) (hk : k < 10) : eO (stepM mf g x k) < lN 0 ↔ stepM mf g x k = none := eO_lt (fun y e => Nat.lt_trans (wf_step hL hx hk e).1 (by decide))

/-! PURE: a walk depends on the laid programs alone; THE WALK of programs -/
def eqL (g g' : Nat → Nat → Nat) : Prop := (∀ h, h < 2 → g 1 (2 + h) = g' 1 (2 + h) ∧ ∀ i, i < g 1 (2 + h) → g 2 (16 + 8 * h + i) = g' 2 (16 + 8 * h + i) ∧ ∀ w, w < arM (g 2 (16 + 8 * h + i)) → g 3 (4 * (16 + 8 * h + i) + w) = g' 3 (4 * (16 + 8 * h + i) + w)) ∧ ∀ w, w < 4 → g 4 w = g' 4 w ∧ g 5 w = g' 5 w
theorem act_congr {g g' : Nat → Nat → Nat} {x h so k : Nat} (hs : so < 4) (e : ∀ w, w < arM so → g 3 (4 * k + w) = g' 3 (4 * k + w)) : actM g x h so k = actM g' x h so k := by
  unfold actM
  have e0 : g 3 (4 * k) = g' 3 (4 * k) := e 0 (by unfold arM; split <;> (try split) <;> (try split) <;> omega)
  have e1 : g 3 (4 * k + 1) = g' 3 (4 * k + 1) := e 1 (by unfold arM; split <;> (try split) <;> (try split) <;> omega)
  rw [e0, e1]
  split
  · rfl
  · split
    · rfl
    · split
      · rename_i q
        rw [e 2 (by subst q; decide)]
      · have q : so = 2 := by omega
        rw [e 2 (by subst q; decide), e 3 (by subst q; decide)]
theorem does_congr {g g' : Nat → Nat → Nat} {x h : Nat} (hE : eqL g g') (hL : okL g) (hx : wfM g x) (hh : h < 2) : doesM g x h = doesM g' x h := by
  obtain ⟨l, st⟩ := hE.1 h hh
  have hp := (hx.2 h hh).1
  have sortE : ∀ k, k < bitsN x (22 + 2 * h) 2 → sortM g x h k = sortM g' x h k := fun k hk => (st _ ((hx.2 h hh).2 k hk).1).1
  have hget : hasGetM g x h ↔ hasGetM g' x h := by
    unfold hasGetM
    constructor
    · rintro (⟨a, b⟩ | ⟨a, b⟩ | ⟨a, b⟩)
      · exact Or.inl ⟨a, (sortE 0 a).symm.trans b⟩
      · exact Or.inr (Or.inl ⟨a, (sortE 1 a).symm.trans b⟩)
      · exact Or.inr (Or.inr ⟨a, (sortE 2 a).symm.trans b⟩)
    · rintro (⟨a, b⟩ | ⟨a, b⟩ | ⟨a, b⟩)
      · exact Or.inl ⟨a, (sortE 0 a).trans b⟩
      · exact Or.inr (Or.inl ⟨a, (sortE 1 a).trans b⟩)
      · exact Or.inr (Or.inr ⟨a, (sortE 2 a).trans b⟩)
  unfold doesM
  rw [← l]
  split
  · rfl
  · split
    · rfl
    · split
      · rfl
      · rename_i hne
        obtain ⟨s, nn⟩ := st (bitsN x (16 + 3 * h) 3) (by omega)
        unfold doesM2
        rw [← s, ← l]
        split
        · simp only [hget]
        · split
          · rfl
          · split
            · rename_i q
              have n0 := nn 0 (by rw [q]; decide)
              have n1 := nn 1 (by rw [q]; decide)
              rw [Nat.add_zero] at n0
              rw [n0, n1]
            · split
              · rename_i q
                have n0 := nn 0 (by rw [q]; decide)
                have n1 := nn 1 (by rw [q]; decide)
                rw [Nat.add_zero] at n0
                rw [n0, n1]
              · split
                · rename_i q
                  have n0 := nn 0 (by rw [q]; decide)
                  have n1 := nn 1 (by rw [q]; decide)
                  have n2 := nn 2 (by rw [q]; decide)
                  rw [Nat.add_zero] at n0
                  rw [n0, n1, n2]
                · rfl
theorem wishE_congr {g g' : Nat → Nat → Nat} {x h wh : Nat} (hE : eqL g g') (hL : okL g) (hx : wfM g x) (hh : h < 2) (hw : wh < bitsN x (22 + 2 * h) 2) : wishE g x h wh = wishE g' x h wh := by
  obtain ⟨l, st⟩ := hE.1 h hh
  obtain ⟨q1, q2⟩ := (hx.2 h hh).2 wh hw
  obtain ⟨s, nn⟩ := st _ q1
  have hok := (hL h hh).2 _ q1
  have ha := okS_a hok q2
  have n0 := nn 0 (by
    have : g 2 (16 + 8 * h + bitsN x (26 + 9 * h + 3 * wh) 3) < 4 := q2
    unfold arM; split <;> (try split) <;> (try split) <;> omega)
  rw [Nat.add_zero] at n0
  unfold wishE
  have hs : sortM g x h wh = sortM g' x h wh := s
  rw [← hs, act_congr q2 nn, ← n0, (hE.2 _ ha.1).2]
theorem step_congr {mf : Nat} {g g' : Nat → Nat → Nat} {x k : Nat} (hE : eqL g g') (hL : okL g) (hx : wfM g x) (hk : k < 10) : stepM mf g x k = stepM mf g' x k := by
  have wish : ∀ h wh, h < 2 → wh < 3 → wishM g x h wh = wishM g' x h wh := by
    intro h wh hh h3
    have sortE : ∀ k, k < bitsN x (22 + 2 * h) 2 → sortM g x h k = sortM g' x h k := fun k hk => ((hE.1 h hh).2 _ ((hx.2 h hh).2 k hk).1).1
    unfold wishM wishM0 wishM1 wishM2
    rcases (show wh = 0 ∨ wh = 1 ∨ wh = 2 by omega) with rfl | rfl | rfl
    · simp only [reduceIte]
      split
      · rename_i q; exact wishE_congr hE hL hx hh q
      · rfl
    · simp only [reduceIte, Nat.one_ne_zero]
      split
      · rename_i q; rw [wishE_congr hE hL hx hh q, sortE 1 q, sortE 0 (by omega)]
      · rfl
    · simp only [reduceIte, Nat.reduceEqDiff]
      split
      · rename_i q; rw [wishE_congr hE hL hx hh q, sortE 2 q, sortE 0 (by omega), sortE 1 (by omega)]
      · rfl
  unfold stepM
  split
  · split
    · split
      · rfl
      · exact wish _ _ (by omega) (by omega)
    · exact wish _ _ (by omega) (by omega)
  · exact does_congr hE hL hx (by omega)
theorem eqL_sym {g g' : Nat → Nat → Nat} (h : eqL g g') : eqL g' g := ⟨fun a ha => ⟨(h.1 a ha).1.symm, fun i hi => by
  obtain ⟨p, q⟩ := (h.1 a ha).2 i (by rw [(h.1 a ha).1]; exact hi)
  exact ⟨p.symm, fun w hw => (q w (by rw [p]; exact hw)).symm⟩⟩, fun w hw => ⟨(h.2 w hw).1.symm, (h.2 w hw).2.symm⟩⟩
theorem wf_congr {g g' : Nat → Nat → Nat} {x : Nat} (hE : eqL g g') (hx : wfM g x) : wfM g' x := ⟨hx.1, fun h hh => by
  obtain ⟨l, st⟩ := hE.1 h hh
  obtain ⟨a, b⟩ := hx.2 h hh
  refine ⟨by rw [← l]; exact a, fun k hk => ?_⟩
  obtain ⟨c, d⟩ := b k hk
  exact ⟨by rw [← l]; exact c, by rw [show sortM g' x h k = sortM g x h k from (st _ c).1.symm]; exact d⟩⟩
/-- two walks that are the same as far as they go -/
def eqB (b b' : BT) : Prop := b.1 = b'.1 ∧ ∀ i, i < b.1 → b.2.1 i = b'.2.1 i ∧ b.2.2.1 i = b'.2.2.1 i ∧ b.2.2.2.1 i = b'.2.2.2.1 i ∧ b.2.2.2.2 i = b'.2.2.2.2 i
theorem eqB_rfl (b : BT) : eqB b b := ⟨rfl, fun _ _ => ⟨rfl, rfl, rfl, rfl⟩⟩
theorem eqB_sym {b b' : BT} (h : eqB b b') : eqB b' b := ⟨h.1.symm, fun i hi => by
  obtain ⟨p, q, r, s⟩ := h.2 i (by rw [h.1]; exact hi)
  exact ⟨p.symm, q.symm, r.symm, s.symm⟩⟩
theorem eqB_trans {a b c : BT} (h : eqB a b) (k : eqB b c) : eqB a c := ⟨h.1.trans k.1, fun i hi => by
  obtain ⟨p, q, r, s⟩ := h.2 i hi
  obtain ⟨p', q', r', s'⟩ := k.2 i (by rw [← h.1]; exact hi)
  exact ⟨p.trans p', q.trans q', r.trans r', s.trans s'⟩⟩
theorem hasB_congr {n : Nat} {t t' : Nat → Nat} {x : Nat} (h : ∀ i, i < n → t i = t' i) : hasB n t x = hasB n t' x := by
  apply Bool.eq_iff_iff.mpr
  rw [hasB_iff, hasB_iff]
  exact ⟨fun ⟨i, hi, e⟩ => ⟨i, hi, (h i hi).symm.trans e⟩, fun ⟨i, hi, e⟩ => ⟨i, hi, (h i hi).trans e⟩⟩
theorem ins_congr {b b' : BT} {x fr k : Nat} (h : eqB b b') (hf : fr = 4294967295 ∨ fr < b.1) : eqB (insB b x fr k) (insB b' x fr k) := by
  obtain ⟨e, h2⟩ := h
  unfold insB
  rw [← e, ← hasB_congr (fun i hi => (h2 i hi).1)]
  split
  · exact ⟨e, h2⟩
  · split
    · refine ⟨rfl, fun i hi => ?_⟩
      have hi : i < b.1 + 1 := hi
      simp only
      by_cases q : i = b.1
      · rw [q, upN_s, upN_s, upN_s, upN_s, upN_s, upN_s, upN_s, upN_s]
        refine ⟨rfl, rfl, rfl, ?_⟩
        rcases hf with rfl | hf
        · rfl
        · rw [(h2 fr hf).2.2.2]
      · rw [upN_n q, upN_n q, upN_n q, upN_n q, upN_n q, upN_n q, upN_n q, upN_n q]
        exact h2 i (by omega)
    · exact ⟨e, h2⟩
theorem stepB_congr {mf : Nat} {g g' : Nat → Nat → Nat} {b b' : BT} {i k : Nat} (hE : eqL g g') (hL : okL g) (hB : BInv g b) (h : eqB b b') (hi : i < b.1) (hk : k < 10) : eqB (stepB mf g b i k) (stepB mf g' b' i k) := by
  unfold stepB
  rw [← (h.2 i hi).1, ← step_congr hE hL (hB.2 i hi).1 hk]
  split
  · exact h
  · exact ins_congr h (Or.inr hi)
theorem row_congr {mf : Nat} {g g' : Nat → Nat → Nat} {i : Nat} (hE : eqL g g') (hL : okL g) : ∀ (n k : Nat) (b b' : BT), k + n ≤ 10 → i < b.1 → BInv g b → eqB b b' → eqB (rowF mf g i n k b) (rowF mf g' i n k b') ∧ BInv g (rowF mf g i n k b) := by
  intro n
  induction n with
  | zero => intro k b b' _ _ hB h; exact ⟨h, hB⟩
  | succ n ih =>
    intro k b b' hk hi hB h
    obtain ⟨p, q⟩ := BInv_step (mf := mf) (k := k) hL hB hi (by omega)
    exact ih (k + 1) _ _ (by omega) (Nat.lt_of_lt_of_le hi q) p (stepB_congr hE hL hB h hi (by omega))
theorem run_congr {mf : Nat} {g g' : Nat → Nat → Nat} (hE : eqL g g') (hL : okL g) : ∀ (n i : Nat) (b b' : BT), BInv g b → eqB b b' → eqB (runB mf g n b i) (runB mf g' n b' i) ∧ BInv g (runB mf g n b i) := by
  intro n
  induction n with
  | zero => intro i b b' hB h; exact ⟨h, hB⟩
  | succ n ih =>
    intro i b b' hB h
    rw [runB, runB, ← h.1]
    split
    · exact ⟨h, hB⟩
    · split
      · exact ⟨h, hB⟩
      · obtain ⟨p, q⟩ := row_congr (mf := mf) (i := i) hE hL 10 0 b b' (by omega) (by omega) hB h
        exact ih (i + 1) _ _ q p
theorem beg_congr {w w' : Nat → Nat} (h : ∀ i, i < 4 → w i = w' i) : begM w = begM w' := by
  unfold begM
  rw [h 0 (by decide), h 1 (by decide), h 2 (by decide), h 3 (by decide)]
theorem walk_congr {mf : Nat} {g g' : Nat → Nat → Nat} {t p s q t' p' s' q' : Nat → Nat} (hE : eqL g g') (hL : okL g) (h4 : ∀ w, w < 4 → g 4 w < 4) : eqB (walkB mf g t p s q) (walkB mf g' t' p' s' q') ∧ BInv g (walkB mf g t p s q) := by
  unfold walkB
  rw [← beg_congr (fun i hi => (hE.2 i hi).1)]
  exact run_congr hE hL _ _ _ _ (BInv_ins (BInv_0 _ _ _ _ _) (wf_beg h4).1 (by decide) (Or.inl ⟨rfl, (wf_beg (g := g) h4).2⟩)) (ins_congr ⟨rfl, fun i hi => absurd hi (Nat.not_lt_zero i)⟩ (Or.inl rfl))
/-- the programs laid, in one way -/
def layG (g : Nat → Nat → Nat) (fe : Nat) : Nat → Nat → Nat := fun a j =>
  if a = 1 then (if j = 2 then layL g fe 0 else if j = 3 then layL g fe 1 else 0)
  else if a = 2 then layS g fe ((j - 16) / 8) ((j - 16) % 8)
  else if a = 3 then layN g fe ((j - 64) / 32) ((j - 64) % 32 / 4) (j % 4)
  else g a j
theorem layG_1 {g : Nat → Nat → Nat} {fe h : Nat} (hh : h < 2) : layG g fe 1 (2 + h) = layL g fe h := by
  rcases (show h = 0 ∨ h = 1 by omega) with rfl | rfl <;> rfl
theorem layG_2 {g : Nat → Nat → Nat} {fe h i : Nat} (hi : i < 8) : layG g fe 2 (16 + 8 * h + i) = layS g fe h i := by
  show layS g fe ((16 + 8 * h + i - 16) / 8) ((16 + 8 * h + i - 16) % 8) = _
  rw [show (16 + 8 * h + i - 16) / 8 = h by omega, show (16 + 8 * h + i - 16) % 8 = i by omega]
theorem layG_3 {g : Nat → Nat → Nat} {fe h i w : Nat} (hi : i < 8) (hw : w < 4) : layG g fe 3 (4 * (16 + 8 * h + i) + w) = layN g fe h i w := by
  show layN g fe ((4 * (16 + 8 * h + i) + w - 64) / 32) ((4 * (16 + 8 * h + i) + w - 64) % 32 / 4) ((4 * (16 + 8 * h + i) + w) % 4) = _
  rw [show (4 * (16 + 8 * h + i) + w - 64) / 32 = h by omega, show (4 * (16 + 8 * h + i) + w - 64) % 32 / 4 = i by omega, show (4 * (16 + 8 * h + i) + w) % 4 = w by omega]
/-- THE WALK of the programs with a fence more (4294967295: without) -/
def WALK (mf : Nat) (g : Nat → Nat → Nat) (fe : Nat) : BT := walkB mf (layG g fe) (fun _ => 0) (fun _ => 0) (fun _ => 0) (fun _ => 0)
theorem eqL_lay {g g' : Nat → Nat → Nat} {fe : Nat} (h7 : ∀ h, h < 2 → layL g fe h ≤ 7) (hl : ∀ h, h < 2 → g' 1 (2 + h) = layL g fe h) (hH : ∀ h, h < 2 → LayH g fe h (layL g fe h) (g' 2) (g' 3)) (h45 : ∀ w, w < 4 → g' 4 w = g 4 w ∧ g' 5 w = g 5 w) : eqL g' (layG g fe) := by
  refine ⟨fun h hh => ⟨by rw [hl h hh, layG_1 hh], fun i hi => ?_⟩, h45⟩
  rw [hl h hh] at hi
  have := h7 h hh
  obtain ⟨a, b⟩ := hH h hh i hi
  rw [layG_2 (by omega), a]
  refine ⟨rfl, fun w hw => ?_⟩
  by_cases q : fIn g fe h ∧ i = fe % 8
  · exfalso
    have : layS g fe h i = 4 := by unfold layS; rw [if_pos q]
    rw [this] at hw
    exact absurd hw (by unfold arM; simp)
  · have h4 : w < 4 := by unfold arM at hw; split at hw <;> (try split at hw) <;> (try split at hw) <;> omega
    rw [layG_3 (by omega) h4]
    exact b q w h4

/-! PURE: what the class finds in its walk, and what the reference finds -/
theorem quiet_end {mf : Nat} {g : Nat → Nat → Nat} {x : Nat} (hc : ∀ h, h < 2 → bitsN x (22 + 2 * h) 2 = 0) (ha : ∀ h, h < 2 → bitsN x (16 + 3 * h) 3 = g 1 (2 + h)) : isEndM mf g x := by
  intro k hk
  have w0 : ∀ h wh, h < 2 → wishM g x h wh = none := by
    intro h wh hh
    have z := hc h hh
    unfold wishM wishM0 wishM1 wishM2
    rw [z, if_neg (show ¬ 0 < 0 by decide), if_neg (show ¬ 1 < 0 by decide), if_neg (show ¬ 2 < 0 by decide)]
    split
    · rfl
    · split <;> rfl
  unfold stepM
  split
  · split
    · split
      · omega
      · exact w0 1 _ (by decide)
    · exact w0 0 _ (by decide)
  · unfold doesM
    split
    · rfl
    · split
      · rfl
      · rw [if_pos (ha k (by omega))]
theorem dig_zero {g : Nat → Nat → Nat} {x h : Nat} (hL : okL g) (hx : wfM g x) (hh : h < 2) (e : dig x h 0 = 0) : bitsN x (22 + 2 * h) 2 = 0 := by
  apply Classical.byContradiction
  intro q
  have q0 : 0 < bitsN x (22 + 2 * h) 2 := Nat.pos_of_ne_zero q
  have l := ((hx.2 h hh).2 0 q0).1
  have l7 := (hL h hh).1
  unfold dig at e
  rw [if_pos q0] at e
  generalize bitsN x (26 + 9 * h + 3 * 0) 3 = v at *
  omega
/-- a good end, by the bits alone -/
theorem good2 {mf : Nat} {g : Nat → Nat → Nat} {x n0 n1 : Nat} (hL : okL g) (hx : wfM g x) (h0 : g 1 2 = n0) (h1 : g 1 3 = n1) : enc x / 65536 * 65536 = n0 * 65536 + n1 * 524288 ↔ isGoodM mf g x := by
  have b0 : n0 ≤ 7 := h0 ▸ (hL 0 (by decide)).1
  have b1 : n1 ≤ 7 := h1 ▸ (hL 1 (by decide)).1
  refine ⟨fun q => ?_, fun q => (good_enc hx h0 h1 b0 b1 q.2.2.2).mpr q⟩
  have he : isEndM mf g x := by
    obtain ⟨a, -, -, d, -, -, -⟩ := enc_f x
    have p0 : bitsN (enc x) 16 3 = bitsN x 16 3 := enc_lo (by decide)
    have p1 : bitsN (enc x) 19 3 = bitsN x 19 3 := enc_lo (by decide)
    have d0 : dig x 0 0 = 0 := by rw [← a]; unfold bitsN; omega
    have d1 : dig x 1 0 = 0 := by rw [← d]; unfold bitsN; omega
    have q0 : bitsN (enc x) 16 3 = n0 := by unfold bitsN; omega
    have q1 : bitsN (enc x) 19 3 = n1 := by unfold bitsN; omega
    refine quiet_end (fun h hh => ?_) (fun h hh => ?_)
    · rcases (show h = 0 ∨ h = 1 by omega) with rfl | rfl
      · exact dig_zero hL hx hh d0
      · exact dig_zero hL hx hh d1
    · rcases (show h = 0 ∨ h = 1 by omega) with rfl | rfl
      · exact (p0.symm.trans q0).trans h0.symm
      · exact (p1.symm.trans q1).trans h1.symm
  exact (good_enc hx h0 h1 b0 b1 he).mp q
theorem split_K {K A E u v : Nat} (hu : u < K) (hv : v < K) : (A * K + u = E * K + v) ↔ (A * K = E * K ∧ u = v) := by
  refine ⟨fun h => ?_, fun h => by rw [h.1, h.2]⟩
  have e1 : (A * K + u) / K = (E * K + v) / K := by rw [h]
  have K0 : 0 < K := by omega
  rw [Nat.mul_comm A, Nat.mul_comm E, Nat.mul_add_div K0, Nat.mul_add_div K0, Nat.div_eq_of_lt hu, Nat.div_eq_of_lt hv, Nat.add_zero, Nat.add_zero] at e1
  rw [e1] at h
  exact ⟨by rw [e1], Nat.add_left_cancel h⟩
theorem split_hl {A c d u v : Nat} (hu : u < 256) (hv : v < 256) : (A * 65536 + u = c * 65536 + d * 524288 + v) ↔ (A * 65536 = c * 65536 + d * 524288 ∧ u = v) := by
  rw [show c * 65536 + d * 524288 = (c + d * 8) * 65536 by rw [Nat.add_mul, Nat.mul_assoc]]
  exact split_K (Nat.lt_trans hu (by decide)) (Nat.lt_trans hv (by decide))
theorem end_mask {mf : Nat} {g : Nat → Nat → Nat} {x n0 n1 va se : Nat} (hL : okL g) (hx : wfM g x) (h0 : g 1 2 = n0) (h1 : g 1 3 = n1) (hv : va < 256) (hs : se < 16) : decide (enc x &&& (18446744073709486080 + wmC se) = n0 * 65536 + n1 * 524288 + (va &&& wmC se)) = endM mf g va se x := by
  apply Bool.eq_iff_iff.mpr
  rw [decide_eq_true_iff, endM_iff, low_and (enc_lt hx.1) (wmC_lt se), ← good2 hL hx h0 h1]
  have wm := words_mask (y := enc x) hv hs
  have lo : ∀ w, w < 4 → bitsN (enc x) (2 * w) 2 = bitsN x (2 * w) 2 := fun w hw => enc_lo (by omega)
  have l1 : enc x &&& wmC se < 256 := Nat.lt_of_le_of_lt Nat.and_le_right (wmC_lt se)
  have l2 : va &&& wmC se < 256 := Nat.lt_of_le_of_lt Nat.and_le_right (wmC_lt se)
  have sp := split_hl (A := enc x / 65536) (c := n0) (d := n1) l1 l2
  rw [sp, wm]
  constructor
  · rintro ⟨a, b⟩
    refine ⟨a, fun w hw => ?_⟩
    have := b w hw
    rw [lo w hw] at this
    exact this
  · rintro ⟨a, b⟩
    refine ⟨a, fun w hw => ?_⟩
    rw [lo w hw]
    exact b w hw
/-- the first state asked for: the class's and the reference's -/
theorem first_bar {mf : Nat} {G : Nat → Nat → Nat} {b : BT} {ts : Nat → Nat} {fe en pa pb qa qb n0 n1 : Nat} (hL : okL G) (hB : BInv G b) (hT : ∀ i, i < b.1 → ts i = enc (b.2.1 i)) (h0 : G 1 2 = n0) (h1 : G 1 3 = n1) (hA : en = 0 → (qa < 8 ∧ qb < 8) ∧ qa = (if fe / 8 = 0 ∧ fe % 8 ≤ pa then pa + 1 else pa) ∧ qb = (if fe / 8 = 1 ∧ fe % 8 ≤ pb then pb + 1 else pb)) (hE : ¬ en = 0 → (qa = pa ∧ qb = pb) ∧ pa < 256 ∧ pb < 16) : firstC en qa qb n0 n1 ts b.1 = barN mf G b.1 b.2.1 fe en pa pb := by
  unfold firstC barN
  by_cases e : en = 0
  · obtain ⟨⟨l1, l2⟩, e1, e2⟩ := hA e
    rw [if_pos e, if_pos e, ← e1, ← e2]
    refine findN_congr (fun i hi => ?_)
    rw [hT i hi, places_enc l1 l2]
  · obtain ⟨⟨e1, e2⟩, l1, l2⟩ := hE e
    rw [if_neg e, if_neg e, e1, e2]
    refine findN_congr (fun i hi => ?_)
    rw [hT i hi]
    exact end_mask hL (hB.2 i hi).1 h0 h1 l1 l2
theorem og_at {G : Nat → Nat → Nat} {b : BT} {ts og : Nat → Nat} (hB : BInv G b) (hR : RepB b ts og) {i : Nat} (hi : i < b.1) (h0 : 0 < i) : og i / 16 = b.2.2.1 i ∧ og i % 16 = b.2.2.2.1 i ∧ b.2.2.1 i < i ∧ b.2.2.2.2 i = b.2.2.2.2 (b.2.2.1 i) + 1 := by
  obtain ⟨p, o⟩ := hR.2.2 i h0 hi
  obtain ⟨-, -, s, q⟩ := hB.2 i hi
  have := hB.1
  refine ⟨by omega, by omega, p, ?_⟩
  rcases q with ⟨q, -⟩ | ⟨-, q⟩
  · omega
  · exact q
theorem far_zero {G : Nat → Nat → Nat} {b : BT} (hB : BInv G b) (hi : 0 < b.1) : b.2.2.2.2 0 = 0 := by
  rcases (hB.2 0 hi).2.2.2 with ⟨-, q⟩ | ⟨q, -⟩
  · exact q
  · exact absurd q (Nat.not_lt_zero _)
theorem far_le {G : Nat → Nat → Nat} {b : BT} (hL : okL G) (hB : BInv G b) {i : Nat} (hi : i < b.1) : b.2.2.2.2 i ≤ 29 := by
  have a := (hB.2 i hi).2.1
  have c := phi_le hL (hB.2 i hi).1
  omega
theorem stp_far {G : Nat → Nat → Nat} {b : BT} {ts og : Nat → Nat} (hB : BInv G b) (hR : RepB b ts og) : ∀ n i, i < b.1 → b.2.2.2.2 i ≤ n → stpC og n i = b.2.2.2.2 i := by
  intro n
  induction n with
  | zero => intro i hi h; rw [stpC]; omega
  | succ n ih =>
    intro i hi h
    rw [stpC]
    by_cases e : i = 0
    · subst e; rw [if_pos rfl, far_zero hB hi]
    · obtain ⟨a, -, c, d⟩ := og_at hB hR hi (Nat.pos_of_ne_zero e)
      rw [if_neg e, a, ih _ (by omega) (by omega), d]
theorem stp_32 {G : Nat → Nat → Nat} {b : BT} {ts og : Nat → Nat} (hL : okL G) (hB : BInv G b) (hR : RepB b ts og) {i : Nat} (hi : i < b.1) : stpC og 32 i = b.2.2.2.2 i := stp_far hB hR 32 i hi (Nat.le_trans (far_le hL hB hi) (by decide))
theorem anc_og {G : Nat → Nat → Nat} {b : BT} {ts og : Nat → Nat} (hB : BInv G b) (hR : RepB b ts og) {i : Nat} (hi : i < b.1) : ∀ d, d ≤ b.2.2.2.2 i → anc (fun x => og x / 16) d i = anc b.2.2.1 d i ∧ anc b.2.2.1 d i < b.1 ∧ b.2.2.2.2 (anc b.2.2.1 d i) + d = b.2.2.2.2 i := by
  intro d
  induction d with
  | zero => intro _; exact ⟨rfl, hi, rfl⟩
  | succ d ih =>
    intro h
    obtain ⟨a, c, e⟩ := ih (by omega)
    have p : 0 < anc b.2.2.1 d i := by
      apply Nat.pos_of_ne_zero
      intro z
      rw [z, far_zero hB (by omega)] at e
      omega
    obtain ⟨o1, -, o3, o4⟩ := og_at hB hR c p
    rw [anc, anc, a]
    refine ⟨o1, by omega, by omega⟩
theorem anc_by {G : Nat → Nat → Nat} {b : BT} {ts og : Nat → Nat} (hB : BInv G b) (hR : RepB b ts og) {i d : Nat} (hi : i < b.1) (hd : d < b.2.2.2.2 i) : og (anc (fun x => og x / 16) d i) % 16 = b.2.2.2.1 (anc b.2.2.1 d i) := by
  obtain ⟨a, c, e⟩ := anc_og hB hR hi d (by omega)
  have p : 0 < anc b.2.2.1 d i := by
    apply Nat.pos_of_ne_zero
    intro z
    rw [z, far_zero hB (by omega)] at e
    omega
  rw [a]
  exact (og_at hB hR c p).2.1
theorem anc_congr {b b' : BT} {G : Nat → Nat → Nat} (hB : BInv G b) (h : eqB b b') {i : Nat} (hi : i < b.1) : ∀ d, d ≤ b.2.2.2.2 i → anc b.2.2.1 d i = anc b'.2.2.1 d i ∧ anc b.2.2.1 d i < b.1 ∧ b.2.2.2.2 (anc b.2.2.1 d i) + d = b.2.2.2.2 i := by
  intro d
  induction d with
  | zero => intro _; exact ⟨rfl, hi, rfl⟩
  | succ d ih =>
    intro hd
    obtain ⟨a, c, e⟩ := ih (by omega)
    rw [anc, anc, ← a, ← (h.2 _ c).2.1]
    refine ⟨rfl, ?_⟩
    rcases (hB.2 _ c).2.2.2 with ⟨-, q⟩ | ⟨q, r⟩
    · omega
    · omega
theorem mis_bar {mf : Nat} {g : Nat → Nat → Nat} {n : Nat} {t : Nat → Nat} {en pa pb : Nat} : missN mf g n t en pa pb = barN mf g n t 4294967295 en pa pb := by
  unfold missN barN
  split
  · exact findN_congr (fun i hi => by rw [if_neg (fun z => absurd z.1 (by decide)), if_neg (fun z => absurd z.1 (by decide))])
  · rfl

/-! PURE: wishes and falls commute; states that can be told apart -/
theorem ite_iff {p q : Prop} [Decidable p] [Decidable q] {a b : Nat} (h : p ↔ q) : (if p then a else b) = if q then a else b := by
  by_cases z : p
  · rw [if_pos z, if_pos (h.mp z)]
  · rw [if_neg z, if_neg (fun y => z (h.mpr y))]
theorem deq_enc {g : Nat → Nat → Nat} {x h wh : Nat} (hL : okL g) (hx : wfM g x) (hh : h < 2) (h3 : wh < 3) (hw : wh < bitsN x (22 + 2 * h) 2) : enc (shiftM x h wh (withN x (22 + 2 * h) 2 (bitsN x (22 + 2 * h) 2 - 1))) = withN (enc x) (22 + 9 * h) 9 (leftC (bitsN (enc x) (22 + 9 * h) 9) wh) := by
  have h4 : bitsN x (22 + 2 * h) 2 < 4 := bitsN_lt _ _ _
  have h5 : bitsN x (22 + 2 * h) 2 - 1 < 2 ^ 2 := by omega
  have d1 : bitsN x (26 + 9 * h + 3) 3 < 2 ^ 3 := bitsN_lt _ _ _
  have d2 : bitsN x (26 + 9 * h + 6) 3 < 2 ^ 3 := bitsN_lt _ _ _
  have d0 : 0 < 2 ^ 3 := by decide
  have l0 := dig_lt x h 0
  have l1 := dig_lt x h 1
  have l2 := dig_lt x h 2
  have hsum := q_sum (x := x) hh
  have hq : leftC (bitsN (enc x) (22 + 9 * h) 9) wh < 512 ∧ bitsN (leftC (bitsN (enc x) (22 + 9 * h) 9) wh) 0 3 = (if wh = 0 then dig x h 1 else dig x h 0) ∧ bitsN (leftC (bitsN (enc x) (22 + 9 * h) 9) wh) 3 3 = (if wh = 2 then dig x h 1 else dig x h 2) ∧ bitsN (leftC (bitsN (enc x) (22 + 9 * h) 9) wh) 6 3 = 0 := by
    rw [hsum]
    generalize dig x h 0 = e0 at *
    generalize dig x h 1 = e1 at *
    generalize dig x h 2 = e2 at *
    unfold leftC bitsN
    rcases (show wh = 0 ∨ wh = 1 ∨ wh = 2 by omega) with rfl | rfl | rfl <;> simp only [Nat.mul_zero, Nat.mul_one, Nat.zero_add, reduceIte, Nat.reduceMul, Nat.reduceAdd, Nat.reducePow, Nat.reduceEqDiff, Nat.one_ne_zero] <;> omega
  obtain ⟨q0, q1, q2, q3⟩ := hq
  refine enc_queue hh q0 ?_ ?_ (fun k hk => ?_) (fun k hk => ?_)
  · unfold shiftM
    rw [show (4194304 : Nat) = 2 ^ 22 from rfl]
    rcases (show wh = 0 ∨ wh = 1 ∨ wh = 2 by omega) with rfl | rfl | rfl <;> simp (disch := omega) only [reduceIte, Nat.reduceEqDiff, Nat.one_ne_zero, wmod]
  · unfold shiftM
    rcases (show wh = 0 ∨ wh = 1 ∨ wh = 2 by omega) with rfl | rfl | rfl <;> simp (disch := omega) only [reduceIte, Nat.reduceEqDiff, Nat.one_ne_zero, wdiv]
  · unfold dig shiftM
    rcases (show wh = 0 ∨ wh = 1 ∨ wh = 2 by omega) with rfl | rfl | rfl <;> simp (disch := omega) only [reduceIte, Nat.reduceEqDiff, Nat.one_ne_zero, bw_ne]
  · have hk3 : k = 0 ∨ k = 1 ∨ k = 2 := by omega
    have hdig : ∀ j, j < 3 → dig x h j = if j < bitsN x (22 + 2 * h) 2 then (bitsN x (26 + 9 * h + 3 * j) 3 + 1) % 8 else 0 := fun j _ => rfl
    have e0 := hdig 0 (by decide)
    have e1 := hdig 1 (by decide)
    have e2 := hdig 2 (by decide)
    simp only [Nat.mul_zero, Nat.add_zero, Nat.mul_one, Nat.reduceMul] at e0 e1 e2
    rcases hk3 with rfl | rfl | rfl
    · rw [Nat.mul_zero, q1]
      unfold dig shiftM
      rcases (show wh = 0 ∨ wh = 1 ∨ wh = 2 by omega) with rfl | rfl | rfl <;> simp (disch := omega) only [reduceIte, Nat.reduceEqDiff, Nat.one_ne_zero, bw_ne, bw_same, Nat.mul_zero, Nat.add_zero]
      · exact ite_iff (by omega)
      · rw [if_pos (by omega)]; rw [if_pos (by omega)] at e0; exact e0.symm
      · rw [if_pos (by omega)]; rw [if_pos (by omega)] at e0; exact e0.symm
    · rw [Nat.mul_one, q2]
      unfold dig shiftM
      rcases (show wh = 0 ∨ wh = 1 ∨ wh = 2 by omega) with rfl | rfl | rfl <;> simp (disch := omega) only [reduceIte, Nat.reduceEqDiff, Nat.one_ne_zero, bw_ne, bw_same, Nat.mul_one]
      · exact ite_iff (by omega)
      · exact ite_iff (by omega)
      · rw [if_pos (by omega)]; rw [if_pos (by omega)] at e1; exact e1.symm
    · rw [show 3 * 2 = 6 from rfl, q3]
      unfold dig shiftM
      rcases (show wh = 0 ∨ wh = 1 ∨ wh = 2 by omega) with rfl | rfl | rfl <;> simp (disch := omega) only [reduceIte, Nat.reduceEqDiff, Nat.one_ne_zero, bw_ne, bw_same] <;> rw [if_neg (by omega)]
theorem act_enc {g : Nat → Nat → Nat} {so nu : Nat → Nat} {n y h q : Nat} (hR : hostR g h so nu n) (hq : q < 8) (hh : h < 2) (hs : so q < 4) (hok : okS (so q) (nu (q * 4 + 0)) (nu (q * 4 + 1)) (nu (q * 4 + 2)) (nu (q * 4 + 3))) : touchC so nu (enc y) h q = enc (actM g y h (so q) (16 + 8 * h + q)) := by
  obtain ⟨r1, r2, r3⟩ := hR
  have n0 := r3 q 0 hq (by decide)
  have n1 := r3 q 1 hq (by decide)
  have n2 := r3 q 2 hq (by decide)
  have n3 := r3 q 3 hq (by decide)
  rw [Nat.add_zero] at n0
  have ha := okS_a hok hs
  have hi : ∀ f, bitsN y f 2 < 2 ^ 2 := fun f => bitsN_lt _ _ _
  have hb2 : nu (q * 4 + 1) < 2 ^ 2 := ha.2
  unfold touchC actM
  rw [n0, n1, n2, n3, enc_lo (show 2 * nu (q * 4 + 0) + 2 ≤ 22 by omega)]
  by_cases c0 : so q = 0
  · rw [if_pos c0, if_pos c0, enc_low hb2 (by omega)]
  · rw [if_neg c0, if_neg c0]
    by_cases c1 : so q = 1
    · have := okS_b hok c1
      rw [if_pos c1, if_pos c1, enc_low (hi _) (by omega)]
    · rw [if_neg c1, if_neg c1]
      by_cases c2 : so q = 2
      · have k2 := (okS_c hok).2 c2
        have k3 := okS_d hok c2
        have hc2 : nu (q * 4 + 2) < 2 ^ 2 := k2
        rw [if_pos c2, if_neg (show ¬ so q = 3 by omega)]
        by_cases z : bitsN y (2 * nu (q * 4 + 0)) 2 = nu (q * 4 + 1)
        · rw [if_pos z, if_pos z, enc_low hc2 (by omega), enc_low (hi _) (by omega), ww_comm hc2 (hi _) (by omega)]
        · rw [if_neg z, if_neg z, enc_low (hi _) (by omega)]
      · have c3 : so q = 3 := by omega
        have k2 := (okS_c hok).1 c3
        have hm : (bitsN y (2 * nu (q * 4 + 0)) 2 + nu (q * 4 + 1)) % 4 < 2 ^ 2 := Nat.mod_lt _ (by decide)
        rw [if_neg c2, if_pos c3, enc_low hm (by omega), enc_low (hi _) (by omega), ww_comm hm (hi _) (by omega)]
theorem wishE_enc {g : Nat → Nat → Nat} {so nu ri : Nat → Nat} {n x h wh : Nat} (hR : hostR g h so nu n) (hri : ∀ w, w < 4 → g 5 w = ri w) (hL : okL g) (hx : wfM g x) (hf : bitsN x 46 2 ≠ 3) (hh : h < 2) (h3 : wh < 3) (hw : wh < bitsN x (22 + 2 * h) 2) (hm : mayC so (bitsN (enc x) (22 + 9 * h) 9) wh) : wishC so nu ri (enc x) h wh = (wishE g x h wh).map enc := by
  obtain ⟨q1, q2⟩ := (hx.2 h hh).2 wh hw
  have h7 := (hL h hh).1
  have hok := (hL h hh).2 _ q1
  have e := wish_enc0 hL hx hh h3
  rw [if_pos hw] at e
  unfold wishC
  rw [if_neg (fun z => absurd hw ((wish_none hL hx hh h3).mp z)), if_pos hm, e]
  have q2 : g 2 (16 + 8 * h + bitsN x (26 + 9 * h + 3 * wh) 3) < 4 := q2
  have s0 := hR.2.1 (bitsN x (26 + 9 * h + 3 * wh) 3) (by omega)
  have n0 := hR.2.2 (bitsN x (26 + 9 * h + 3 * wh) 3) 0 (by omega) (by decide)
  have n1 := hR.2.2 (bitsN x (26 + 9 * h + 3 * wh) 3) 1 (by omega) (by decide)
  have n2 := hR.2.2 (bitsN x (26 + 9 * h + 3 * wh) 3) 2 (by omega) (by decide)
  have n3 := hR.2.2 (bitsN x (26 + 9 * h + 3 * wh) 3) 3 (by omega) (by decide)
  rw [Nat.add_zero] at n0
  unfold wishE sortM
  rw [n0, s0]
  rw [s0, n0, n1, n2, n3] at hok
  rw [s0] at q2
  have ha := okS_a hok q2
  by_cases c1 : bitsN x 46 2 = 2 - h
  · rw [if_pos c1, if_neg (fun z => (other_enc hh hf).mp z c1)]
    show some _ = some _; rw [enc_broken hh]
  · rw [if_neg c1, if_pos ((other_enc hh hf).mpr c1), hri _ ha.1]
    by_cases c2 : ri (nu (bitsN x (26 + 9 * h + 3 * wh) 3 * 4 + 0)) &&& needM (so (bitsN x (26 + 9 * h + 3 * wh) 3)) = 0
    · rw [if_pos c2, if_neg (fun z => z c2)]
      show some _ = some _; rw [enc_broken hh]
    · rw [if_neg c2, if_pos c2]
      show some _ = some _
      rw [← deq_enc hL hx hh h3 hw, act_enc hR (by omega) hh q2 hok]
theorem wish_enc {g : Nat → Nat → Nat} {so nu ri : Nat → Nat} {n x h wh : Nat} (hR : hostR g h so nu n) (hri : ∀ w, w < 4 → g 5 w = ri w) (hL : okL g) (hx : wfM g x) (hf : bitsN x 46 2 ≠ 3) (hh : h < 2) (h3 : wh < 3) : wishC so nu ri (enc x) h wh = (wishM g x h wh).map enc := by
  have g0 := isGet_enc hR hL hx hh (show 0 < 3 by decide)
  have g1 := isGet_enc hR hL hx hh (show 1 < 3 by decide)
  have g2 := isGet_enc hR hL hx hh (show 2 < 3 by decide)
  have off : ¬ wh < bitsN x (22 + 2 * h) 2 → wishC so nu ri (enc x) h wh = none := fun q => by
    unfold wishC; rw [if_pos ((wish_none hL hx hh h3).mpr q)]
  have no : wh < bitsN x (22 + 2 * h) 2 → ¬ mayC so (bitsN (enc x) (22 + 9 * h) 9) wh → wishC so nu ri (enc x) h wh = none := fun q z => by
    unfold wishC; rw [if_neg (fun y => absurd q ((wish_none hL hx hh h3).mp y)), if_neg z]
  rcases (show wh = 0 ∨ wh = 1 ∨ wh = 2 by omega) with rfl | rfl | rfl
  · show _ = (wishM0 g x h).map enc
    unfold wishM0
    by_cases q : 0 < bitsN x (22 + 2 * h) 2
    · rw [if_pos q]; exact wishE_enc hR hri hL hx hf hh h3 q (Or.inl rfl)
    · rw [if_neg q, off q]; rfl
  · show _ = (wishM1 g x h).map enc
    unfold wishM1
    by_cases q : 1 < bitsN x (22 + 2 * h) 2
    · rw [if_pos q]
      by_cases c1 : sortM g x h 1 = 1
      · rw [if_pos c1, no q (fun z => z.elim (fun z => absurd z (by decide)) (fun z => z.elim (fun z => z.2.1 (g1.mpr ⟨q, c1⟩)) (fun z => absurd z.1 (by decide))))]; rfl
      · rw [if_neg c1]
        by_cases c0 : sortM g x h 0 = 1
        · rw [if_pos c0]; exact wishE_enc hR hri hL hx hf hh h3 q (Or.inr (Or.inl ⟨rfl, fun z => c1 (g1.mp z).2, g0.mpr ⟨by omega, c0⟩⟩))
        · rw [if_neg c0, no q (fun z => z.elim (fun z => absurd z (by decide)) (fun z => z.elim (fun z => c0 (g0.mp z.2.2).2) (fun z => absurd z.1 (by decide))))]; rfl
    · rw [if_neg q, off q]; rfl
  · show _ = (wishM2 g x h).map enc
    unfold wishM2
    by_cases q : 2 < bitsN x (22 + 2 * h) 2
    · rw [if_pos q]
      by_cases c2 : sortM g x h 2 = 1
      · rw [if_pos c2, no q (fun z => z.elim (fun z => absurd z (by decide)) (fun z => z.elim (fun z => absurd z.1 (by decide)) (fun z => z.2.1 (g2.mpr ⟨q, c2⟩))))]; rfl
      · rw [if_neg c2]
        by_cases c0 : sortM g x h 0 = 1
        · rw [if_pos c0]
          by_cases c1 : sortM g x h 1 = 1
          · rw [if_pos c1]; exact wishE_enc hR hri hL hx hf hh h3 q (Or.inr (Or.inr ⟨rfl, fun z => c2 (g2.mp z).2, g0.mpr ⟨by omega, c0⟩, g1.mpr ⟨by omega, c1⟩⟩))
          · rw [if_neg c1, no q (fun z => z.elim (fun z => absurd z (by decide)) (fun z => z.elim (fun z => absurd z.1 (by decide)) (fun z => c1 (g1.mp z.2.2.2).2)))]; rfl
        · rw [if_neg c0, no q (fun z => z.elim (fun z => absurd z (by decide)) (fun z => z.elim (fun z => absurd z.1 (by decide)) (fun z => c0 (g0.mp z.2.2.1).2)))]; rfl
    · rw [if_neg q, off q]; rfl
/-- a step of the class is the reference's -/
theorem step_enc {g : Nat → Nat → Nat} {so0 nu0 so1 nu1 ri : Nat → Nat} {n0 n1 mf x k : Nat} (h0 : hostR g 0 so0 nu0 n0) (h1 : hostR g 1 so1 nu1 n1) (hri : ∀ w, w < 4 → g 5 w = ri w) (hL : okL g) (hx : wfM g x) (hf : bitsN x 46 2 ≠ 3) (hk : k < 10) : afterC so0 nu0 n0 so1 nu1 n1 ri mf (enc x) k = (stepM mf g x k).map enc := by
  unfold afterC stepM
  by_cases k0 : k = 0
  · subst k0; exact stmt_enc h0 hL hx hf (by decide)
  · rw [if_neg k0]
    by_cases k1 : k = 1
    · subst k1; exact stmt_enc h1 hL hx hf (by decide)
    · rw [if_neg k1, if_pos (show 2 ≤ k by omega)]
      by_cases k5 : k < 5
      · rw [if_pos k5, if_neg (show ¬ 5 ≤ k by omega)]; exact wish_enc h0 hri hL hx hf (by decide) (by omega)
      · rw [if_neg k5, if_pos (show 5 ≤ k by omega)]
        by_cases k8 : k < 8
        · rw [if_pos k8, if_neg (show ¬ 8 ≤ k by omega)]; exact wish_enc h1 hri hL hx hf (by decide) (by omega)
        · rw [if_neg k8, if_pos (show 8 ≤ k by omega)]
          have eb : bitsN (enc x) 42 2 = bitsN x 46 2 := enc_hb (f := 2)
          rw [eb]
          by_cases m0 : mf = 0
          · rw [if_pos m0, if_pos m0]; rfl
          · rw [if_neg m0, if_neg m0]
            by_cases z : bitsN x 46 2 = 0
            · rw [if_pos z, if_pos z]
              show some _ = some _
              rw [enc_fall (show k - 7 < 4 by omega), ← or_fld (show k - 7 < 2 ^ 2 by omega) (eb.trans z)]
              rcases (show k = 8 ∨ k = 9 by omega) with rfl | rfl <;> rfl
            · rw [if_neg z, if_neg z]; rfl
/-- what more holds of states that can come: nothing stands in a queue behind its wishes, one host fell at most -/
def canM (x : Nat) : Prop := bitsN x 46 2 ≠ 3 ∧ ∀ h, h < 2 → ∀ k, k < 3 → bitsN x (22 + 2 * h) 2 ≤ k → bitsN x (26 + 9 * h + 3 * k) 3 = 0
theorem can_low {x f w v : Nat} (hx : canM x) (hv : v < 2 ^ w) (hf : f + w ≤ 22) : canM (withN x f w v) := by
  refine ⟨by rw [bw_ne hv (by omega)]; exact hx.1, fun h hh k hk hc => ?_⟩
  rw [bw_ne hv (by omega)] at hc
  rw [bw_ne hv (by omega)]
  exact hx.2 h hh k hk hc
theorem can_fall {x v : Nat} (hx : canM x) (hv : v < 3) : canM (withN x 46 2 v) := by
  have hv2 : v < 2 ^ 2 := by omega
  refine ⟨by rw [bw_same hv2]; omega, fun h hh k hk hc => ?_⟩
  rw [bw_ne hv2 (by omega)] at hc
  rw [bw_ne hv2 (by omega)]
  exact hx.2 h hh k hk hc
theorem can_broken {x h : Nat} (hx : canM x) (hh : h < 2) : canM (brokenM x h) := by
  have e9 : 0 < 2 ^ 9 := by decide
  have e2 : 0 < 2 ^ 2 := by decide
  have e1 : 1 < 2 ^ 1 := by decide
  unfold brokenM
  refine ⟨by rw [bw_ne e1 (by omega), bw_ne e2 (by omega), bw_ne e9 (by omega)]; exact hx.1, fun a ha k hk hc => ?_⟩
  by_cases q : a = h
  · subst q
    rw [bw_ne e1 (by omega), bw_ne e2 (by omega), bw_sub (f := 26 + 9 * a) (a := 3 * k) e9 (by omega)]
    simp [bitsN]
  · rw [bw_ne e1 (by omega), bw_ne e2 (by omega), bw_ne e9 (by omega)] at hc
    rw [bw_ne e1 (by omega), bw_ne e2 (by omega), bw_ne e9 (by omega)]
    exact hx.2 a ha k hk hc
theorem can_enq {x h p : Nat} (hx : canM x) (hh : h < 2) (hn : ¬ bitsN x (22 + 2 * h) 2 = 3) (hp : p < 8) : canM (withN (withN x (26 + 9 * h + 3 * bitsN x (22 + 2 * h) 2) 3 p) (22 + 2 * h) 2 (bitsN x (22 + 2 * h) 2 + 1)) := by
  have h4 : bitsN x (22 + 2 * h) 2 < 4 := bitsN_lt _ _ _
  have h5 : bitsN x (22 + 2 * h) 2 + 1 < 2 ^ 2 := by omega
  have h8 : p < 2 ^ 3 := hp
  refine ⟨by rw [bw_ne h5 (by omega), bw_ne h8 (by omega)]; exact hx.1, fun a ha k hk hc => ?_⟩
  by_cases q : a = h
  · subst q
    rw [bw_same h5] at hc
    rw [bw_ne h5 (by omega), bw_ne h8 (by omega)]
    exact hx.2 a ha k hk (by omega)
  · rw [bw_ne h5 (by omega), bw_ne h8 (by omega)] at hc
    rw [bw_ne h5 (by omega), bw_ne h8 (by omega)]
    exact hx.2 a ha k hk hc
theorem can_deq {x h wh : Nat} (hx : canM x) (hh : h < 2) (h3 : wh < 3) (hw : wh < bitsN x (22 + 2 * h) 2) : canM (shiftM x h wh (withN x (22 + 2 * h) 2 (bitsN x (22 + 2 * h) 2 - 1))) := by
  have h4 : bitsN x (22 + 2 * h) 2 < 4 := bitsN_lt _ _ _
  have h5 : bitsN x (22 + 2 * h) 2 - 1 < 2 ^ 2 := by omega
  have d1 : bitsN x (26 + 9 * h + 3) 3 < 2 ^ 3 := bitsN_lt _ _ _
  have d2 : bitsN x (26 + 9 * h + 6) 3 < 2 ^ 3 := bitsN_lt _ _ _
  have d0 : 0 < 2 ^ 3 := by decide
  have x1 := hx.2 h hh 1 (by decide)
  have x2 := hx.2 h hh 2 (by decide)
  rw [Nat.mul_one] at x1
  rw [show 3 * 2 = 6 from rfl] at x2
  unfold shiftM
  refine ⟨?_, fun a ha k hk hc => ?_⟩
  · rcases (show wh = 0 ∨ wh = 1 ∨ wh = 2 by omega) with rfl | rfl | rfl <;> simp (disch := omega) only [reduceIte, Nat.reduceEqDiff, Nat.one_ne_zero, bw_ne] <;> exact hx.1
  · by_cases q : a = h
    · subst q
      rcases (show wh = 0 ∨ wh = 1 ∨ wh = 2 by omega) with rfl | rfl | rfl
      · simp (disch := omega) only [reduceIte, Nat.reduceEqDiff, Nat.one_ne_zero, bw_ne, bw_same] at hc ⊢
        rcases (show k = 0 ∨ k = 1 ∨ k = 2 by omega) with rfl | rfl | rfl <;> simp (disch := omega) only [bw_ne, bw_same, Nat.mul_zero, Nat.add_zero, Nat.mul_one, Nat.reduceMul]
        · exact x1 (by omega)
        · exact x2 (by omega)
      · simp (disch := omega) only [reduceIte, Nat.reduceEqDiff, Nat.one_ne_zero, bw_ne, bw_same] at hc ⊢
        rcases (show k = 1 ∨ k = 2 by omega) with rfl | rfl <;> simp (disch := omega) only [bw_ne, bw_same, Nat.mul_one, Nat.reduceMul]
        · exact x2 (by omega)
      · simp (disch := omega) only [reduceIte, Nat.reduceEqDiff, Nat.one_ne_zero, bw_ne, bw_same] at hc ⊢
        rcases (show k = 2 by omega) with rfl
        simp (disch := omega) only [bw_same, Nat.reduceMul]
    · rcases (show wh = 0 ∨ wh = 1 ∨ wh = 2 by omega) with rfl | rfl | rfl <;> simp (disch := omega) only [reduceIte, Nat.reduceEqDiff, Nat.one_ne_zero, bw_ne] at hc ⊢ <;> exact hx.2 a ha k hk hc
theorem can_act {g : Nat → Nat → Nat} {x h so k : Nat} (hx : canM x) (hh : h < 2) (hs : so < 4) (hok : okS so (g 3 (4 * k)) (g 3 (4 * k + 1)) (g 3 (4 * k + 2)) (g 3 (4 * k + 3))) : canM (actM g x h so k) := by
  have ha := okS_a hok hs
  have hb2 : g 3 (4 * k + 1) < 2 ^ 2 := ha.2
  have hi : bitsN x (2 * g 3 (4 * k)) 2 < 2 ^ 2 := bitsN_lt _ _ _
  unfold actM
  split
  · exact can_low hx hb2 (by omega)
  · split
    · have := okS_b hok (by assumption)
      exact can_low hx hi (by omega)
    · split
      · have := (okS_c hok).1 (by assumption)
        have hm : (bitsN x (2 * g 3 (4 * k)) 2 + g 3 (4 * k + 1)) % 4 < 2 ^ 2 := Nat.mod_lt _ (by decide)
        exact can_low (can_low hx hi (by omega)) hm (by omega)
      · have h2 : so = 2 := by omega
        have := okS_d hok h2
        have hc2 : g 3 (4 * k + 2) < 2 ^ 2 := (okS_c hok).2 h2
        split
        · exact can_low (can_low hx hi (by omega)) hc2 (by omega)
        · exact can_low hx hi (by omega)
theorem can_does {g : Nat → Nat → Nat} {x h y : Nat} (hL : okL g) (hx : wfM g x) (hc : canM x) (hh : h < 2) (e : doesM g x h = some y) : canM y := by
  have hp := (hx.2 h hh).1
  have h7 := (hL h hh).1
  unfold doesM at e
  split at e
  · cases e
  · split at e
    · cases e
    · split at e
      · cases e
      · rename_i _ _ hne
        have hok := (hL h hh).2 (bitsN x (16 + 3 * h) 3) (by omega)
        have hp1 : bitsN x (16 + 3 * h) 3 + 1 < 2 ^ 3 := by omega
        have hnx : canM (withN x (16 + 3 * h) 3 (bitsN x (16 + 3 * h) 3 + 1)) := can_low hc hp1 (by omega)
        have hi : ∀ f, bitsN x f 2 < 2 ^ 2 := fun f => bitsN_lt _ _ _
        unfold doesM2 at e
        split at e
        · split at e
          · cases e
          · cases e; exact hnx
        · split at e
          · split at e
            · cases e; exact hnx
            · cases e
          · split at e
            · have := okS_6 hok (by assumption)
              cases e; exact can_low hnx (show _ < 2 ^ 2 from this.2) (by omega)
            · split at e
              · have := okS_7 hok (by assumption)
                cases e; exact can_low hnx (hi _) (by omega)
              · split at e
                · split at e
                  · split at e
                    · cases e; exact can_low hc (show _ < 2 ^ 3 by omega) (by omega)
                    · cases e; exact can_low hc (show _ < 2 ^ 3 by omega) (by omega)
                  · split at e
                    · cases e; exact hnx
                    · cases e; exact can_low hc (show _ < 2 ^ 3 by omega) (by omega)
                · split at e
                  · cases e
                  · have en : bitsN (withN x (16 + 3 * h) 3 (bitsN x (16 + 3 * h) 3 + 1)) (22 + 2 * h) 2 = bitsN x (22 + 2 * h) 2 := bw_ne hp1 (by omega)
                    have := can_enq (p := bitsN x (16 + 3 * h) 3) hnx hh (by rw [en]; assumption) (by omega)
                    rw [en] at this
                    cases e
                    exact this
theorem can_wishE {g : Nat → Nat → Nat} {x h wh y : Nat} (hL : okL g) (hx : wfM g x) (hc : canM x) (hh : h < 2) (h3 : wh < 3) (hw : wh < bitsN x (22 + 2 * h) 2) (e : wishE g x h wh = some y) : canM y := by
  have hq := (hx.2 h hh).2 wh hw
  have hok := (hL h hh).2 _ hq.1
  unfold wishE at e
  split at e
  · cases e; exact can_broken hc hh
  · split at e
    · cases e; exact can_broken hc hh
    · cases e; exact can_act (can_deq hc hh h3 hw) hh hq.2 hok
theorem can_wish {g : Nat → Nat → Nat} {x h wh y : Nat} (hL : okL g) (hx : wfM g x) (hc : canM x) (hh : h < 2) (h3 : wh < 3) (e : wishM g x h wh = some y) : canM y := by
  rcases (show wh = 0 ∨ wh = 1 ∨ wh = 2 by omega) with rfl | rfl | rfl
  · have e : wishM0 g x h = some y := e
    unfold wishM0 at e
    split at e
    · exact can_wishE hL hx hc hh (by decide) (by assumption) e
    · cases e
  · have e : wishM1 g x h = some y := e
    unfold wishM1 at e
    split at e
    · split at e
      · cases e
      · split at e
        · exact can_wishE hL hx hc hh (by decide) (by assumption) e
        · cases e
    · cases e
  · have e : wishM2 g x h = some y := e
    unfold wishM2 at e
    split at e
    · split at e
      · cases e
      · split at e
        · split at e
          · exact can_wishE hL hx hc hh (by decide) (by assumption) e
          · cases e
        · cases e
    · cases e
theorem can_step {mf : Nat} {g : Nat → Nat → Nat} {x k y : Nat} (hL : okL g) (hx : wfM g x) (hc : canM x) (hk : k < 10) (e : stepM mf g x k = some y) : canM y := by
  unfold stepM at e
  split at e
  · split at e
    · split at e
      · split at e
        · cases e
        · split at e
          · cases e; exact can_fall hc (by omega)
          · cases e
      · exact can_wish hL hx hc (by omega) (by omega) e
    · exact can_wish hL hx hc (by omega) (by omega) e
  · exact can_does hL hx hc (by omega) e
theorem can_beg {w : Nat → Nat} (hw : ∀ i, i < 4 → w i < 4) : canM (begM w) ∧ enc (begM w) = 0 + w 0 * 2 ^ 0 + w 1 * 2 ^ 2 + w 2 * 2 ^ 4 + w 3 * 2 ^ 6 := by
  have w0 : w 0 < 2 ^ 2 := hw 0 (by decide)
  have w1 : w 1 < 2 ^ 2 := hw 1 (by decide)
  have w2 : w 2 < 2 ^ 2 := hw 2 (by decide)
  have w3 : w 3 < 2 ^ 2 := hw 3 (by decide)
  have z : ∀ f w, bitsN 0 f w = 0 := fun f w => by simp [bitsN]
  have c0 : canM 0 := ⟨by rw [z]; decide, fun h hh k hk hc => z _ _⟩
  refine ⟨can_low (can_low (can_low (can_low c0 w0 (by omega)) w1 (by omega)) w2 (by omega)) w3 (by omega), ?_⟩
  unfold begM
  rw [enc_low w3 (by omega), enc_low w2 (by omega), enc_low w1 (by omega), enc_low w0 (by omega)]
  have e0 : enc 0 = 0 := by unfold enc dig; simp [z]
  rw [e0]
  unfold withN
  omega
/-- states that the class keeps alike are alike -/
theorem enc_inj {g : Nat → Nat → Nat} {x y : Nat} (hL : okL g) (hx : wfM g x) (hy : wfM g y) (cx : canM x) (cy : canM y) (e : enc x = enc y) : x = y := by
  have dd : ∀ h k, h < 2 → k < 3 → dig x h k = dig y h k := fun h k hh hk => by rw [← enc_dig hh hk, ← enc_dig hh hk, e]
  have nz : ∀ z, wfM g z → ∀ h k, h < 2 → k < bitsN z (22 + 2 * h) 2 → dig z h k = bitsN z (26 + 9 * h + 3 * k) 3 + 1 := fun z hz h k hh hk => by
    have h1 := ((hz.2 h hh).2 k hk).1
    have h7 := (hL h hh).1
    unfold dig; rw [if_pos hk]; omega
  have zz : ∀ z h k, ¬ k < bitsN z (22 + 2 * h) 2 → dig z h k = 0 := fun z h k hk => by unfold dig; rw [if_neg hk]
  have cnt : ∀ h, h < 2 → bitsN x (22 + 2 * h) 2 = bitsN y (22 + 2 * h) 2 := fun h hh => by
    have a4 := bitsN_lt x (22 + 2 * h) 2
    have b4 := bitsN_lt y (22 + 2 * h) 2
    rcases Nat.lt_trichotomy (bitsN x (22 + 2 * h) 2) (bitsN y (22 + 2 * h) 2) with q | q | q
    · have p := nz y hy h _ hh q
      have r := zz x h (bitsN x (22 + 2 * h) 2) (Nat.lt_irrefl _)
      rw [dd h _ hh (by omega)] at r; omega
    · exact q
    · have p := nz x hx h _ hh q
      have r := zz y h (bitsN y (22 + 2 * h) 2) (Nat.lt_irrefl _)
      rw [← dd h _ hh (by omega)] at r; omega
  have qq : ∀ h k, h < 2 → k < 3 → bitsN x (26 + 9 * h + 3 * k) 3 = bitsN y (26 + 9 * h + 3 * k) 3 := fun h k hh hk => by
    by_cases q : k < bitsN x (22 + 2 * h) 2
    · have a := nz x hx h k hh q
      have b := nz y hy h k hh (by rw [← cnt h hh]; exact q)
      rw [dd h k hh hk] at a; omega
    · rw [cx.2 h hh k hk (by omega), cy.2 h hh k hk (by rw [← cnt h hh]; omega)]
  have lo : x % 4194304 = y % 4194304 := (enc_0 x).symm.trans (by rw [e]; exact enc_0 y)
  have hi : x / 2 ^ 44 = y / 2 ^ 44 := by rw [← (enc_f x).2.2.2.2.2.2, ← (enc_f y).2.2.2.2.2.2, e]
  have c0 := cnt 0 (by decide)
  have c1 := cnt 1 (by decide)
  have p0 := qq 0 0 (by decide) (by decide)
  have p1 := qq 0 1 (by decide) (by decide)
  have p2 := qq 0 2 (by decide) (by decide)
  have p3 := qq 1 0 (by decide) (by decide)
  have p4 := qq 1 1 (by decide) (by decide)
  have p5 := qq 1 2 (by decide) (by decide)
  simp only [Nat.mul_zero, Nat.add_zero, Nat.mul_one, Nat.reduceMul, Nat.reduceAdd] at c0 c1 p0 p1 p2 p3 p4 p5
  clear dd nz zz cnt qq e hx hy cx cy hL
  unfold bitsN at c0 c1 p0 p1 p2 p3 p4 p5
  omega

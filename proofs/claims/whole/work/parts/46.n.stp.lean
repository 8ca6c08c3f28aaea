/-! PURE: a step of the class is the reference's -/
def hostR (g : Nat → Nat → Nat) (h : Nat) (so nu : Nat → Nat) (n : Nat) : Prop := g 1 (2 + h) = n ∧ (∀ i, i < 8 → g 2 (16 + 8 * h + i) = so i) ∧ ∀ i w, i < 8 → w < 4 → g 3 (4 * (16 + 8 * h + i) + w) = nu (i * 4 + w)
theorem wish_enc0 {g : Nat → Nat → Nat} {x h k : Nat} (hL : okL g) (hx : wfM g x) (hh : h < 2) (hk : k < 3) : wishA (bitsN (enc x) (22 + 9 * h) 9) k = if k < bitsN x (22 + 2 * h) 2 then bitsN x (26 + 9 * h + 3 * k) 3 else 4294967295 := by
  unfold wishA
  rw [q_dig hh hk]
  unfold dig
  by_cases q : k < bitsN x (22 + 2 * h) 2
  · have h1 := ((hx.2 h hh).2 k q).1
    have h7 := (hL h hh).1
    rw [if_pos q, if_pos q, if_neg (by omega)]
    omega
  · rw [if_neg q, if_neg q, if_pos rfl]
theorem wish_none {g : Nat → Nat → Nat} {x h k : Nat} (hL : okL g) (hx : wfM g x) (hh : h < 2) (hk : k < 3) : wishA (bitsN (enc x) (22 + 9 * h) 9) k = 4294967295 ↔ ¬ k < bitsN x (22 + 2 * h) 2 := by
  rw [wish_enc0 hL hx hh hk]
  by_cases q : k < bitsN x (22 + 2 * h) 2
  · rw [if_pos q]
    have := bitsN_lt x (26 + 9 * h + 3 * k) 3
    constructor
    · intro e; omega
    · intro e; exact absurd q e
  · rw [if_neg q]; simp [q]
theorem isGet_enc {g : Nat → Nat → Nat} {so nu : Nat → Nat} {n x h k : Nat} (hR : hostR g h so nu n) (hL : okL g) (hx : wfM g x) (hh : h < 2) (hk : k < 3) : isGetC so (bitsN (enc x) (22 + 9 * h) 9) k ↔ (k < bitsN x (22 + 2 * h) 2 ∧ sortM g x h k = 1) := by
  unfold isGetC
  by_cases q : k < bitsN x (22 + 2 * h) 2
  · have h1 := ((hx.2 h hh).2 k q).1
    have h7 := (hL h hh).1
    rw [wish_none hL hx hh hk, wish_enc0 hL hx hh hk, if_pos q, ← hR.2.1 _ (by omega)]
    simp [q]
  · rw [wish_none hL hx hh hk]; simp [q]
theorem hasGet_enc {g : Nat → Nat → Nat} {so nu : Nat → Nat} {n x h : Nat} (hR : hostR g h so nu n) (hL : okL g) (hx : wfM g x) (hh : h < 2) : hasGetC so (bitsN (enc x) (22 + 9 * h) 9) ↔ hasGetM g x h := by
  have a := isGet_enc hR hL hx hh (show 0 < 3 by decide)
  have b := isGet_enc hR hL hx hh (show 1 < 3 by decide)
  have c := isGet_enc hR hL hx hh (show 2 < 3 by decide)
  unfold isGetC at a b c
  unfold hasGetC hasGetM
  rw [a, b, c]
theorem queue0 {g : Nat → Nat → Nat} {x h : Nat} (hL : okL g) (hx : wfM g x) (hh : h < 2) : bitsN (enc x) (22 + 9 * h) 9 = 0 ↔ bitsN x (22 + 2 * h) 2 = 0 := by
  have d0 := wish_none hL hx hh (show 0 < 3 by decide)
  rw [q_sum hh]
  have h7 := (hL h hh).1
  constructor
  · intro e
    have : dig x h 0 = 0 := by omega
    unfold dig at this
    by_cases q : 0 < bitsN x (22 + 2 * h) 2
    · have h1 := ((hx.2 h hh).2 0 q).1
      rw [if_pos q] at this; omega
    · omega
  · intro e
    unfold dig
    rw [if_neg (by omega), if_neg (by omega), if_neg (by omega)]
theorem enc_enq {x h p n : Nat} (hh : h < 2) (hn : bitsN x (22 + 2 * h) 2 = n) (h3 : n < 3) (hp : p < 7) : enc (withN (withN x (26 + 9 * h + 3 * n) 3 p) (22 + 2 * h) 2 (n + 1)) = enc x ||| (p + 1) * 2 ^ (22 + 9 * h + 3 * n) := by
  have hp3 : p < 2 ^ 3 := by omega
  have hp4 : p + 1 < 2 ^ 3 := by omega
  have hn2 : n + 1 < 2 ^ 2 := by omega
  have hz : bitsN (enc x) (22 + 9 * h + 3 * n) 3 = 0 := by
    rw [enc_dig hh h3]; unfold dig; rw [if_neg (by omega)]
  rw [or_fld hp4 hz]
  obtain ⟨a, b, c, d, e, f, i⟩ := enc_f x
  obtain ⟨a', b', c', d', e', f', i'⟩ := enc_f (withN (withN x (26 + 9 * h + 3 * n) 3 p) (22 + 2 * h) 2 (n + 1))
  have own : ∀ k, k < 3 → dig (withN (withN x (26 + 9 * h + 3 * n) 3 p) (22 + 2 * h) 2 (n + 1)) h k = if k = n then p + 1 else dig x h k := fun k hk => by
    unfold dig
    rw [bw_same hn2, bw_ne hn2 (by omega)]
    by_cases q : k = n
    · subst q; rw [if_pos (by omega), if_pos rfl, bw_same hp3]; omega
    · rw [if_neg q, bw_ne hp3 (by omega), hn]
      by_cases r : k < n
      · rw [if_pos (by omega), if_pos r]
      · rw [if_neg (by omega), if_neg r]
  have oth : ∀ k, k < 3 → dig (withN (withN x (26 + 9 * h + 3 * n) 3 p) (22 + 2 * h) 2 (n + 1)) (1 - h) k = dig x (1 - h) k := fun k hk => by
    unfold dig; rw [bw_ne hn2 (by omega), bw_ne hp3 (by omega), bw_ne hn2 (by omega), bw_ne hp3 (by omega)]
  have m0 : enc (withN (withN x (26 + 9 * h + 3 * n) 3 p) (22 + 2 * h) 2 (n + 1)) % 4194304 = withN (enc x) (22 + 9 * h + 3 * n) 3 (p + 1) % 4194304 := by
    rw [enc_0, show (4194304 : Nat) = 2 ^ 22 from rfl, wmod hn2 (by omega), wmod hp3 (by omega), wmod hp4 (by omega), show enc x % 2 ^ 22 = x % 2 ^ 22 from enc_0 x]
  have m7 : enc (withN (withN x (26 + 9 * h + 3 * n) 3 p) (22 + 2 * h) 2 (n + 1)) / 2 ^ 40 = withN (enc x) (22 + 9 * h + 3 * n) 3 (p + 1) / 2 ^ 40 := by
    rw [i', wdiv hn2 (by omega), wdiv hp3 (by omega), wdiv hp4 (by omega), i]
  have R : ∀ h2 k, h2 < 2 → k < 3 → bitsN (withN (enc x) (22 + 9 * h + 3 * n) 3 (p + 1)) (22 + 9 * h2 + 3 * k) 3 = if h2 = h ∧ k = n then p + 1 else dig x h2 k := fun h2 k hh2 hk => by
    by_cases q : h2 = h ∧ k = n
    · rw [if_pos q, q.1, q.2, bw_same hp4]
    · rw [if_neg q, bw_ne hp4 (by omega), enc_dig hh2 hk]
  have own2 : ∀ h2 k, h2 < 2 → k < 3 → dig (withN (withN x (26 + 9 * h + 3 * n) 3 p) (22 + 2 * h) 2 (n + 1)) h2 k = if h2 = h ∧ k = n then p + 1 else dig x h2 k := fun h2 k hh2 hk => by
    by_cases q : h2 = h
    · subst q; rw [own k hk]; simp
    · rw [show h2 = 1 - h by omega, oth k hk, if_neg (fun z => by omega)]
  refine fld_ext m0 ?_ ?_ ?_ ?_ ?_ ?_ m7
  · rw [a', own2 0 0 (by decide) (by decide)]; exact (R 0 0 (by decide) (by decide)).symm
  · rw [b', own2 0 1 (by decide) (by decide)]; exact (R 0 1 (by decide) (by decide)).symm
  · rw [c', own2 0 2 (by decide) (by decide)]; exact (R 0 2 (by decide) (by decide)).symm
  · rw [d', own2 1 0 (by decide) (by decide)]; exact (R 1 0 (by decide) (by decide)).symm
  · rw [e', own2 1 1 (by decide) (by decide)]; exact (R 1 1 (by decide) (by decide)).symm
  · rw [f', own2 1 2 (by decide) (by decide)]; exact (R 1 2 (by decide) (by decide)).symm
theorem stop_enc {x h : Nat} (hh : h < 2) (hf : bitsN x 46 2 ≠ 3) : (¬ bitsN (enc x) (40 + h) 1 = 0 ∨ ¬ bitsN (enc x) (42 + h) 1 = 0) ↔ (bitsN x (44 + h) 1 = 1 ∨ bitsN x 46 2 = h + 1) := by
  rw [enc_hb, show 42 + h = 40 + (2 + h) by omega, enc_hb]
  have a := bitsN_lt x (44 + h) 1
  have b : bitsN x (44 + (2 + h)) 1 = bitsN x 46 2 / 2 ^ h % 2 := by
    have := bitsN_bitsN (x := x) (f := 46) (w := 2) (f' := h) (w' := 1) (by omega)
    rw [show 44 + (2 + h) = 46 + h by omega, ← this]; rfl
  have c := bitsN_lt x 46 2
  rw [b]
  rcases (show h = 0 ∨ h = 1 by omega) with rfl | rfl <;> omega
theorem other_enc {x h : Nat} (hh : h < 2) (hf : bitsN x 46 2 ≠ 3) : bitsN (enc x) (43 - h) 1 = 0 ↔ ¬ bitsN x 46 2 = 2 - h := by
  have e : 43 - h = 40 + (2 + (1 - h)) := by omega
  rw [e, enc_hb]
  have b : bitsN x (44 + (2 + (1 - h))) 1 = bitsN x 46 2 / 2 ^ (1 - h) % 2 := by
    have := bitsN_bitsN (x := x) (f := 46) (w := 2) (f' := 1 - h) (w' := 1) (by omega)
    rw [show 44 + (2 + (1 - h)) = 46 + (1 - h) by omega, ← this]; rfl
  have c := bitsN_lt x 46 2
  rw [b]
  rcases (show h = 0 ∨ h = 1 by omega) with rfl | rfl <;> simp only [Nat.sub_self, Nat.sub_zero] <;> omega
theorem stmt_enc {g : Nat → Nat → Nat} {so nu : Nat → Nat} {n x h : Nat} (hR : hostR g h so nu n) (hL : okL g) (hx : wfM g x) (hf : bitsN x 46 2 ≠ 3) (hh : h < 2) : stmtC so nu n (enc x) h = (doesM g x h).map enc := by
  have hp := (hx.2 h hh).1
  have h7 := (hL h hh).1
  obtain ⟨r1, r2, r3⟩ := hR
  unfold stmtC doesM
  rw [enc_lo (show 16 + 3 * h + 3 ≤ 22 by omega)]
  by_cases e1 : bitsN x (44 + h) 1 = 1
  · rw [if_pos e1]
    by_cases q : n ≤ bitsN x (16 + 3 * h) 3
    · rw [if_pos q]; rfl
    · rw [if_neg q, if_pos ((stop_enc hh hf).mpr (Or.inl e1))]; rfl
  · rw [if_neg e1]
    by_cases e2 : bitsN x 46 2 = h + 1
    · rw [if_pos e2]
      by_cases q : n ≤ bitsN x (16 + 3 * h) 3
      · rw [if_pos q]; rfl
      · rw [if_neg q, if_pos ((stop_enc hh hf).mpr (Or.inr e2))]; rfl
    · rw [if_neg e2]
      by_cases e3 : bitsN x (16 + 3 * h) 3 = g 1 (2 + h)
      · rw [if_pos e3, if_pos (by omega)]; rfl
      · rw [if_neg e3, if_neg (by omega), if_neg (fun z => ((stop_enc hh hf).mp z).elim e1 e2)]
        have hok := (hL h hh).2 (bitsN x (16 + 3 * h) 3) (by omega)
        generalize hP : bitsN x (16 + 3 * h) 3 = p at *
        have hp1 : p + 1 < 2 ^ 3 := by omega
        have hi : ∀ f, bitsN x f 2 < 2 ^ 2 := fun f => bitsN_lt _ _ _
        have s0 := r2 p (by omega)
        have n0 := r3 p 0 (by omega) (by decide)
        have n1 := r3 p 1 (by omega) (by decide)
        have n2 := r3 p 2 (by omega) (by decide)
        rw [Nat.add_zero] at n0
        unfold stmtC2 doesM2
        rw [s0, n0, n1, n2, r1]
        rw [s0, n0, n1, n2] at hok
        by_cases c4 : so p = 4
        · rw [if_pos c4, if_pos c4]
          by_cases q : hasGetM g x h
          · rw [if_pos q, if_pos ((hasGet_enc ⟨r1, r2, r3⟩ hL hx hh).mpr q)]; rfl
          · rw [if_neg q, if_neg (fun z => q ((hasGet_enc ⟨r1, r2, r3⟩ hL hx hh).mp z))]
            show some _ = some _; rw [enc_low hp1 (by omega)]
        · rw [if_neg c4, if_neg c4]
          by_cases c5 : so p = 5
          · rw [if_pos c5, if_pos c5]
            by_cases q : bitsN x (22 + 2 * h) 2 = 0
            · rw [if_pos q, if_pos ((queue0 hL hx hh).mpr q)]
              show some _ = some _; rw [enc_low hp1 (by omega)]
            · rw [if_neg q, if_neg (fun z => q ((queue0 hL hx hh).mp z))]; rfl
          · rw [if_neg c5, if_neg c5]
            by_cases c6 : so p = 6
            · rw [if_pos c6, if_pos c6]
              have k6 := okS_6 hok c6
              show some _ = some _
              have k6' : nu (p * 4 + 1) < 2 ^ 2 := k6.2
              rw [enc_low k6' (by omega), enc_low hp1 (by omega)]
            · rw [if_neg c6, if_neg c6]
              by_cases c7 : so p = 7
              · rw [if_pos c7, if_pos c7]
                have k7 := okS_7 hok c7
                show some _ = some _
                rw [enc_low (hi _) (by omega), enc_low hp1 (by omega), enc_lo (by omega)]
              · rw [if_neg c7, if_neg c7]
                by_cases c8 : so p = 8
                · rw [if_pos c8, if_pos c8]
                  have k8 := okS_8 hok c8
                  rw [enc_lo (by omega)]
                  by_cases q : bitsN x (8 + 4 * h + 2 * nu (p * 4 + 0)) 2 = nu (p * 4 + 1)
                  · rw [if_pos q, if_pos q]
                    by_cases z : p + 1 + nu (p * 4 + 2) ≤ n
                    · rw [if_pos z, if_neg (by omega)]
                      have hv : p + 1 + nu (p * 4 + 2) < 2 ^ 3 := by omega
                      show some _ = some _
                      rw [ww_same hp1 hv, enc_low hv (by omega)]
                    · rw [if_neg z, if_pos (by omega)]
                      have hv : n < 2 ^ 3 := by omega
                      show some _ = some _
                      rw [ww_same hp1 hv, enc_low hv (by omega)]
                  · rw [if_neg q, if_neg q, if_pos (by omega)]
                    show some _ = some _
                    rw [enc_low hp1 (by omega)]
                · rw [if_neg c8, if_neg c8]
                  unfold withWishC
                  have w0 := wish_none hL hx hh (show 0 < 3 by decide)
                  have w1 := wish_none hL hx hh (show 1 < 3 by decide)
                  have w2 := wish_none hL hx hh (show 2 < 3 by decide)
                  have en : bitsN (withN x (16 + 3 * h) 3 (p + 1)) (22 + 2 * h) 2 = bitsN x (22 + 2 * h) 2 := bw_ne hp1 (by omega)
                  have h4 := bitsN_lt x (22 + 2 * h) 2
                  generalize hN : bitsN x (22 + 2 * h) 2 = m at *
                  rcases (show m = 0 ∨ m = 1 ∨ m = 2 ∨ m = 3 by omega) with rfl | rfl | rfl | rfl
                  · rw [if_pos (w0.mpr (by decide)), if_neg (by decide)]
                    show some _ = some _
                    rw [enc_enq hh en (by decide) (by omega), enc_low hp1 (by omega)]
                  · rw [if_neg (fun z => w0.mp z (by decide)), if_pos (w1.mpr (by decide)), if_neg (by decide)]
                    show some _ = some _
                    rw [enc_enq hh en (by decide) (by omega), enc_low hp1 (by omega)]
                  · rw [if_neg (fun z => w0.mp z (by decide)), if_neg (fun z => w1.mp z (by decide)), if_pos (w2.mpr (by decide)), if_neg (by decide)]
                    show some _ = some _
                    rw [enc_enq hh en (by decide) (by omega), enc_low hp1 (by omega)]
                  · rw [if_neg (fun z => w0.mp z (by decide)), if_neg (fun z => w1.mp z (by decide)), if_neg (fun z => w2.mp z (by decide)), if_pos rfl]; rfl

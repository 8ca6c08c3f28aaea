/-! PURE: the class's object against the reference's, between calls -/
def progR (n : Nat) (so nu : Nat → Nat) (mg : Nat → Nat → Nat) (h : Nat) : Prop := ∀ i, i < n → so i = mg 2 (8 * h + i) ∧ ∀ w, w < arM (so i) → nu (i * 4 + w) = mg 3 (4 * (8 * h + i) + w)
def XR (f : Nat → Nat) (g : Nat → Nat → Nat) (mf : Nat → Nat) (mg : Nat → Nat → Nat) : Prop := (f 0 = mf 7 ∧ (∀ j, j < f 0 → g 1 j = sb (mg 6 j)) ∧ f 3 = mf 8 ∧ f 4 = mf 9 ∧ f 9 = mf 5) ∧ (∀ w, w < 4 → g 11 w = mg 4 w ∧ g 12 w = mg 5 w) ∧ (f 10 = mg 1 0 ∧ f 11 = mg 1 1 ∧ progR (f 10) (g 14) (g 15) mg 0 ∧ progR (f 11) (g 17) (g 18) mg 1) ∧ f 2 = mf 21 ∧ ∀ k, k < f 2 → g 23 k = mg 12 k
theorem XR_same {f : Nat → Nat} {g : Nat → Nat → Nat} {mf mf' : Nat → Nat} {mg mg' : Nat → Nat → Nat} (h : XR f g mf mg) (h10 : f 10 ≤ 7) (h11 : f 11 ≤ 7) (hs : sameM mf mf' mg mg') : XR f g mf' mg' := by
  obtain ⟨⟨a0, a1, a2, a3, a4⟩, b, ⟨c0, c1, c2, c3⟩, d, e⟩ := h
  obtain ⟨s1, s2, s3, s4, s5, s6⟩ := hs
  have a4c : ∀ s, arM s ≤ 4 := fun s => by unfold arM; split <;> (try split) <;> (try split) <;> omega
  refine ⟨⟨?_, ?_, ?_, ?_, ?_⟩, ?_, ⟨?_, ?_, ?_, ?_⟩, ?_, ?_⟩
  · rw [s1 7 (by decide) (by decide)]; exact a0
  · rw [s5]; exact a1
  · rw [s1 8 (by decide) (by decide)]; exact a2
  · rw [s1 9 (by decide) (by decide)]; exact a3
  · rw [s1 5 (by decide) (by decide)]; exact a4
  · rw [s3, s4]; exact b
  · rw [s2.1.1]; exact c0
  · rw [s2.1.2]; exact c1
  · intro i hi
    rw [s2.2.1 _ (by omega)]
    refine ⟨(c2 i hi).1, fun w hw => ?_⟩
    have := a4c (g 14 i)
    rw [s2.2.2 _ (by omega)]; exact (c2 i hi).2 w hw
  · intro i hi
    rw [s2.2.1 _ (by omega)]
    refine ⟨(c3 i hi).1, fun w hw => ?_⟩
    have := a4c (g 17 i)
    rw [s2.2.2 _ (by omega)]; exact (c3 i hi).2 w hw
  · rw [s1 21 (by decide) (by decide)]; exact d
  · rw [s6]; exact e
theorem lay_none {g : Nat → Nat → Nat} {h : Nat} (hh : h < 2) : layL g 4294967295 h = g 1 h ∧ (∀ i, layS g 4294967295 h i = g 2 (8 * h + i)) ∧ ∀ i w, layN g 4294967295 h i w = g 3 (4 * (8 * h + i) + w) := by
  have no := fIn_no (g := g) hh
  have sr : ∀ i, laySrc g 4294967295 h i = i := fun i => by unfold laySrc; rw [if_neg (fun z => no z.1)]
  refine ⟨by unfold layL; rw [if_neg no], fun i => ?_, fun i w => ?_⟩
  · unfold layS; rw [if_neg (fun z => no z.1), sr]
  · unfold layN; rw [if_neg (fun z => no z.2.2.1), sr]
theorem eqL_X {L : Nat} {f : Nat → Nat} {g : Nat → Nat → Nat} {mf : Nat → Nat} {mg : Nat → Nat → Nat} (hX : XBase L f g) (h : XR f g mf mg) : eqL (GX f g) (layG mg 4294967295) := by
  obtain ⟨-, b, ⟨c0, c1, c2, c3⟩, -, -⟩ := h
  have H : ∀ h so nu n, h < 2 → n ≤ 7 → hostR (GX f g) h so nu n → n = mg 1 h → progR n so nu mg h → (GX f g) 1 (2 + h) = (layG mg 4294967295) 1 (2 + h) ∧ ∀ i, i < (GX f g) 1 (2 + h) → (GX f g) 2 (16 + 8 * h + i) = (layG mg 4294967295) 2 (16 + 8 * h + i) ∧ ∀ w, w < arM ((GX f g) 2 (16 + 8 * h + i)) → (GX f g) 3 (4 * (16 + 8 * h + i) + w) = (layG mg 4294967295) 3 (4 * (16 + 8 * h + i) + w) := by
    intro h so nu n hh hn hR e hp
    obtain ⟨l1, l2, l3⟩ := lay_none (g := mg) hh
    obtain ⟨r1, r2, r3⟩ := hR
    rw [layG_1 hh, l1, r1]
    refine ⟨e, fun i hi => ?_⟩
    rw [layG_2 (by omega), l2, r2 i (by omega)]
    refine ⟨(hp i hi).1, fun w hw => ?_⟩
    have h4 : w < 4 := by unfold arM at hw; split at hw <;> (try split at hw) <;> (try split at hw) <;> omega
    rw [layG_3 (by omega) h4, l3, r3 i w (by omega) h4]
    exact (hp i hi).2 w hw
  exact eqL_two (H 0 _ _ _ (by decide) hX.2.1.1 gP_0 c0 c2) (H 1 _ _ _ (by decide) hX.2.1.2.1 gP_1 c1 c3) b
/-- the two walks -/
theorem eqB_X {L : Nat} {f : Nat → Nat} {g : Nat → Nat → Nat} {mf : Nat → Nat} {mg : Nat → Nat → Nat} (hX : XBase L f g) (h : XR f g mf mg) : eqB (BX f g) (WALK (mf 5) mg 4294967295) := by
  unfold BX WALK
  rw [h.1.2.2.2.2]
  exact (walk_congr (eqL_X hX h) (okL_GX hX) hX.2.2.2.1.1).1
theorem eqB_W {L : Nat} {f : Nat → Nat} {g : Nat → Nat → Nat} {mf : Nat → Nat} {mg : Nat → Nat → Nat} {mt : Nat → Nat} (hX : XBase L f g) (h : XR f g mf mg) (hW : Walked mf mg mt) : eqB (BX f g) (mf 19, mt, mg 8, mg 9, mg 10) := eqB_trans (eqB_X hX h) (eqB_sym hW.2.2)
theorem eqL_trans {a b c : Nat → Nat → Nat} (h : eqL a b) (k : eqL b c) : eqL a c := ⟨fun x hx => by
  obtain ⟨p, q⟩ := h.1 x hx
  obtain ⟨p', q'⟩ := k.1 x hx
  refine ⟨p.trans p', fun i hi => ?_⟩
  obtain ⟨r, s⟩ := q i hi
  obtain ⟨r', s'⟩ := q' i (by rw [← p]; exact hi)
  exact ⟨r.trans r', fun w hw => (s w hw).trans (s' w (by rw [← r]; exact hw))⟩, fun w hw => ⟨(h.2 w hw).1.trans (k.2 w hw).1, (h.2 w hw).2.trans (k.2 w hw).2⟩⟩
/-- the class's programs, and the reference's as they are laid -/
theorem eqL_W {L : Nat} {f : Nat → Nat} {g : Nat → Nat → Nat} {mf : Nat → Nat} {mg : Nat → Nat → Nat} {mt : Nat → Nat} (hX : XBase L f g) (h : XR f g mf mg) (hM : MBase mf mg) (hW : Walked mf mg mt) : eqL (GX f g) mg := eqL_trans (eqL_X hX h) (eqL_sym (eqL_lay (lay7 hM.1 (fun a ha q => absurd q (fIn_no ha))) (fun a ha => (hW.1.2.2.2 a ha).1) (fun a ha => (hW.1.2.2.2 a ha).2) (fun _ _ => ⟨rfl, rfl⟩)))
theorem end_congr {mf : Nat} {g g' : Nat → Nat → Nat} {x : Nat} (hE : eqL g g') (hL : okL g) (hx : wfM g x) : isEndM mf g x ↔ isEndM mf g' x := by
  constructor
  · intro h k hk; rw [← step_congr hE hL hx (by omega)]; exact h k hk
  · intro h k hk; rw [step_congr hE hL hx (by omega)]; exact h k hk
theorem good_congr {mf : Nat} {g g' : Nat → Nat → Nat} {x : Nat} (hE : eqL g g') (hL : okL g) (hx : wfM g x) : isGoodM mf g x ↔ isGoodM mf g' x := by
  have e0 := (hE.1 0 (by decide)).1
  have e1 := (hE.1 1 (by decide)).1
  have e0 : g 1 2 = g' 1 2 := e0
  have e1 : g 1 3 = g' 1 3 := e1
  unfold isGoodM
  rw [e0, e1, end_congr hE hL hx]
/-- the places of a state, by the class's mask -/
theorem places_mask {y pa pb : Nat} (ha : pa < 8) (hb : pb < 8) : y &&& 4128768 = pa * 65536 + pb * 524288 ↔ (bitsN y 16 3 = pa ∧ bitsN y 19 3 = pb) := by
  have e : y &&& 4128768 = 2 ^ 16 * (y / 2 ^ 16 % 2 ^ 6) := by
    apply Nat.eq_of_testBit_eq
    intro i
    rw [Nat.testBit_and, show 4128768 = (2 ^ 6 - 1) * 2 ^ 16 from rfl, Nat.testBit_mul_two_pow, Nat.testBit_two_pow_sub_one, Nat.mul_comm, Nat.testBit_mul_two_pow, Nat.testBit_mod_two_pow, Nat.testBit_div_two_pow]
    by_cases h : 16 ≤ i
    · rw [show i - 16 + 16 = i by omega]; simp [h, Bool.and_comm]
    · simp [h]
  rw [e]
  unfold bitsN
  constructor
  · intro h; constructor <;> omega
  · rintro ⟨h1, h2⟩; omega
theorem places_enc {x pa pb : Nat} (ha : pa < 8) (hb : pb < 8) : decide (enc x &&& 4128768 = pa * 65536 + pb * 524288) = decide (bitsN x 16 3 = pa ∧ bitsN x 19 3 = pb) := by
  rw [decide_eq_decide, places_mask ha hb, enc_lo (by decide), enc_lo (by decide)]
theorem wm_tab : ∀ y, y < 256 → ∀ se, se < 16 → y &&& wmC se = (if se / 2 ^ 0 % 2 = 0 then 0 else y / 1 % 4) + 4 * (if se / 2 ^ 1 % 2 = 0 then 0 else y / 4 % 4) + 16 * (if se / 2 ^ 2 % 2 = 0 then 0 else y / 16 % 4) + 64 * (if se / 2 ^ 3 % 2 = 0 then 0 else y / 64 % 4) := by decide +kernel
theorem and_low {y m : Nat} (hm : m < 256) : y &&& m = y % 256 &&& m := by
  apply Nat.eq_of_testBit_eq
  intro i
  rw [Nat.testBit_and, Nat.testBit_and, show 256 = 2 ^ 8 from rfl, Nat.testBit_mod_two_pow]
  by_cases h : i < 8
  · simp [h]
  · rw [tb_hi (show m < 2 ^ 8 from hm) (by omega)]; simp
theorem words_mask {y va se : Nat} (hv : va < 256) (hs : se < 16) : (y &&& wmC se = va &&& wmC se) ↔ ∀ w, w < 4 → (se / 2 ^ w % 2 = 0 ∨ bitsN y (2 * w) 2 = va / 2 ^ (2 * w) % 4) := by
  rw [and_low (y := y) (wmC_lt se), wm_tab _ (Nat.mod_lt _ (by decide)) se hs, wm_tab va hv se hs]
  have key : (∀ w, w < 4 → (se / 2 ^ w % 2 = 0 ∨ bitsN y (2 * w) 2 = va / 2 ^ (2 * w) % 4)) ↔ ((se / 2 ^ 0 % 2 = 0 ∨ y / 1 % 4 = va / 1 % 4) ∧ (se / 2 ^ 1 % 2 = 0 ∨ y / 4 % 4 = va / 4 % 4) ∧ (se / 2 ^ 2 % 2 = 0 ∨ y / 16 % 4 = va / 16 % 4) ∧ (se / 2 ^ 3 % 2 = 0 ∨ y / 64 % 4 = va / 64 % 4)) := by
    constructor
    · intro h
      exact ⟨h 0 (by decide), h 1 (by decide), h 2 (by decide), h 3 (by decide)⟩
    · rintro ⟨h0, h1, h2, h3⟩ w hw
      rcases (show w = 0 ∨ w = 1 ∨ w = 2 ∨ w = 3 by omega) with rfl | rfl | rfl | rfl
      · exact h0
      · exact h1
      · exact h2
      · exact h3
  rw [key]
  generalize se / 2 ^ 0 % 2 = s0
  generalize se / 2 ^ 1 % 2 = s1
  generalize se / 2 ^ 2 % 2 = s2
  generalize se / 2 ^ 3 % 2 = s3
  have e0 : y % 256 / 1 % 4 = y / 1 % 4 := by omega
  have e1 : y % 256 / 4 % 4 = y / 4 % 4 := by omega
  have e2 : y % 256 / 16 % 4 = y / 16 % 4 := by omega
  have e3 : y % 256 / 64 % 4 = y / 64 % 4 := by omega
  rw [e0, e1, e2, e3]
  have l0 : y / 1 % 4 < 4 := Nat.mod_lt _ (by decide)
  have l1 : y / 4 % 4 < 4 := Nat.mod_lt _ (by decide)
  have l2 : y / 16 % 4 < 4 := Nat.mod_lt _ (by decide)
  have l3 : y / 64 % 4 < 4 := Nat.mod_lt _ (by decide)
  have m0 : va / 1 % 4 < 4 := Nat.mod_lt _ (by decide)
  have m1 : va / 4 % 4 < 4 := Nat.mod_lt _ (by decide)
  have m2 : va / 16 % 4 < 4 := Nat.mod_lt _ (by decide)
  have m3 : va / 64 % 4 < 4 := Nat.mod_lt _ (by decide)
  generalize y / 1 % 4 = y0 at *
  generalize y / 4 % 4 = y1 at *
  generalize y / 16 % 4 = y2 at *
  generalize y / 64 % 4 = y3 at *
  generalize va / 1 % 4 = v0 at *
  generalize va / 4 % 4 = v1 at *
  generalize va / 16 % 4 = v2 at *
  generalize va / 64 % 4 = v3 at *
  clear key e0 e1 e2 e3 hv hs
  by_cases z0 : s0 = 0 <;> by_cases z1 : s1 = 0 <;> by_cases z2 : s2 = 0 <;> by_cases z3 : s3 = 0 <;> simp only [z0, z1, z2, z3, if_true, if_false, true_or, false_or, true_and, and_true] <;> omega
theorem low_and {y m : Nat} (hy : y < 2 ^ 44) (hm : m < 256) : y &&& (18446744073709486080 + m) = y / 65536 * 65536 + (y &&& m) := by
  have h1 : 18446744073709486080 + m = (2 ^ 48 - 1) * 2 ^ 16 ||| m := by
    have := Nat.two_pow_add_eq_or_of_lt (i := 16) (show m < 2 ^ 16 by omega) 281474976710655
    rw [Nat.mul_comm] at this
    exact this
  have h2 : y / 65536 * 65536 + (y &&& m) = y / 65536 * 65536 ||| (y &&& m) := by
    have l : y &&& m < 2 ^ 16 := Nat.lt_of_le_of_lt Nat.and_le_right (by omega)
    have := Nat.two_pow_add_eq_or_of_lt (i := 16) l (y / 65536)
    rw [Nat.mul_comm] at this
    exact this
  rw [h1, h2]
  apply Nat.eq_of_testBit_eq
  intro i
  rw [Nat.testBit_and, Nat.testBit_or, Nat.testBit_or, Nat.testBit_and, Nat.testBit_mul_two_pow, Nat.testBit_two_pow_sub_one, show y / 65536 * 65536 = y / 2 ^ 16 * 2 ^ 16 from rfl, Nat.testBit_mul_two_pow, Nat.testBit_div_two_pow]
  by_cases h : 16 ≤ i
  · rw [show i - 16 + 16 = i by omega]
    by_cases q : i - 16 < 48
    · simp [h, q]
      cases y.testBit i <;> simp
    · rw [tb_hi hy (show 44 ≤ i by omega)]; simp
  · simp [h]

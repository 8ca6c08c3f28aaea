/-! PURE: what holds of the reference object between calls -/
/-- the told programs are the same -/
def prM (g g' : Nat → Nat → Nat) : Prop := (g' 1 0 = g 1 0 ∧ g' 1 1 = g 1 1) ∧ (∀ j, j < 16 → g' 2 j = g 2 j) ∧ (∀ j, j < 64 → g' 3 j = g 3 j)
theorem prM_len {g g' : Nat → Nat → Nat} (h : prM g g') {a : Nat} (ha : a < 2) : g' 1 a = g 1 a := by
  rcases (show a = 0 ∨ a = 1 by omega) with rfl | rfl
  · exact h.1.1
  · exact h.1.2
theorem prM_trans {g g' g'' : Nat → Nat → Nat} (h : prM g g') (k : prM g' g'') : prM g g'' := ⟨⟨k.1.1.trans h.1.1, k.1.2.trans h.1.2⟩, fun j hj => (k.2.1 j hj).trans (h.2.1 j hj), fun j hj => (k.2.2 j hj).trans (h.2.2 j hj)⟩
theorem prM_rfl (g : Nat → Nat → Nat) : prM g g := ⟨⟨rfl, rfl⟩, fun _ _ => rfl, fun _ _ => rfl⟩
theorem okP_congr {g g' : Nat → Nat → Nat} (h : prM g g') (hP : okP g) : okP g' := fun a ha => by
  rw [prM_len h ha]
  obtain ⟨p, q⟩ := hP a ha
  refine ⟨p, fun i hi => ?_⟩
  rw [h.2.1 _ (by omega), h.2.2 _ (by omega), h.2.2 _ (by omega), h.2.2 _ (by omega), h.2.2 _ (by omega)]
  exact q i hi
theorem layL_congr {g g' : Nat → Nat → Nat} (h : prM g g') {fe a : Nat} (ha : a < 2) : layL g' fe a = layL g fe a := by
  unfold layL fIn; rw [prM_len h ha]
theorem laySrc_congr {g g' : Nat → Nat → Nat} (h : prM g g') {fe a j : Nat} (ha : a < 2) : laySrc g' fe a j = laySrc g fe a j := by
  unfold laySrc fIn; rw [prM_len h ha]
theorem laySrc_le {g : Nat → Nat → Nat} {fe a j : Nat} : laySrc g fe a j ≤ j := by unfold laySrc; split <;> omega
theorem layS_congr {g g' : Nat → Nat → Nat} (h : prM g g') {fe a j : Nat} (ha : a < 2) (hj : j < 8) : layS g' fe a j = layS g fe a j := by
  have := laySrc_le (g := g) (fe := fe) (a := a) (j := j)
  unfold layS fIn; rw [prM_len h ha, laySrc_congr h ha, h.2.1 _ (by omega)]
theorem layN_congr {g g' : Nat → Nat → Nat} (h : prM g g') {fe a j w : Nat} (ha : a < 2) (hj : j < 8) (hw : w < 4) : layN g' fe a j w = layN g fe a j w := by
  have := laySrc_le (g := g) (fe := fe) (a := a) (j := j)
  unfold layN fIn; rw [prM_len h ha, laySrc_congr h ha, h.2.1 _ (by omega), h.2.2 _ (by omega), h.2.2 _ (by omega)]
theorem LayA_congr {g g' : Nat → Nat → Nat} (h : prM g g') {fe : Nat} {l s n : Nat → Nat} (h7 : ∀ a, a < 2 → layL g fe a ≤ 7) (hA : LayA g fe l s n) : LayA g' fe l s n := by
  obtain ⟨a, b, c, d⟩ := hA
  refine ⟨⟨a.1.trans h.1.1.symm, a.2.trans h.1.2.symm⟩, fun j hj => (b j hj).trans (h.2.1 j hj).symm, fun j hj => (c j hj).trans (h.2.2 j hj).symm, fun x hx => ?_⟩
  obtain ⟨p, q⟩ := d x hx
  have h7x := h7 x hx
  rw [layL_congr h hx]
  refine ⟨p, fun j hj => ?_⟩
  obtain ⟨q1, q2⟩ := q j hj
  rw [layS_congr h hx (by omega)]
  refine ⟨q1, fun n w hw => ?_⟩
  rw [layN_congr h hx (by omega) hw]
  exact q2 (fun z => n ⟨⟨z.1.1, by rw [prM_len h hx]; exact z.1.2⟩, z.2⟩) w hw
theorem lay7 {g : Nat → Nat → Nat} {fe : Nat} (hP : okP g) (hf : ∀ h, h < 2 → fIn g fe h → g 1 h < 7) : ∀ h, h < 2 → layL g fe h ≤ 7 := fun h hh => by
  unfold layL
  split
  · rename_i q; have := hf h hh q; omega
  · exact (hP h hh).1
theorem fIn_no {g : Nat → Nat → Nat} {h : Nat} (hh : h < 2) : ¬ fIn g 4294967295 h := fun q => by have := q.1; omega
def MBase (f : Nat → Nat) (g : Nat → Nat → Nat) : Prop := okP g ∧ (∀ a, a < 6 → ∀ i, g a i < 2147483648) ∧ f 5 < 2 ∧ (∀ w, w < 4 → g 4 w < 4) ∧ (∀ w, w < 4 → g 5 w < 8) ∧ f 7 ≤ 200 ∧ (∀ i, g 6 i < 256) ∧ f 8 < 4294967296 ∧ f 9 < 4294967296 ∧ f 20 < 2 ∧ f 21 ≤ 29 ∧ (∀ i, g 12 i < 2147483648)
def Walked (f : Nat → Nat) (g : Nat → Nat → Nat) (t : Nat → Nat) : Prop := LayA g 4294967295 (g 1) (g 2) (g 3) ∧ BInv g (f 19, t, g 8, g 9, g 10) ∧ eqB (f 19, t, g 8, g 9, g 10) (WALK (f 5) g 4294967295)
def MInv (f : Nat → Nat) (g : Nat → Nat → Nat) (t : Nat → Nat) : Prop := MBase f g ∧ (f 20 ≠ 0 → Walked f g t)
/-- what a walk leaves as it was -/
def sameM (f f' : Nat → Nat) (g g' : Nat → Nat → Nat) : Prop := (∀ k, k ≠ 19 → k ≠ 20 → f' k = f k) ∧ prM g g' ∧ g' 4 = g 4 ∧ g' 5 = g 5 ∧ g' 6 = g 6 ∧ g' 12 = g 12
theorem sameM_rfl (f : Nat → Nat) (g : Nat → Nat → Nat) : sameM f f g g := ⟨fun _ _ _ => rfl, prM_rfl g, rfl, rfl, rfl, rfl⟩
theorem sameM_trans {f f' f'' : Nat → Nat} {g g' g'' : Nat → Nat → Nat} (h : sameM f f' g g') (k : sameM f' f'' g' g'') : sameM f f'' g g'' := ⟨fun q a b => (k.1 q a b).trans (h.1 q a b), prM_trans h.2.1 k.2.1, k.2.2.1.trans h.2.2.1, k.2.2.2.1.trans h.2.2.2.1, k.2.2.2.2.1.trans h.2.2.2.2.1, k.2.2.2.2.2.trans h.2.2.2.2.2⟩
theorem okL_of {g : Nat → Nat → Nat} {l s n : Nat → Nat} {fe : Nat} (hP : okP g) (h7 : ∀ h, h < 2 → layL g fe h ≤ 7) (hA : LayA g fe l s n) : okL (upA (upA (upA g 1 l) 2 s) 3 n) := okL_lay hP h7 (fun h hh => (hA.2.2.2 h hh).1) (fun h hh => (hA.2.2.2 h hh).2)
theorem Walked.okL {f : Nat → Nat} {g : Nat → Nat → Nat} {t : Nat → Nat} (h : Walked f g t) (hB : MBase f g) : okL g := okL_lay hB.1 (lay7 hB.1 (fun h hh q => absurd q (fIn_no hh))) (fun a ha => (h.1.2.2.2 a ha).1) (fun a ha => (h.1.2.2.2 a ha).2)
/-- behind a laying and a walk: what stands, over the arrays as they then are -/
theorem walked_lay {g : Nat → Nat → Nat} {l s n t p q r tb : Nat → Nat} {mf fe : Nat} (hP : okP g) (h7 : ∀ h, h < 2 → layL g fe h ≤ 7) (h4 : ∀ w, w < 4 → g 4 w < 4) (hA : LayA g fe l s n) (b : BT) (hb : walkB mf (upA (upA (upA g 1 l) 2 s) 3 n) t p q r = b) :
    LayA (upA (upA (upA (upA (upA (upA (upA g 1 l) 2 s) 3 n) 8 b.2.2.1) 9 b.2.2.2.1) 10 b.2.2.2.2) 11 tb) fe l s n ∧ BInv (upA (upA (upA (upA (upA (upA (upA g 1 l) 2 s) 3 n) 8 b.2.2.1) 9 b.2.2.2.1) 10 b.2.2.2.2) 11 tb) b ∧ eqB b (WALK mf (upA (upA (upA (upA (upA (upA (upA g 1 l) 2 s) 3 n) 8 b.2.2.1) 9 b.2.2.2.1) 10 b.2.2.2.2) 11 tb) fe) ∧ eqB b (WALK mf g fe) := by
  have hpr : prM g (upA (upA (upA (upA (upA (upA (upA g 1 l) 2 s) 3 n) 8 b.2.2.1) 9 b.2.2.2.1) 10 b.2.2.2.2) 11 tb) := ⟨hA.1, hA.2.1, hA.2.2.1⟩
  have hA' := LayA_congr hpr h7 hA
  have hL := okL_of hP h7 hA
  have h7' : ∀ h, h < 2 → layL (upA (upA (upA (upA (upA (upA (upA g 1 l) 2 s) 3 n) 8 b.2.2.1) 9 b.2.2.2.1) 10 b.2.2.2.2) 11 tb) fe h ≤ 7 := fun h hh => by rw [layL_congr hpr hh]; exact h7 h hh
  have e1 : eqL (upA (upA (upA g 1 l) 2 s) 3 n) (layG (upA (upA (upA (upA (upA (upA (upA g 1 l) 2 s) 3 n) 8 b.2.2.1) 9 b.2.2.2.1) 10 b.2.2.2.2) 11 tb) fe) := eqL_lay h7' (fun h hh => (hA'.2.2.2 h hh).1) (fun h hh => (hA'.2.2.2 h hh).2) (fun w hw => ⟨rfl, rfl⟩)
  have e2 : eqL (upA (upA (upA g 1 l) 2 s) 3 n) (layG g fe) := eqL_lay h7 (fun h hh => (hA.2.2.2 h hh).1) (fun h hh => (hA.2.2.2 h hh).2) (fun w hw => ⟨rfl, rfl⟩)
  obtain ⟨w1, w2⟩ := walk_congr (mf := mf) (t := t) (p := p) (s := q) (q := r) (t' := fun _ => 0) (p' := fun _ => 0) (s' := fun _ => 0) (q' := fun _ => 0) e1 hL h4
  obtain ⟨w3, -⟩ := walk_congr (mf := mf) (t := t) (p := p) (s := q) (q := r) (t' := fun _ => 0) (p' := fun _ => 0) (s' := fun _ => 0) (q' := fun _ => 0) e2 hL h4
  rw [hb] at w1 w2 w3
  exact ⟨hA', w2, w1, w3⟩
theorem MBase_same {f f' : Nat → Nat} {g g' : Nat → Nat → Nat} (h : MBase f g) (hs : sameM f f' g g') (hg : ∀ a, a < 6 → ∀ i, g' a i < 2147483648) (h20 : f' 20 < 2) : MBase f' g' := by
  obtain ⟨a1, a2, a3, a4, a5, a6, a7, a8, a9, a10, a11, a12⟩ := h
  obtain ⟨s1, s2, s3, s4, s5, s6⟩ := hs
  refine ⟨okP_congr s2 a1, hg, ?_, ?_, ?_, ?_, ?_, ?_, ?_, h20, ?_, ?_⟩
  · rw [s1 5 (by decide) (by decide)]; exact a3
  · rw [s3]; exact a4
  · rw [s4]; exact a5
  · rw [s1 7 (by decide) (by decide)]; exact a6
  · rw [s5]; exact a7
  · rw [s1 8 (by decide) (by decide)]; exact a8
  · rw [s1 9 (by decide) (by decide)]; exact a9
  · rw [s1 21 (by decide) (by decide)]; exact a11
  · rw [s6]; exact a12
theorem upN_le2 {f : Nat → Nat} {a b k : Nat} (h1 : k ≠ 19) (h2 : k ≠ 20) : upN (upN f 19 a) 20 b k = f k := by rw [upN_n h2, upN_n h1]
theorem hg_lay {g : Nat → Nat → Nat} {l s n a8 a9 a10 a11 : Nat → Nat} (hg : ∀ a, a < 6 → ∀ i, g a i < 2147483648) (hb : ∀ j, l j < 2147483648 ∧ s j < 2147483648 ∧ n j < 2147483648) : ∀ a, a < 6 → ∀ i, upA (upA (upA (upA (upA (upA (upA g 1 l) 2 s) 3 n) 8 a8) 9 a9) 10 a10) 11 a11 a i < 2147483648 := hgB (fun a ha i => by
  by_cases e3 : a = 3
  · subst e3; exact (hb i).2.2
  · rw [upA_n e3]
    by_cases e2 : a = 2
    · subst e2; exact (hb i).2.1
    · rw [upA_n e2]
      by_cases e1 : a = 1
      · subst e1; exact (hb i).1
      · rw [upA_n e1]; exact hg a ha i)
theorem hg_lay0 {g : Nat → Nat → Nat} {l s n : Nat → Nat} (hg : ∀ a, a < 6 → ∀ i, g a i < 2147483648) (hb : ∀ j, l j < 2147483648 ∧ s j < 2147483648 ∧ n j < 2147483648) : ∀ a, a < 6 → ∀ i, upA (upA (upA g 1 l) 2 s) 3 n a i < 2147483648 := fun a ha i => by
  by_cases e3 : a = 3
  · subst e3; exact (hb i).2.2
  · rw [upA_n e3]
    by_cases e2 : a = 2
    · subst e2; exact (hb i).2.1
    · rw [upA_n e2]
      by_cases e1 : a = 1
      · subst e1; exact (hb i).1
      · rw [upA_n e1]; exact hg a ha i

/-! PURE: programs laid for a walk, with a fence more or without -/
def cp4 (q : Nat → Nat) (a b : Nat) : Nat → Nat := fun j => if 4 * b ≤ j ∧ j < 4 * b + 4 then q (4 * a + (j - 4 * b)) else q j
theorem cp4_eq {q : Nat → Nat} {a b : Nat} (h : a ≠ b) : upN (upN (upN (upN q (4 * b) (q (4 * a))) (4 * b + 1) (upN q (4 * b) (q (4 * a)) (4 * a + 1))) (4 * b + 2) (upN (upN q (4 * b) (q (4 * a))) (4 * b + 1) (upN q (4 * b) (q (4 * a)) (4 * a + 1)) (4 * a + 2))) (4 * b + 3) (upN (upN (upN q (4 * b) (q (4 * a))) (4 * b + 1) (upN q (4 * b) (q (4 * a)) (4 * a + 1))) (4 * b + 2) (upN (upN q (4 * b) (q (4 * a))) (4 * b + 1) (upN q (4 * b) (q (4 * a)) (4 * a + 1)) (4 * a + 2)) (4 * a + 3)) = cp4 q a b := by
  funext j
  have e : ∀ i w, i < 4 → w < 4 → 4 * a + i ≠ 4 * b + w := fun i w _ _ => by omega
  have e0 : ∀ i, i < 4 → 4 * a + i ≠ 4 * b := fun i hi => e i 0 hi (by omega)
  rw [upN_n (e 3 2 (by omega) (by omega)), upN_n (e 3 1 (by omega) (by omega)), upN_n (e0 3 (by omega)), upN_n (e 2 1 (by omega) (by omega)), upN_n (e0 2 (by omega)), upN_n (e0 1 (by omega))]
  unfold cp4
  by_cases h3 : j = 4 * b + 3
  · subst h3; rw [upN_s, if_pos (by omega)]; congr 1; omega
  · rw [upN_n h3]
    by_cases h2 : j = 4 * b + 2
    · subst h2; rw [upN_s, if_pos (by omega)]; congr 1; omega
    · rw [upN_n h2]
      by_cases h1 : j = 4 * b + 1
      · subst h1; rw [upN_s, if_pos (by omega)]; congr 1; omega
      · rw [upN_n h1]
        by_cases h0 : j = 4 * b
        · subst h0; rw [upN_s, if_pos (by omega)]; congr 1; omega
        · rw [upN_n h0, if_neg (by omega)]
abbrev fIn (g : Nat → Nat → Nat) (fe h : Nat) : Prop := fe / 8 = h ∧ fe % 8 < g 1 h
def layL (g : Nat → Nat → Nat) (fe h : Nat) : Nat := if fIn g fe h then g 1 h + 1 else g 1 h
def laySrc (g : Nat → Nat → Nat) (fe h j : Nat) : Nat := if fIn g fe h ∧ fe % 8 < j then j - 1 else j
def layS (g : Nat → Nat → Nat) (fe h j : Nat) : Nat := if fIn g fe h ∧ j = fe % 8 then 4 else g 2 (8 * h + laySrc g fe h j)
def layN (g : Nat → Nat → Nat) (fe h j w : Nat) : Nat := if g 2 (8 * h + laySrc g fe h j) = 8 ∧ w = 2 ∧ fIn g fe h ∧ j < fe % 8 ∧ fe % 8 ≤ j + g 3 (4 * (8 * h + j) + 2) then g 3 (4 * (8 * h + j) + 2) + 1 else g 3 (4 * (8 * h + laySrc g fe h j) + w)
theorem layN_ne {g : Nat → Nat → Nat} {fe h j w : Nat} (hw : w ≠ 2) : layN g fe h j w = g 3 (4 * (8 * h + laySrc g fe h j) + w) := by
  unfold layN; rw [if_neg (fun y => hw y.2.1)]
def LayH (g : Nat → Nat → Nat) (fe h m : Nat) (s2 n3 : Nat → Nat) : Prop := ∀ j, j < m → s2 (16 + 8 * h + j) = layS g fe h j ∧ (¬ (fIn g fe h ∧ j = fe % 8) → ∀ w, w < 4 → n3 (4 * (16 + 8 * h + j) + w) = layN g fe h j w)
def LayP (g : Nat → Nat → Nat) (fe h m : Nat) (s2 n3 : Nat → Nat) : Prop := (∀ j, j < 16 → s2 j = g 2 j) ∧ (∀ j, j < 64 → n3 j = g 3 j) ∧ (∀ h', h' < h → LayH g fe h' (layL g fe h') s2 n3) ∧ LayH g fe h m s2 n3
theorem lay_fence {g : Nat → Nat → Nat} {fe h i : Nat} {s2 n3 : Nat → Nat} (hh : h < 2) (hi : i < g 1 h) (h7 : ∀ h, h < 2 → layL g fe h ≤ 7) (e : fe = 8 * h + i) (hP : LayP g fe h i s2 n3) : LayP g fe h (i + 1) (upN s2 (16 + 8 * h + i) 4) n3 := by
  have h7h := h7 h hh
  have hin : fIn g fe h := by
    have : g 1 h ≤ 7 := by unfold layL at h7h; split at h7h <;> omega
    exact ⟨by omega, by omega⟩
  have hl : g 1 h ≤ 6 := by unfold layL at h7h; rw [if_pos hin] at h7h; omega
  obtain ⟨a, b, c, d⟩ := hP
  refine ⟨fun j hj => by rw [upN_n (by omega)]; exact a j hj, b, fun h' hh' j hj => ?_, fun j hj => ?_⟩
  · have := h7 h' (by omega)
    rw [upN_n (by omega)]
    exact c h' hh' j hj
  · by_cases q : j = i
    · subst q
      rw [upN_s]
      refine ⟨?_, fun n => absurd ⟨hin, by omega⟩ n⟩
      unfold layS; rw [if_pos ⟨hin, by omega⟩]
    · rw [upN_n (by omega)]
      exact d j (by omega)
theorem lay_copy {g : Nat → Nat → Nat} {fe h i m : Nat} {s2 n3 : Nat → Nat} (hh : h < 2) (hi : i < g 1 h) (h7 : ∀ h, h < 2 → layL g fe h ≤ 7) (hm : m = if fIn g fe h ∧ fe % 8 ≤ i then i + 1 else i) (hP : LayP g fe h m s2 n3) (x : Nat)
    (hx : x = if g 2 (8 * h + i) = 8 ∧ fIn g fe h ∧ i < fe % 8 ∧ fe % 8 ≤ i + g 3 (4 * (8 * h + i) + 2) then 1 else 0) :
    LayP g fe h (m + 1) (upN s2 (16 + 8 * h + m) (s2 (8 * h + i))) (upN (cp4 n3 (8 * h + i) (16 + 8 * h + m)) (4 * (16 + 8 * h + m) + 2) (cp4 n3 (8 * h + i) (16 + 8 * h + m) (4 * (16 + 8 * h + m) + 2) + x)) := by
  have h7h := h7 h hh
  have hlm : m < layL g fe h := by
    unfold layL
    by_cases q : fIn g fe h
    · rw [if_pos q]; split at hm <;> omega
    · rw [if_neg q]; rw [if_neg (fun z => q z.1)] at hm; omega
  have hl7 : g 1 h ≤ 7 := by unfold layL at h7h; split at h7h <;> omega
  obtain ⟨a, b, c, d⟩ := hP
  have out : ∀ j, j < 4 * (16 + 8 * h + m) ∨ 4 * (16 + 8 * h + m) + 4 ≤ j → upN (cp4 n3 (8 * h + i) (16 + 8 * h + m)) (4 * (16 + 8 * h + m) + 2) (cp4 n3 (8 * h + i) (16 + 8 * h + m) (4 * (16 + 8 * h + m) + 2) + x) j = n3 j := fun j hj => by
    rw [upN_n (by omega)]; unfold cp4; rw [if_neg (by omega)]
  refine ⟨fun j hj => by rw [upN_n (by omega)]; exact a j hj, fun j hj => by rw [out j (by omega)]; exact b j hj, fun h' hh' j hj => ?_, fun j hj => ?_⟩
  · have := h7 h' (by omega)
    rw [upN_n (by omega)]
    obtain ⟨c1, c2⟩ := c h' hh' j hj
    exact ⟨c1, fun n w hw => by rw [out _ (by omega)]; exact c2 n w hw⟩
  · by_cases q : j = m
    · subst q
      have hsrc : laySrc g fe h j = i := by
        unfold laySrc
        by_cases z : fIn g fe h ∧ fe % 8 ≤ i
        · rw [if_pos z] at hm
          rw [if_pos ⟨z.1, by omega⟩]; omega
        · rw [if_neg z] at hm
          rw [if_neg (fun y => z ⟨y.1, by omega⟩)]; exact hm
      have hnf : ¬ (fIn g fe h ∧ j = fe % 8) := fun y => by
        by_cases z : fIn g fe h ∧ fe % 8 ≤ i
        · rw [if_pos z] at hm; omega
        · rw [if_neg z] at hm; exact z ⟨y.1, by omega⟩
      rw [upN_s]
      refine ⟨?_, fun _ w hw => ?_⟩
      · unfold layS; rw [if_neg hnf, hsrc]; exact a _ (by omega)
      · have c4 : ∀ w, w < 4 → cp4 n3 (8 * h + i) (16 + 8 * h + j) (4 * (16 + 8 * h + j) + w) = g 3 (4 * (8 * h + i) + w) := fun w hw => by
          unfold cp4; rw [if_pos (by omega), show 4 * (8 * h + i) + (4 * (16 + 8 * h + j) + w - 4 * (16 + 8 * h + j)) = 4 * (8 * h + i) + w by omega]; exact b _ (by omega)
        unfold layN
        rw [hsrc]
        by_cases w2 : w = 2
        · subst w2
          rw [upN_s, c4 2 (by omega), hx]
          by_cases z : fIn g fe h ∧ fe % 8 ≤ i
          · rw [if_neg (fun y => absurd y.2.2.1 (by omega)), if_neg (fun y => by
              rw [if_pos z] at hm
              have := y.2.2.2.1
              omega)]
            rfl
          · rw [if_neg z] at hm
            subst hm
            by_cases y : g 2 (8 * h + j) = 8 ∧ fIn g fe h ∧ j < fe % 8 ∧ fe % 8 ≤ j + g 3 (4 * (8 * h + j) + 2)
            · rw [if_pos y, if_pos ⟨y.1, rfl, y.2.1, y.2.2.1, y.2.2.2⟩]
            · rw [if_neg y, if_neg (fun v => y ⟨v.1, v.2.2.1, v.2.2.2.1, v.2.2.2.2⟩)]
              rfl
        · rw [upN_n (by omega), c4 w hw, if_neg (fun y => w2 y.2.1)]
    · rw [upN_n (by omega)]
      obtain ⟨d1, d2⟩ := d j (by omega)
      exact ⟨d1, fun n w hw => by rw [out _ (by omega)]; exact d2 n w hw⟩
/-- programs as they are told -/
def okP (g : Nat → Nat → Nat) : Prop := ∀ h, h < 2 → g 1 h ≤ 7 ∧ ∀ i, i < g 1 h → okS (g 2 (8 * h + i)) (g 3 (4 * (8 * h + i))) (g 3 (4 * (8 * h + i) + 1)) (g 3 (4 * (8 * h + i) + 2)) (g 3 (4 * (8 * h + i) + 3)) ∧ (g 2 (8 * h + i) = 8 → g 3 (4 * (8 * h + i) + 2) ≤ 7)
theorem okS_fence (a b c d : Nat) : okS 4 a b c d := ⟨by decide, fun e => absurd e (by decide), fun e => absurd e (by decide), fun e => absurd e (by decide), fun e => absurd e (by decide), fun e => absurd e (by decide), fun e => absurd e (by decide), fun e => absurd e (by decide)⟩
theorem okL_lay {g g' : Nat → Nat → Nat} {fe : Nat} (hP : okP g) (h7 : ∀ h, h < 2 → layL g fe h ≤ 7) (hl : ∀ h, h < 2 → g' 1 (2 + h) = layL g fe h) (hH : ∀ h, h < 2 → LayH g fe h (layL g fe h) (g' 2) (g' 3)) : okL g' := by
  intro h hh
  rw [hl h hh]
  refine ⟨h7 h hh, fun i hi => ?_⟩
  obtain ⟨a, b⟩ := hH h hh i hi
  rw [a]
  by_cases q : fIn g fe h ∧ i = fe % 8
  · unfold layS; rw [if_pos q]; exact okS_fence _ _ _ _
  · have b := b q
    have b0 := b 0 (by omega)
    rw [Nat.add_zero] at b0
    rw [b0, b 1 (by omega), b 2 (by omega), b 3 (by omega)]
    have hs : laySrc g fe h i < g 1 h := by
      unfold laySrc
      unfold layL at hi
      by_cases z : fIn g fe h ∧ fe % 8 < i
      · rw [if_pos z]; rw [if_pos z.1] at hi; omega
      · rw [if_neg z]
        by_cases y : fIn g fe h
        · rw [if_pos y] at hi
          have : ¬ fe % 8 < i := fun v => z ⟨y, v⟩
          have : i ≠ fe % 8 := fun v => q ⟨y, v⟩
          have := y.2
          omega
        · rw [if_neg y] at hi; exact hi
    obtain ⟨o, o7⟩ := (hP h hh).2 _ hs
    rw [layN_ne (show 0 ≠ 2 by decide), layN_ne (show 1 ≠ 2 by decide), layN_ne (show 3 ≠ 2 by decide), Nat.add_zero]
    unfold layS layN
    rw [if_neg q]
    split
    · rename_i y
      have hsr : laySrc g fe h i = i := by unfold laySrc; rw [if_neg (fun z => by have := y.2.2.2.1; omega)]
      rw [hsr] at o o7 y ⊢
      obtain ⟨o0, o1, o2, o3, o4, o5, o6, o8⟩ := o
      exact ⟨o0, fun e => absurd (y.1.symm.trans e) (by decide), fun e => absurd (y.1.symm.trans e) (by decide), fun e => absurd (y.1.symm.trans e) (by decide), fun e => absurd (y.1.symm.trans e) (by decide), fun e => absurd (y.1.symm.trans e) (by decide), fun e => absurd (y.1.symm.trans e) (by decide), fun e => ⟨(o8 e).1, (o8 e).2.1, by have := o7 e; omega⟩⟩
    · exact o

/-! PURE: the class reads as the reference does -/
theorem sb_lt {c : Nat} (hc : c < 256) : (isLt (sb c) ↔ isLt c) ∧ (isDg (sb c) ↔ isDg c) ∧ (isBlank (sb c) ↔ isBlank c) ∧ (sb c = 59 ↔ c = 59) ∧ (c < 128 → sb c = c) := by
  unfold sb
  split
  · exact ⟨Iff.rfl, Iff.rfl, Iff.rfl, Iff.rfl, fun _ => rfl⟩
  · unfold isLt isDg isBlank
    refine ⟨?_, ?_, ?_, ?_, ?_⟩ <;> omega
theorem scF_congr {tx q : Nat → Nat} {n : Nat} {P : Nat → Bool} (h : ∀ j, j < n → P (tx j) = P (q j)) : ∀ k a, scF tx n P k a = scF q n P k a := by
  intro k
  induction k with
  | zero => intro a; rfl
  | succ k ih =>
    intro a
    rw [scF, scF, ih]
    by_cases z : a < n
    · rw [h a z]
    · rw [if_neg (fun y => z y.1), if_neg (fun y => z y.1)]
abbrev txq (tx q : Nat → Nat) (n : Nat) : Prop := (∀ j, q j < 256) ∧ ∀ j, j < n → tx j = sb (q j)
theorem tx_lt {tx q : Nat → Nat} {n j : Nat} (h : txq tx q n) (hj : j < n) : isLt (tx j) ↔ isLt (q j) := by rw [h.2 j hj]; exact (sb_lt (h.1 j)).1
theorem tx_dg {tx q : Nat → Nat} {n j : Nat} (h : txq tx q n) (hj : j < n) : isDg (tx j) ↔ isDg (q j) := by rw [h.2 j hj]; exact (sb_lt (h.1 j)).2.1
theorem tx_bl {tx q : Nat → Nat} {n j : Nat} (h : txq tx q n) (hj : j < n) : isBlank (tx j) ↔ isBlank (q j) := by rw [h.2 j hj]; exact (sb_lt (h.1 j)).2.2.1
theorem tx_59 {tx q : Nat → Nat} {n j : Nat} (h : txq tx q n) (hj : j < n) : tx j = 59 ↔ q j = 59 := by rw [h.2 j hj]; exact (sb_lt (h.1 j)).2.2.2.1
theorem endR_eF {tx q : Nat → Nat} {n p : Nat} (h : txq tx q n) (hp : p < n) : endR tx n p = eF q n p := by
  have l := tx_lt h hp
  have d := tx_dg h hp
  unfold endR eF
  rw [if_pos hp]
  by_cases a : isLt (q p)
  · have nd : ¬ isDg (q p) := fun z => by unfold isDg at z; unfold isLt at a; omega
    rw [if_pos (l.mpr a), if_neg nd, if_pos a]
    exact scF_congr (fun j hj => by rw [decide_eq_decide]; exact tx_lt h hj) _ _
  · rw [if_neg (fun z => a (l.mp z))]
    by_cases b : isDg (q p)
    · rw [if_pos (d.mpr b), if_pos b]
      exact scF_congr (fun j hj => by rw [decide_eq_decide]; exact tx_dg h hj) _ _
    · rw [if_neg (fun z => b (d.mp z)), if_neg b, if_neg a]
theorem scF_all {q : Nat → Nat} {n : Nat} {P : Nat → Prop} [DecidablePred P] {j : Nat} : ∀ k a, k = n - a → a ≤ j → j < scF q n (fun c => decide (P c)) k a → P (q j) := by
  intro k
  induction k with
  | zero => intro a _ ha hj; rw [scF] at hj; omega
  | succ k ih =>
    intro a hk ha hj
    rw [scF] at hj
    split at hj
    · rename_i z
      by_cases w : j = a
      · rw [w]; exact of_decide_eq_true z.2
      · exact ih (a + 1) (by omega) (by omega) hj
    · omega
theorem eF_lt {q : Nat → Nat} {n p j : Nat} (hp : p < n) (hl : isLt (q p)) (h1 : p ≤ j) (h2 : j < eF q n p) : isLt (q j) := by
  have nd : ¬ isDg (q p) := fun z => by unfold isDg at z; unfold isLt at hl; omega
  unfold eF at h2
  rw [if_pos hp, if_neg nd, if_pos hl] at h2
  exact scF_all _ p rfl h1 h2
theorem eF_dg {q : Nat → Nat} {n p j : Nat} (hp : p < n) (hl : isDg (q p)) (h1 : p ≤ j) (h2 : j < eF q n p) : isDg (q j) := by
  unfold eF at h2
  rw [if_pos hp, if_pos hl] at h2
  exact scF_all _ p rfl h1 h2
def wcon (s : Nat) : Nat := ([7370100, 6776180, 1937203568, 6382692, 439788397413, 2002872692, 7562612, 1819238756, 26982] : List Nat).getD s 0
set_option maxHeartbeats 4000000 in
theorem word_iff {q : Nat → Nat} {p d s : Nat} (hl : ∀ k, k < d → isLt (q (p + k))) (hd : d ≤ 5) (hs : s < 9) : slc q p d = nmT.getD s [] ↔ pkP q p d = wcon s := by
  have hb : ∀ k, k < d → 65 ≤ q (p + k) ∧ q (p + k) ≤ 122 := fun k hk => by have := hl k hk; unfold isLt at this; omega
  clear hl
  rcases (show d = 0 ∨ d = 1 ∨ d = 2 ∨ d = 3 ∨ d = 4 ∨ d = 5 by omega) with rfl | rfl | rfl | rfl | rfl | rfl
  · rcases (show s = 0 ∨ s = 1 ∨ s = 2 ∨ s = 3 ∨ s = 4 ∨ s = 5 ∨ s = 6 ∨ s = 7 ∨ s = 8 by omega) with rfl | rfl | rfl | rfl | rfl | rfl | rfl | rfl | rfl <;> simp [slc, pkP, nmT, wcon]
  · have b0 := hb 0 (by decide)
    simp only [Nat.add_zero] at b0
    rcases (show s = 0 ∨ s = 1 ∨ s = 2 ∨ s = 3 ∨ s = 4 ∨ s = 5 ∨ s = 6 ∨ s = 7 ∨ s = 8 by omega) with rfl | rfl | rfl | rfl | rfl | rfl | rfl | rfl | rfl <;> simp [slc, pkP, nmT, wcon, List.range_succ] <;> omega
  · have b0 := hb 0 (by decide)
    have b1 := hb 1 (by decide)
    simp only [Nat.add_zero] at b0
    rcases (show s = 0 ∨ s = 1 ∨ s = 2 ∨ s = 3 ∨ s = 4 ∨ s = 5 ∨ s = 6 ∨ s = 7 ∨ s = 8 by omega) with rfl | rfl | rfl | rfl | rfl | rfl | rfl | rfl | rfl <;> simp [slc, pkP, nmT, wcon, List.range_succ] <;> omega
  · have b0 := hb 0 (by decide)
    have b1 := hb 1 (by decide)
    have b2 := hb 2 (by decide)
    simp only [Nat.add_zero] at b0
    rcases (show s = 0 ∨ s = 1 ∨ s = 2 ∨ s = 3 ∨ s = 4 ∨ s = 5 ∨ s = 6 ∨ s = 7 ∨ s = 8 by omega) with rfl | rfl | rfl | rfl | rfl | rfl | rfl | rfl | rfl <;> simp [slc, pkP, nmT, wcon, List.range_succ] <;> omega
  · have b0 := hb 0 (by decide)
    have b1 := hb 1 (by decide)
    have b2 := hb 2 (by decide)
    have b3 := hb 3 (by decide)
    simp only [Nat.add_zero] at b0
    rcases (show s = 0 ∨ s = 1 ∨ s = 2 ∨ s = 3 ∨ s = 4 ∨ s = 5 ∨ s = 6 ∨ s = 7 ∨ s = 8 by omega) with rfl | rfl | rfl | rfl | rfl | rfl | rfl | rfl | rfl <;> simp [slc, pkP, nmT, wcon, List.range_succ] <;> omega
  · have b0 := hb 0 (by decide)
    have b1 := hb 1 (by decide)
    have b2 := hb 2 (by decide)
    have b3 := hb 3 (by decide)
    have b4 := hb 4 (by decide)
    simp only [Nat.add_zero] at b0
    rcases (show s = 0 ∨ s = 1 ∨ s = 2 ∨ s = 3 ∨ s = 4 ∨ s = 5 ∨ s = 6 ∨ s = 7 ∨ s = 8 by omega) with rfl | rfl | rfl | rfl | rfl | rfl | rfl | rfl | rfl <;> simp [slc, pkP, nmT, wcon, List.range_succ] <;> omega
theorem slc_congr {tx q : Nat → Nat} {p d : Nat} (h : ∀ k, k < d → tx (p + k) = q (p + k)) : slc tx p d = slc q p d := by
  unfold slc
  exact List.map_congr_left (fun k hk => h k (List.mem_range.mp hk))
theorem ite_eq {P Q : Prop} [Decidable P] [Decidable Q] {a b b' : Nat} (h : P ↔ Q) (hb : b = b') : (if P then a else b) = if Q then a else b' := by
  by_cases z : P
  · rw [if_pos z, if_pos (h.mp z)]
  · rw [if_neg z, if_neg (fun y => z (h.mpr y)), hb]
theorem sort_word {q : Nat → Nat} {p e : Nat} (hl : ∀ k, k < e - p → isLt (q (p + k))) (hd : e - p ≤ 5) : sortC q p e = wordV (pkP q p (e - p)) := by
  unfold sortC wordV
  exact ite_eq (word_iff hl hd (by decide)) (ite_eq (word_iff hl hd (by decide)) (ite_eq (word_iff hl hd (by decide)) (ite_eq (word_iff hl hd (by decide)) (ite_eq (word_iff hl hd (by decide)) (ite_eq (word_iff hl hd (by decide)) (ite_eq (word_iff hl hd (by decide)) (ite_eq (word_iff hl hd (by decide)) (ite_eq (word_iff hl hd (by decide)) rfl))))))))
theorem sort_long {q : Nat → Nat} {p e : Nat} (hd : 5 < e - p) : sortC q p e = 4294967295 := by
  have no : ∀ s, ¬ slc q p (e - p) = nmT.getD s [] := fun s z => by have := slc_len z; have := ln_le s; omega
  unfold sortC
  rw [if_neg (no 0), if_neg (no 1), if_neg (no 2), if_neg (no 3), if_neg (no 4), if_neg (no 5), if_neg (no 6), if_neg (no 7), if_neg (no 8)]
theorem sort_congr {tx q : Nat → Nat} {p e : Nat} (h : slc tx p (e - p) = slc q p (e - p)) : sortC tx p e = sortC q p e := by unfold sortC; rw [h]
/-- the sort of a name's token, and the reference's kind of it -/
theorem name_kind {q : Nat → Nat} {p e : Nat} (hl : ∀ k, k < e - p → isLt (q (p + k))) : (sortC q p e = 4294967295 ∧ wkM q p e = 3) ∨ (sortC q p e < 9 ∧ wkM q p e = 4 + sortC q p e) := by
  unfold wkM
  by_cases h : 5 < e - p
  · exact Or.inl ⟨sort_long h, by rw [if_pos h]⟩
  · rw [if_neg h, ← sort_word hl (by omega)]
    rcases sortC_or q p e with z | z
    · exact Or.inr ⟨z, by rw [if_pos (by omega)]⟩
    · exact Or.inl ⟨z, by rw [if_neg (by omega)]⟩
theorem num_rel {q : Nat → Nat} {p : Nat} : ∀ d, (∀ k, k < d → isDg (q (p + k))) → numR q p d = (if numP q p d < 1000 then numP q p d else 1000) := by
  intro d
  induction d with
  | zero => intro _; rfl
  | succ d ih =>
    intro h
    have i := ih (fun k hk => h k (by omega))
    have g := h d (Nat.lt_succ_self d)
    unfold isDg at g
    by_cases z : 1000 ≤ numP q p d
    · rw [if_neg (by omega)] at i
      rw [numR, numP, i, if_pos z, if_pos (show 1000 < 1000 * 10 + q (p + d) - 48 by omega), if_neg (show ¬ numP q p d < 1000 by omega)]
    · rw [if_pos (by omega)] at i
      rw [numR, numP, i, if_neg z]
      by_cases w : 10 * numP q p d + q (p + d) - 48 < 1000
      · rw [if_pos w, if_neg (show ¬ 1000 < numP q p d * 10 + q (p + d) - 48 by omega)]; omega
      · rw [if_neg w]
        split <;> omega
theorem numR_congr {tx q : Nat → Nat} {p : Nat} : ∀ d, (∀ k, k < d → tx (p + k) = q (p + k)) → numR tx p d = numR q p d := by
  intro d
  induction d with
  | zero => intro _; rfl
  | succ d ih => intro h; rw [numR, numR, ih (fun k hk => h k (by omega)), h d (Nat.lt_succ_self d)]
set_option maxHeartbeats 4000000 in
theorem may_num {h s w v : Nat} (hh : h < 2) (hs : s < 9) (hw : w < arM s) : isNumC (kindC s w) v h ↔ mayM h s w v := by
  have w4 : w < 4 := by unfold arM at hw; split at hw <;> (try split at hw) <;> (try split at hw) <;> omega
  rcases (show s = 0 ∨ s = 1 ∨ s = 2 ∨ s = 3 ∨ s = 4 ∨ s = 5 ∨ s = 6 ∨ s = 7 ∨ s = 8 by omega) with rfl | rfl | rfl | rfl | rfl | rfl | rfl | rfl | rfl <;> rcases (show w = 0 ∨ w = 1 ∨ w = 2 ∨ w = 3 by omega) with rfl | rfl | rfl | rfl <;> first | exact absurd hw (by decide) | (simp only [show kindC 0 0 = 1 from rfl, show kindC 0 1 = 4 from rfl, show kindC 1 0 = 1 from rfl, show kindC 1 1 = 3 from rfl, show kindC 2 0 = 1 from rfl, show kindC 2 1 = 4 from rfl, show kindC 2 2 = 4 from rfl, show kindC 2 3 = 3 from rfl, show kindC 3 0 = 1 from rfl, show kindC 3 1 = 4 from rfl, show kindC 3 2 = 3 from rfl, show kindC 6 0 = 2 from rfl, show kindC 6 1 = 4 from rfl, show kindC 7 0 = 2 from rfl, show kindC 7 1 = 3 from rfl, show kindC 8 0 = 3 from rfl, show kindC 8 1 = 4 from rfl, show kindC 8 2 = 5 from rfl]; unfold isNumC mayM; omega)

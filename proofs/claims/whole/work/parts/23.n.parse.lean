/-! PURE: tokens of a text, and a program read from them -/
def scF (q : Nat → Nat) (n : Nat) (P : Nat → Bool) : Nat → Nat → Nat
  | 0, a => a
  | k + 1, a => if a < n ∧ P (q a) = true then scF q n P k (a + 1) else a
def scanF (q : Nat → Nat) (n : Nat) (P : Nat → Bool) (a : Nat) : Nat := scF q n P (n - a) a
theorem scF_uniq {q : Nat → Nat} {n : Nat} {P : Nat → Prop} [DecidablePred P] {e : Nat} (he : e ≤ n) (hne : e < n → ¬ P (q e)) : ∀ (k a : Nat), k = n - a → a ≤ e → (∀ j, a ≤ j → j < e → P (q j)) → scF q n (fun c => decide (P c)) k a = e := by
  intro k
  induction k with
  | zero => intro a hk ha _; rw [scF]; omega
  | succ k ih =>
    intro a hk ha h
    rw [scF]
    by_cases x : a = e
    · subst x
      rw [if_neg (fun z => hne z.1 (of_decide_eq_true z.2))]
    · rw [if_pos ⟨by omega, decide_eq_true (h a (Nat.le_refl a) (by omega))⟩]
      exact ih (a + 1) (by omega) (by omega) (fun j h1 h2 => h j (by omega) h2)
theorem scan_uniq {q : Nat → Nat} {n : Nat} {P : Nat → Prop} [DecidablePred P] {a e : Nat} (h : scanTo q n P a e) : scanF q n (fun c => decide (P c)) a = e := scF_uniq h.2.1 h.2.2.2 _ a rfl h.1 h.2.2.1
/-- where the token behind a begins; where it ends; its sort; its number -/
def pF (q : Nat → Nat) (n a : Nat) : Nat := scanF q n (fun c => decide (isBlank c)) a
def eF (q : Nat → Nat) (n p : Nat) : Nat := if p < n then (if isDg (q p) then scanF q n (fun c => decide (isDg c)) p else if isLt (q p) then scanF q n (fun c => decide (isLt c)) p else p + 1) else p
def kF (q : Nat → Nat) (n p : Nat) : Nat := if p < n then (if isDg (q p) then 1 else if isLt (q p) then wkM q p (eF q n p) else if q p = 59 then 2 else 3) else 0
def vF (q : Nat → Nat) (n p : Nat) : Nat := numP q p (eF q n p - p)
theorem TokR_F {q : Nat → Nat} {n a v0 p e k v : Nat} (h : TokR q n a v0 p e k v) : p = pF q n a ∧ e = eF q n p ∧ k = kF q n p ∧ (k = 1 → v = vF q n p) ∧ p ≤ n ∧ e ≤ n ∧ p ≤ e ∧ (k ≠ 0 → p < e) := by
  obtain ⟨hs, h⟩ := h
  have hp := (scan_uniq hs).symm
  refine ⟨hp, ?_⟩
  have hpn := hs.2.1
  rcases h with ⟨h1, h2, h3, h4⟩ | ⟨h1, h2, h3, h4, h5⟩ | ⟨h1, h2, h3, h4, h5, h6⟩ | ⟨h1, h2, h3, h4, h5, h6⟩
  · have e1 : eF q n p = p := by unfold eF; rw [if_neg (by omega)]
    have e2 : kF q n p = 0 := by unfold kF; rw [if_neg (by omega)]
    exact ⟨by rw [e1]; exact h2, by rw [e2]; exact h3, fun x => absurd x (by omega), hpn, by omega, by omega, fun x => absurd h3 x⟩
  · have e1 : eF q n p = e := by unfold eF; rw [if_pos h1, if_pos h2]; exact scan_uniq h3
    have e2 : kF q n p = 1 := by unfold kF; rw [if_pos h1, if_pos h2]
    refine ⟨e1.symm, by rw [e2]; exact h4, fun _ => by unfold vF; rw [e1]; exact h5, hpn, h3.2.1, h3.1, fun _ => ?_⟩
    rcases Nat.lt_or_ge p e with x | x
    · exact x
    · have : p = e := by have := h3.1; omega
      exact absurd (this ▸ h2) (h3.2.2.2 (by omega))
  · have e1 : eF q n p = e := by unfold eF; rw [if_pos h1, if_neg h2, if_pos h3]; exact scan_uniq h4
    have e2 : kF q n p = wkM q p e := by unfold kF; rw [if_pos h1, if_neg h2, if_pos h3, e1]
    have w1 : wkM q p e ≠ 1 := by
      unfold wkM
      split
      · decide
      · split
        · omega
        · decide
    refine ⟨e1.symm, by rw [e2]; exact h5, fun x => absurd (h5.symm.trans x) w1, hpn, h4.2.1, h4.1, fun _ => ?_⟩
    rcases Nat.lt_or_ge p e with x | x
    · exact x
    · have : p = e := by have := h4.1; omega
      exact absurd (this ▸ h3) (h4.2.2.2 (by omega))
  · have e1 : eF q n p = p + 1 := by unfold eF; rw [if_pos h1, if_neg h2, if_neg h3]
    have e2 : kF q n p = (if q p = 59 then 2 else 3) := by unfold kF; rw [if_pos h1, if_neg h2, if_neg h3]
    exact ⟨by rw [e1]; exact h4, by rw [e2]; exact h5, fun x => by rw [h5] at x; split at x <;> omega, hpn, by omega, by omega, fun _ => by omega⟩
/-- a program as far as it is read: the statement's sort (9: between statements), how many of its numbers are there, how many statements, sorts, numbers -/
abbrev PT9 : Type := Nat × Nat × Nat × (Nat → Nat) × (Nat → Nat)
/-- a token more: a fault (0: none), and the program -/
def tokS (h : Nat) (x : PT9) (k v : Nat) : Nat × PT9 :=
  if x.1 = 9 then (if k < 4 then (1, x) else if x.2.2.1 = 7 then (3, x) else (0, (k - 4, 0, x.2.2.1, upN x.2.2.2.1 x.2.2.1 (k - 4), x.2.2.2.2)))
  else if x.2.1 < arM x.1 then (if k = 1 then (if mayM h x.1 x.2.1 v then (0, (x.1, x.2.1 + 1, x.2.2.1, x.2.2.2.1, upN x.2.2.2.2 (4 * x.2.2.1 + x.2.1) v)) else (2, x)) else (1, x))
  else if k = 2 then (0, (9, 0, x.2.2.1 + 1, x.2.2.2.1, x.2.2.2.2)) else (1, x)
/-- the text from place a on: the fault, its place, the program -/
def runT (q : Nat → Nat) (n h : Nat) : Nat → Nat → PT9 → Nat × Nat × PT9
  | 0, a, x => (0, a, x)
  | c + 1, a, x => if kF q n (pF q n a) = 0 then (if x.1 = 9 then 0 else 1, pF q n a, x)
    else if (tokS h x (kF q n (pF q n a)) (vF q n (pF q n a))).1 = 0 then runT q n h c (eF q n (pF q n a)) (tokS h x (kF q n (pF q n a)) (vF q n (pF q n a))).2
    else ((tokS h x (kF q n (pF q n a)) (vF q n (pF q n a))).1, pF q n a, (tokS h x (kF q n (pF q n a)) (vF q n (pF q n a))).2)

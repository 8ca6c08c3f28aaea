/-! PURE: the table of a walk, the walk itself -/
def placeE (x : Nat) : Int32 := ((lN x * lN 2654435761) >>> ((nI 20).toInt64 &&& 63) ^^^ (lN x * lN 2654435761) >>> ((nI 37).toInt64 &&& 63)).toInt32
def placeM (x : Nat) : Nat := (placeE x).toBitVec.toNat % 2 ^ 15
theorem placeM_lt (x : Nat) : placeM x < 32768 := Nat.mod_lt _ (by decide)
theorem pigeon : ∀ (m n : Nat) (v : Nat → Nat), (∀ i, i < m → v i < n) → (∀ i j, i < m → j < m → v i = v j → i = j) → m ≤ n := by
  intro m
  induction m with
  | zero => intro n v _ _; exact Nat.zero_le n
  | succ m ih =>
    intro n v h1 h2
    cases n with
    | zero => exact absurd (h1 m (by omega)) (Nat.not_lt_zero _)
    | succ n =>
      have := ih n (fun i => if v i = n then v m else v i) (fun i hi => by
        have a := h1 i (by omega)
        have b := h1 m (by omega)
        have d : v i ≠ v m := fun e => absurd (h2 i m (by omega) (by omega) e) (by omega)
        show (if v i = n then v m else v i) < n
        split <;> omega) (fun i j hi hj e => by
        have di : v i ≠ v m := fun e => absurd (h2 i m (by omega) (by omega) e) (by omega)
        have dj : v j ≠ v m := fun e => absurd (h2 j m (by omega) (by omega) e) (by omega)
        have e : (if v i = n then v m else v i) = (if v j = n then v m else v j) := e
        apply h2 i j (by omega) (by omega)
        split at e <;> split at e <;> omega)
      omega
/-- the table tb finds each of the n states t, and nothing else -/
def tabI (n : Nat) (t tb : Nat → Nat) : Prop := (∀ p, p < 32768 → tb p ≤ n) ∧ ∃ dst : Nat → Nat,
  (∀ i, i < n → tb ((placeM (t i) + dst i) % 32768) = i + 1 ∧ ∀ q, q < dst i → tb ((placeM (t i) + q) % 32768) ≠ 0) ∧
  (∀ p, p < 32768 → tb p ≠ 0 → (placeM (t (tb p - 1)) + dst (tb p - 1)) % 32768 = p)
theorem tab_0 {t tb : Nat → Nat} (h : ∀ p, p < 32768 → tb p = 0) : tabI 0 t tb := ⟨fun p hp => by rw [h p hp]; exact Nat.le_refl 0, fun _ => 0, fun i hi => absurd hi (Nat.not_lt_zero i), fun p hp hn => absurd (h p hp) hn⟩
theorem tab_zero {n : Nat} {t tb : Nat → Nat} (h : tabI n t tb) (hn : n < 32768) (p0 : Nat) : ∃ z, z < 32768 ∧ tb ((p0 + z) % 32768) = 0 := by
  apply Classical.byContradiction
  intro hc
  obtain ⟨h1, dst, h2, h3⟩ := h
  have hne : ∀ q, q < 32768 → tb ((p0 + q) % 32768) ≠ 0 := fun q hq e => hc ⟨q, hq, e⟩
  have := pigeon 32768 n (fun q => tb ((p0 + q) % 32768) - 1) (fun q hq => by
    have a := h1 ((p0 + q) % 32768) (by omega)
    have b := hne q hq
    show tb ((p0 + q) % 32768) - 1 < n
    omega) (fun i j hi hj e => by
    have e : tb ((p0 + i) % 32768) - 1 = tb ((p0 + j) % 32768) - 1 := e
    have a := h3 ((p0 + i) % 32768) (by omega) (hne i hi)
    have b := h3 ((p0 + j) % 32768) (by omega) (hne j hj)
    rw [e, b] at a
    omega)
  omega
theorem tab_absent {n : Nat} {t tb : Nat → Nat} {x d : Nat} (h : tabI n t tb) (hz : tb ((placeM x + d) % 32768) = 0) (hne : ∀ q, q < d → tb ((placeM x + q) % 32768) ≠ 0 ∧ ¬ t (tb ((placeM x + q) % 32768) - 1) = x) : ∀ i, i < n → ¬ t i = x := by
  intro i hi e
  obtain ⟨h1, dst, h2, h3⟩ := h
  obtain ⟨a, b⟩ := h2 i hi
  rw [e] at a b
  rcases Nat.lt_or_ge (dst i) d with q | q
  · have := (hne _ q).2
    rw [a, Nat.add_sub_cancel] at this
    exact this e
  · rcases Nat.lt_or_ge d (dst i) with r | r
    · exact b d r hz
    · have : dst i = d := by omega
      rw [this, hz] at a
      omega
theorem tab_new {n : Nat} {t tb : Nat → Nat} {x d : Nat} (h : tabI n t tb) (hz : tb ((placeM x + d) % 32768) = 0) (hne : ∀ q, q < d → tb ((placeM x + q) % 32768) ≠ 0) : tabI (n + 1) (upN t n x) (upN tb ((placeM x + d) % 32768) (n + 1)) := by
  obtain ⟨h1, dst, h2, h3⟩ := h
  refine ⟨fun p hp => ?_, upN dst n d, fun i hi => ?_, fun p hp hn => ?_⟩
  · by_cases e : p = (placeM x + d) % 32768
    · rw [e, upN_s]; exact Nat.le_refl _
    · rw [upN_n e]; exact Nat.le_succ_of_le (h1 p hp)
  · by_cases e : i = n
    · subst e
      rw [upN_s, upN_s, upN_s]
      refine ⟨rfl, fun q hq => ?_⟩
      by_cases e2 : (placeM x + q) % 32768 = (placeM x + d) % 32768
      · rw [e2, upN_s]; omega
      · rw [upN_n e2]; exact hne q hq
    · rw [upN_n e, upN_n e]
      obtain ⟨a, b⟩ := h2 i (by omega)
      refine ⟨?_, fun q hq => ?_⟩
      · rw [upN_n (fun e2 => by rw [e2, hz] at a; omega)]; exact a
      · by_cases e2 : (placeM (t i) + q) % 32768 = (placeM x + d) % 32768
        · rw [e2, upN_s]; omega
        · rw [upN_n e2]; exact b q hq
  · by_cases e : p = (placeM x + d) % 32768
    · rw [e, upN_s, Nat.add_sub_cancel, upN_s, upN_s]
    · rw [upN_n e] at hn ⊢
      have := h1 p hp
      rw [upN_n (show tb p - 1 ≠ n by omega), upN_n (show tb p - 1 ≠ n by omega)]
      exact h3 p hp hn
/-- a walk as far as it is: how many states, the states, of each the one ahead, the step, how many steps -/
abbrev BT : Type := Nat × (Nat → Nat) × (Nat → Nat) × (Nat → Nat) × (Nat → Nat)
def hasB (n : Nat) (t : Nat → Nat) (x : Nat) : Bool := (List.range n).any (fun i => decide (t i = x))
theorem hasB_iff {n : Nat} {t : Nat → Nat} {x : Nat} : hasB n t x = true ↔ ∃ i, i < n ∧ t i = x := by
  unfold hasB
  rw [List.any_eq_true]
  constructor
  · intro ⟨i, hi, e⟩; exact ⟨i, List.mem_range.mp hi, of_decide_eq_true e⟩
  · intro ⟨i, hi, e⟩; exact ⟨i, List.mem_range.mpr hi, decide_eq_true e⟩
theorem hasB_f {n : Nat} {t : Nat → Nat} {x : Nat} (h : ∀ i, i < n → ¬ t i = x) : ¬ hasB n t x = true := fun e => by
  obtain ⟨i, hi, q⟩ := hasB_iff.mp e
  exact h i hi q
def insB (b : BT) (x fr k : Nat) : BT := if hasB b.1 b.2.1 x = true then b else if b.1 ≤ 12000 then (b.1 + 1, upN b.2.1 b.1 x, upN b.2.2.1 b.1 fr, upN b.2.2.2.1 b.1 k, upN b.2.2.2.2 b.1 (if fr < 2147483648 then b.2.2.2.2 fr + 1 else 0)) else b
def stepB (mf : Nat) (g : Nat → Nat → Nat) (b : BT) (i k : Nat) : BT := match stepM mf g (b.2.1 i) k with
  | none => b
  | some y => insB b y i k
def rowF (mf : Nat) (g : Nat → Nat → Nat) (i : Nat) : Nat → Nat → BT → BT
  | 0, _, b => b
  | n + 1, k, b => rowF mf g i n (k + 1) (stepB mf g b i k)
def runB (mf : Nat) (g : Nat → Nat → Nat) : Nat → BT → Nat → BT
  | 0, b, _ => b
  | n + 1, b, i => if b.1 ≤ i then b else if 12000 < b.1 then b else runB mf g n (rowF mf g i 10 0 b) (i + 1)
def begM (w : Nat → Nat) : Nat := withN (withN (withN (withN 0 0 2 (w 0)) 2 2 (w 1)) 4 2 (w 2)) 6 2 (w 3)
/-- the walk from arrays that hold anything -/
def walkB (mf : Nat) (g : Nat → Nat → Nat) (t pa by_ fa : Nat → Nat) : BT := runB mf g 12002 (insB (0, t, pa, by_, fa) (begM (g 4)) 4294967295 0) 0
/-- steps only go forward -/
def phiM (x : Nat) : Nat := 2 * (bitsN x 16 3 + bitsN x 19 3) + (3 - bitsN x 22 2) + (3 - bitsN x 24 2) + (if bitsN x 46 2 = 0 then 0 else 1)
def mB (f : Nat → Nat) (g : Nat → Nat → Nat) (b : BT) (tb : Nat → Nat) : (Nat → Nat) × (Nat → Nat → Nat) × (Nat → Nat) := (upN f 19 b.1, upA (upA (upA (upA g 8 b.2.2.1) 9 b.2.2.2.1) 10 b.2.2.2.2) 11 tb, b.2.1)

/-! PURE: the call program -/
theorem tok_3 {h k v : Nat} {x : PT9} : (tokS h x k v).1 ≤ 3 := by
  unfold tokS
  split
  · split
    · exact Nat.le_of_ble_eq_true rfl
    · split <;> exact Nat.le_of_ble_eq_true rfl
  · split
    · split
      · split <;> exact Nat.le_of_ble_eq_true rfl
      · exact Nat.le_of_ble_eq_true rfl
    · split <;> exact Nat.le_of_ble_eq_true rfl
theorem run_3 {q : Nat → Nat} {n h : Nat} : ∀ c a x, (runT q n h c a x).1 ≤ 3 := by
  intro c
  induction c with
  | zero => intro a x; rw [runT]; exact Nat.zero_le 3
  | succ c ih =>
    intro a x
    rw [runT]
    split
    · show (if x.1 = 9 then 0 else 1) ≤ 3
      split <;> decide
    · split
      · exact ih _ _
      · exact tok_3
theorem runR_pl {tx : Nat → Nat} {n h : Nat} : ∀ c a x, a ≤ n → (runR tx n h c a x).2.1 ≤ n := by
  intro c
  induction c with
  | zero => intro a x ha; rw [runR]; exact ha
  | succ c ih =>
    intro a x ha
    rw [runR]
    split
    · exact Nat.le_refl n
    · rename_i he
      split
      · exact ih _ _ (by omega)
      · have e1 := endR_le (tx := tx) (show a < n by omega)
        split
        · exact ih _ _ (by omega)
        · exact ha
theorem run_cls {tx q : Nat → Nat} {n h : Nat} {so nu : Nat → Nat} (hq : txq tx q n) (hh : h < 2) (hn : n ≤ 200) : runR tx n h 201 0 (9, 0, 0, so, nu) = runT q n h 201 0 (9, 0, 0, so, nu) := runR_runT hq hh 200 0 201 201 _ (by omega) (Nat.zero_le _) (by omega) (by omega) (okX_0 (f := 0) rfl)
/-- what was read is a program -/
theorem run_okQ {tx q : Nat → Nat} {n h : Nat} {so nu : Nat → Nat} (hq : txq tx q n) (hh : h < 2) (hn : n ≤ 200) : (runR tx n h 201 0 (9, 0, 0, so, nu)).2.2.2.2.1 ≤ 7 ∧ okQ (runR tx n h 201 0 (9, 0, 0, so, nu)).2.2.2.2.1 (runR tx n h 201 0 (9, 0, 0, so, nu)).2.2.2.2.2.1 (runR tx n h 201 0 (9, 0, 0, so, nu)).2.2.2.2.2.2 ∧ ∀ i, i < (runR tx n h 201 0 (9, 0, 0, so, nu)).2.2.2.2.1 → (runR tx n h 201 0 (9, 0, 0, so, nu)).2.2.2.2.2.1 i = 8 → (runR tx n h 201 0 (9, 0, 0, so, nu)).2.2.2.2.2.2 (i * 4 + 2) < 8 := by
  rw [run_cls hq hh hn]
  obtain ⟨p1, p2, -⟩ := PV_run (q := q) (n := n) 201 0 _ (PV_0 h so nu)
  generalize (runT q n h 201 0 (9, 0, 0, so, nu)).2.2 = x at *
  refine ⟨p1, fun i hi => ?_, fun i hi e => ?_⟩
  · have := (okS_may hh (p2 i hi)).1
    rw [Nat.mul_comm i 4]; exact this
  · have := (okS_may hh (p2 i hi)).2 e
    rw [Nat.mul_comm i 4]; omega

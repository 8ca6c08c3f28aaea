/-! PURE: the class's run over a text is the reference's -/
theorem tak_tok {tx q : Nat → Nat} {n h p : Nat} {x : PT9} (hq : txq tx q n) (hh : h < 2) (ho : okX x) (hp : p < n) : takS h x tx p (eF q n p) = tokS h x (kF q n p) (vF q n p) := by
  have l := tx_lt hq hp
  have d := tx_dg hq hp
  have t9 := tx_59 hq hp
  have e1 := (endR_le (tx := tx) hp)
  rw [endR_eF hq hp] at e1
  unfold takS
  by_cases a : isLt (q p)
  · rw [if_pos (l.mpr a)]
    have nd : ¬ isDg (q p) := fun z => by unfold isDg at z; unfold isLt at a; omega
    have hl : ∀ k, k < eF q n p - p → isLt (q (p + k)) := fun k hk => eF_lt hp a (by omega) (by omega)
    have hs : slc tx p (eF q n p - p) = slc q p (eF q n p - p) := slc_congr (fun k hk => by
      have := hl k hk
      rw [hq.2 (p + k) (by omega)]
      exact (sb_lt (hq.1 _)).2.2.2.2 (by unfold isLt at this; omega))
    have hk : kF q n p = wkM q p (eF q n p) := by unfold kF; rw [if_pos hp, if_neg nd, if_pos a]
    rw [sort_congr hs, hk]
    unfold nameS tokS
    rcases name_kind hl with ⟨w1, w2⟩ | ⟨w1, w2⟩
    · rw [w1, w2]
      by_cases c : x.1 = 9
      · rw [if_pos c, if_pos c, if_pos rfl, if_pos (by decide)]
      · rw [if_neg c, if_neg c, if_neg (show ¬ 3 = 1 by decide), if_neg (show ¬ 3 = 2 by decide)]
        split <;> rfl
    · rw [w2]
      generalize sortC q p (eF q n p) = w at *
      by_cases c : x.1 = 9
      · rw [if_pos c, if_pos c, if_neg (show ¬ w = 4294967295 by omega), if_neg (show ¬ 4 + w < 4 by omega)]
        by_cases z : x.2.2.1 = 7
        · rw [if_pos (show 7 ≤ x.2.2.1 by omega), if_pos z]
        · rw [if_neg (show ¬ 7 ≤ x.2.2.1 by have := ho.1; omega), if_neg z, show 4 + w - 4 = w by omega]
      · rw [if_neg c, if_neg c, if_neg (show ¬ 4 + w = 1 by omega), if_neg (show ¬ 4 + w = 2 by omega)]
        split <;> rfl
  · rw [if_neg (fun z => a (l.mp z))]
    by_cases b : isDg (q p)
    · rw [if_pos (d.mpr b)]
      have hd : ∀ k, k < eF q n p - p → isDg (q (p + k)) := fun k hk => eF_dg hp b (by omega) (by omega)
      have hk : kF q n p = 1 := by unfold kF; rw [if_pos hp, if_pos b]
      have hv : numR tx p (eF q n p - p) = (if vF q n p < 1000 then vF q n p else 1000) := by
        rw [numR_congr _ (fun k hk => by
          have := hd k hk
          rw [hq.2 (p + k) (by omega)]
          exact (sb_lt (hq.1 _)).2.2.2.2 (by unfold isDg at this; omega)), num_rel _ hd]
        rfl
      rw [hk, hv]
      unfold numS tokS
      by_cases c : x.1 = 9
      · rw [if_pos c, if_pos c, if_pos (by decide)]
      · rw [if_neg c, if_neg c, if_pos rfl]
        have s9 : x.1 < 9 := by have := ho.2; omega
        have a4 : arM x.1 ≤ 4 := by unfold arM; split <;> (try split) <;> (try split) <;> omega
        have le : x.2.1 ≤ arM x.1 := by have := ho.2; omega
        by_cases z : x.2.1 < arM x.1
        · have kn : ¬ kindC x.1 x.2.1 = 0 := (kind_ar x.1 s9 x.2.1 (by omega)).mpr z
          rw [if_neg kn, if_pos z]
          have m := may_num (v := vF q n p) hh s9 z
          have m2 := may_num (v := if vF q n p < 1000 then vF q n p else 1000) hh s9 z
          have small : ∀ v, mayM h x.1 x.2.1 v → v < 8 := fun v hv => by unfold mayM at hv; omega
          by_cases y : mayM h x.1 x.2.1 (vF q n p)
          · have := small _ y
            have e2 : (if vF q n p < 1000 then vF q n p else 1000) = vF q n p := if_pos (by omega)
            rw [e2, if_pos (m.mpr y), if_pos y, Nat.mul_comm x.2.2.1 4]
          · rw [if_neg (fun w => y ?_), if_neg y]
            have w := m2.mp w
            have := small _ w
            by_cases r : vF q n p < 1000
            · rw [if_pos r] at w; exact w
            · rw [if_neg r] at this; omega
        · have kz : kindC x.1 x.2.1 = 0 := by
            by_cases f4 : x.2.1 < 4
            · exact Classical.byContradiction (fun w => z ((kind_ar x.1 s9 x.2.1 f4).mp w))
            · unfold kindC; rw [if_neg (fun w => f4 w.2)]
          rw [if_pos kz, if_neg z, if_neg (by decide)]
    · rw [if_neg (fun z => b (d.mp z))]
      have hk : kF q n p = (if q p = 59 then 2 else 3) := by unfold kF; rw [if_pos hp, if_neg b, if_neg a]
      rw [hk]
      unfold tokS
      by_cases c59 : q p = 59
      · rw [if_pos c59]
        by_cases c : x.1 = 9
        · rw [if_neg (fun w => w.2.1 c), if_pos c, if_pos (by decide)]
        · have s9 : x.1 < 9 := by have := ho.2; omega
          have le : x.2.1 ≤ arM x.1 := by have := ho.2; omega
          rw [if_neg c]
          by_cases z : x.2.1 < arM x.1
          · rw [if_pos z, if_neg (show ¬ 2 = 1 by decide), if_neg (fun w => by have := w.2.2; rw [num_ar x.1 s9] at this; omega)]
          · rw [if_neg z, if_pos rfl, if_pos ⟨t9.mpr c59, c, by rw [num_ar x.1 s9]; omega⟩]
      · rw [if_neg c59, if_neg (fun w => c59 (t9.mp w.1))]
        by_cases c : x.1 = 9
        · rw [if_pos c, if_pos (by decide)]
        · rw [if_neg c, if_neg (show ¬ 3 = 1 by decide), if_neg (show ¬ 3 = 2 by decide)]
          split <;> rfl
theorem pF_end {q : Nat → Nat} {n a : Nat} (h : n ≤ a) : pF q n a = a := by unfold pF scanF; rw [show n - a = 0 by omega, scF]
theorem pF_tok {q : Nat → Nat} {n a : Nat} (h : a < n) (hb : ¬ isBlank (q a)) : pF q n a = a := by
  unfold pF scanF
  rw [show n - a = (n - (a + 1)) + 1 by omega, scF, if_neg (fun z => hb (of_decide_eq_true z.2))]
theorem pF_blank {q : Nat → Nat} {n a : Nat} (h : a < n) (hb : isBlank (q a)) : pF q n a = pF q n (a + 1) := by
  unfold pF scanF
  rw [show n - a = (n - (a + 1)) + 1 by omega, scF, if_pos ⟨h, decide_eq_true hb⟩]
theorem run_pF {q : Nat → Nat} {n h c a b : Nat} {x : PT9} (e : pF q n a = pF q n b) (hc : 0 < c) : runT q n h c a x = runT q n h c b x := by
  cases c with
  | zero => omega
  | succ c => rw [runT, runT, e]
theorem kF_pos {q : Nat → Nat} {n p : Nat} (hp : p < n) : kF q n p ≠ 0 := by
  unfold kF
  rw [if_pos hp]
  split
  · decide
  · split
    · unfold wkM; split
      · decide
      · split <;> omega
    · split <;> decide
theorem runR_runT {tx q : Nat → Nat} {n h : Nat} (hq : txq tx q n) (hh : h < 2) : ∀ (m a c c' : Nat) (x : PT9), n - a ≤ m → a ≤ n → n - a < c → n - a < c' → okX x → runR tx n h c a x = runT q n h c' a x := by
  intro m
  induction m with
  | zero =>
    intro a c c' x hm ha hc hc' ho
    have k0 : kF q n (pF q n a) = 0 := by rw [pF_end (by omega)]; unfold kF; rw [if_neg (by omega)]
    rw [show c = (c - 1) + 1 by omega, show c' = (c' - 1) + 1 by omega, runR, runT, if_pos (show n ≤ a by omega), if_pos k0, pF_end (show n ≤ a by omega), show a = n by omega]
  | succ m ih =>
    intro a c c' x hm ha hc hc' ho
    by_cases he : n ≤ a
    · have k0 : kF q n (pF q n a) = 0 := by rw [pF_end (by omega)]; unfold kF; rw [if_neg (by omega)]
      rw [show c = (c - 1) + 1 by omega, show c' = (c' - 1) + 1 by omega, runR, runT, if_pos (show n ≤ a by omega), if_pos k0, pF_end (show n ≤ a by omega), show a = n by omega]
    · by_cases hb : isBlank (q a)
      · rw [show c = (c - 1) + 1 by omega, runR, if_neg he, if_pos ((tx_bl hq (by omega)).mpr hb), run_pF (pF_blank (by omega) hb) (by omega)]
        exact ih (a + 1) (c - 1) c' x (by omega) (by omega) (by omega) (by omega) ho
      · have hlt : a < n := by omega
        have e1 := endR_le (tx := tx) hlt
        have tt := tak_tok hq hh ho hlt
        rw [show c = (c - 1) + 1 by omega, show c' = (c' - 1) + 1 by omega, runR, runT, if_neg he, if_neg (fun z => hb ((tx_bl hq hlt).mp z)), pF_tok hlt hb, if_neg (kF_pos hlt), ← tt, ← endR_eF hq hlt]
        rw [← endR_eF hq hlt] at tt
        by_cases z : (takS h x tx a (endR tx n a)).1 = 0
        · rw [if_pos z, if_pos z]
          exact ih _ (c - 1) (c' - 1) _ (by omega) (by omega) (by omega) (by omega) (tak_ok ho z)
        · rw [if_neg z, if_neg z]
/-- two programs in the reading that are alike but for what was there before -/
def simX (x y : PT9) : Prop := x.1 = y.1 ∧ x.2.1 = y.2.1 ∧ x.2.2.1 = y.2.2.1 ∧ (∀ i, i < x.2.2.1 → x.2.2.2.1 i = y.2.2.2.1 i ∧ ∀ w, w < arM (x.2.2.2.1 i) → x.2.2.2.2 (4 * i + w) = y.2.2.2.2 (4 * i + w)) ∧ (x.1 ≠ 9 → x.2.2.2.1 x.2.2.1 = x.1 ∧ y.2.2.2.1 x.2.2.1 = x.1 ∧ x.2.1 ≤ arM x.1 ∧ ∀ w, w < x.2.1 → x.2.2.2.2 (4 * x.2.2.1 + w) = y.2.2.2.2 (4 * x.2.2.1 + w))
theorem sim_tok {h k v : Nat} {x y : PT9} (hs : simX x y) (h9 : k < 13) : (tokS h x k v).1 = (tokS h y k v).1 ∧ simX (tokS h x k v).2 (tokS h y k v).2 := by
  have hs0 := hs
  obtain ⟨a, b, c, d, e⟩ := hs
  unfold tokS
  rw [← a, ← b, ← c]
  by_cases c9 : x.1 = 9
  · rw [if_pos c9, if_pos c9]
    by_cases k4 : k < 4
    · rw [if_pos k4, if_pos k4]; exact ⟨rfl, hs0⟩
    · rw [if_neg k4, if_neg k4]
      by_cases c7 : x.2.2.1 = 7
      · rw [if_pos c7, if_pos c7]; exact ⟨rfl, hs0⟩
      · rw [if_neg c7, if_neg c7]
        refine ⟨rfl, rfl, rfl, rfl, fun i hi => ?_, fun _ => ⟨upN_s, upN_s, Nat.zero_le _, fun w hw => absurd hw (Nat.not_lt_zero w)⟩⟩
        have hi : i < x.2.2.1 := hi
        show upN x.2.2.2.1 x.2.2.1 (k - 4) i = upN y.2.2.2.1 x.2.2.1 (k - 4) i ∧ ∀ w, w < arM (upN x.2.2.2.1 x.2.2.1 (k - 4) i) → x.2.2.2.2 (4 * i + w) = y.2.2.2.2 (4 * i + w)
        rw [upN_n (by omega), upN_n (by omega)]
        exact d i hi
  · rw [if_neg c9, if_neg c9]
    obtain ⟨e1, e2, e3, e4⟩ := e c9
    by_cases z : x.2.1 < arM x.1
    · rw [if_pos z, if_pos z]
      by_cases k1 : k = 1
      · rw [if_pos k1, if_pos k1]
        by_cases y1 : mayM h x.1 x.2.1 v
        · rw [if_pos y1, if_pos y1]
          refine ⟨rfl, rfl, rfl, rfl, fun i hi => ?_, fun _ => ⟨e1, e2, by show x.2.1 + 1 ≤ arM x.1; omega, fun w hw => ?_⟩⟩
          · have hi : i < x.2.2.1 := hi
            have a4 : ∀ s, arM s ≤ 4 := fun s => by unfold arM; split <;> (try split) <;> (try split) <;> omega
            refine ⟨(d i hi).1, fun w hw => ?_⟩
            have := a4 (x.2.2.2.1 i)
            have hw : w < arM (x.2.2.2.1 i) := hw
            show upN x.2.2.2.2 (4 * x.2.2.1 + x.2.1) v (4 * i + w) = upN y.2.2.2.2 (4 * x.2.2.1 + x.2.1) v (4 * i + w)
            rw [upN_n (by omega), upN_n (by omega)]
            exact (d i hi).2 w hw
          · have hw : w < x.2.1 + 1 := hw
            show upN x.2.2.2.2 (4 * x.2.2.1 + x.2.1) v (4 * x.2.2.1 + w) = upN y.2.2.2.2 (4 * x.2.2.1 + x.2.1) v (4 * x.2.2.1 + w)
            by_cases q : w = x.2.1
            · rw [q, upN_s, upN_s]
            · rw [upN_n (by omega), upN_n (by omega)]; exact e4 w (by omega)
        · rw [if_neg y1, if_neg y1]; exact ⟨rfl, hs0⟩
      · rw [if_neg k1, if_neg k1]; exact ⟨rfl, hs0⟩
    · rw [if_neg z, if_neg z]
      by_cases k2 : k = 2
      · rw [if_pos k2, if_pos k2]
        refine ⟨rfl, rfl, rfl, rfl, fun i hi => ?_, fun q => absurd rfl q⟩
        have hi : i < x.2.2.1 + 1 := hi
        by_cases q : i = x.2.2.1
        · subst q
          refine ⟨e1.trans e2.symm, fun w hw => e4 w ?_⟩
          have hw : w < arM (x.2.2.2.1 x.2.2.1) := hw
          rw [e1] at hw; omega
        · exact d i (by omega)
      · rw [if_neg k2, if_neg k2]; exact ⟨rfl, hs0⟩
theorem kF_13c {q : Nat → Nat} {n p : Nat} : kF q n p < 13 := by
  have wl : ∀ w, wordV w < 9 ∨ wordV w = 4294967295 := fun w => by unfold wordV; (repeat (first | split | exact Or.inr rfl | exact Or.inl (by decide)))
  unfold kF wkM
  split
  · split
    · decide
    · split
      · split
        · decide
        · split
          · have := wl (pkP q p (eF q n p - p)); omega
          · decide
      · split <;> decide
  · decide
theorem sim_run {q : Nat → Nat} {n h : Nat} : ∀ (c a : Nat) (x y : PT9), simX x y → (runT q n h c a x).1 = (runT q n h c a y).1 ∧ (runT q n h c a x).2.1 = (runT q n h c a y).2.1 ∧ simX (runT q n h c a x).2.2 (runT q n h c a y).2.2 := by
  intro c
  induction c with
  | zero => intro a x y hs; exact ⟨rfl, rfl, hs⟩
  | succ c ih =>
    intro a x y hs
    rw [runT, runT]
    by_cases z : kF q n (pF q n a) = 0
    · rw [if_pos z, if_pos z, ← hs.1]; exact ⟨rfl, rfl, hs⟩
    · rw [if_neg z, if_neg z]
      obtain ⟨t1, t2⟩ := sim_tok (h := h) (v := vF q n (pF q n a)) hs (kF_13c (q := q) (n := n) (p := pF q n a))
      rw [← t1]
      by_cases w : (tokS h x (kF q n (pF q n a)) (vF q n (pF q n a))).1 = 0
      · rw [if_pos w, if_pos w]; exact ih _ _ _ t2
      · rw [if_neg w, if_neg w]; exact ⟨rfl, rfl, t2⟩
/-- what the class reads, and what the reference does -/
theorem read_rel {tx q : Nat → Nat} {n h : Nat} {so nu so' nu' : Nat → Nat} (hq : txq tx q n) (hh : h < 2) (hn : n ≤ 200) : (runR tx n h 201 0 (9, 0, 0, so, nu)).1 = (runT q n h 201 0 (9, 0, 0, so', nu')).1 ∧ (runR tx n h 201 0 (9, 0, 0, so, nu)).2.1 = (runT q n h 201 0 (9, 0, 0, so', nu')).2.1 ∧ simX (runR tx n h 201 0 (9, 0, 0, so, nu)).2.2 (runT q n h 201 0 (9, 0, 0, so', nu')).2.2 := by
  rw [runR_runT hq hh 200 0 201 201 _ (by omega) (Nat.zero_le _) (by omega) (by omega) (okX_0 (f := 0) rfl)]
  exact sim_run 201 0 _ _ ⟨rfl, rfl, rfl, fun i hi => absurd hi (Nat.not_lt_zero i), fun z => absurd rfl z⟩

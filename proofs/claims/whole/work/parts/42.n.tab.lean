/-! PURE: the slots of a walk of the class -/
/-- slot p is of this walk -/
abbrev tkn (sp : Nat) (sl : Nat → Nat) (p : Nat) : Prop := sl p / 16384 = sp
def tabC (M sp n : Nat) (ts sl : Nat → Nat) : Prop := (∀ p, p < M → tkn sp sl p → sl p % 16384 < n) ∧ ∃ dst : Nat → Nat, (∀ i, i < n → sl ((hashC (ts i) + dst i) % M) = sp * 16384 + i ∧ ∀ q, q < dst i → tkn sp sl ((hashC (ts i) + q) % M)) ∧ ∀ p, p < M → tkn sp sl p → p = (hashC (ts (sl p % 16384)) + dst (sl p % 16384)) % M
theorem tabC_0 {M sp : Nat} {ts sl : Nat → Nat} (h : ∀ p, p < M → ¬ tkn sp sl p) : tabC M sp 0 ts sl := ⟨fun p hp q => absurd q (h p hp), fun _ => 0, fun i hi => absurd hi (Nat.not_lt_zero i), fun p hp q => absurd q (h p hp)⟩
theorem mod_inj {M a i j : Nat} (hi : i < M) (hj : j < M) (h : (a + i) % M = (a + j) % M) : i = j := by
  have h1 := Nat.div_add_mod (a + i) M
  have h2 := Nat.div_add_mod (a + j) M
  rw [h] at h1
  generalize (a + i) / M = x at h1
  generalize (a + j) / M = y at h2
  rcases Nat.lt_trichotomy x y with q | q | q
  · have : M * y ≥ M * x + M := by
      have := Nat.mul_le_mul_left M (show x + 1 ≤ y from q)
      rw [Nat.mul_add, Nat.mul_one] at this; exact this
    omega
  · subst q; omega
  · have : M * x ≥ M * y + M := by
      have := Nat.mul_le_mul_left M (show y + 1 ≤ x from q)
      rw [Nat.mul_add, Nat.mul_one] at this; exact this
    omega
theorem tab_full {M sp n : Nat} {ts sl : Nat → Nat} (h : tabC M sp n ts sl) (hn : n + 1 < M) (a : Nat) (hall : ∀ q, q < M - 1 → tkn sp sl ((a + q) % M)) : False := by
  obtain ⟨h1, dst, h2, h3⟩ := h
  have hM : 0 < M := by omega
  have := pigeon (M - 1) n (fun q => sl ((a + q) % M) % 16384) (fun q hq => h1 _ (Nat.mod_lt _ hM) (hall q hq)) (fun i j hi hj e => by
    have e : sl ((a + i) % M) % 16384 = sl ((a + j) % M) % 16384 := e
    have p1 := h3 _ (Nat.mod_lt _ hM) (hall i hi)
    have p2 := h3 _ (Nat.mod_lt _ hM) (hall j hj)
    rw [e, ← p2] at p1
    exact mod_inj (by omega) (by omega) p1)
  omega
theorem prb_spec {M sp : Nat} {ts sl : Nat → Nat} {x a : Nat} (hM : 0 < M) : ∀ n e, ∃ d, d ≤ n ∧ prb M sp ts sl x n ((a + e) % M) = (a + e + d) % M ∧ (∀ q, e ≤ q → q < e + d → tkn sp sl ((a + q) % M) ∧ ¬ ts (sl ((a + q) % M) % 16384) = x) ∧ (d = n ∨ ¬ (tkn sp sl ((a + e + d) % M) ∧ ¬ ts (sl ((a + e + d) % M) % 16384) = x)) := by
  intro n
  induction n with
  | zero => intro e; exact ⟨0, Nat.le_refl 0, by rw [prb]; rfl, fun q h1 h2 => absurd h2 (by omega), Or.inl rfl⟩
  | succ n ih =>
    intro e
    rw [prb]
    split
    · rename_i hc
      obtain ⟨d, hd, h1, h2, h3⟩ := ih (e + 1)
      refine ⟨d + 1, by omega, ?_, fun q ha hb => ?_, ?_⟩
      · rw [show ((a + e) % M + 1) % M = (a + (e + 1)) % M by rw [Nat.mod_add_mod]; congr 1, h1]; congr 1; omega
      · by_cases w : q = e
        · subst w; exact hc
        · exact h2 q (by omega) (by omega)
      · rcases h3 with h3 | h3
        · exact Or.inl (by omega)
        · exact Or.inr (by rw [show a + e + (d + 1) = a + (e + 1) + d by omega]; exact h3)
    · rename_i hc
      exact ⟨0, Nat.zero_le _, rfl, fun q h1 h2 => absurd h2 (by omega), Or.inr hc⟩
theorem slot_spec {M sp n : Nat} {ts sl : Nat → Nat} {x : Nat} (h : tabC M sp n ts sl) (hn : n + 1 < M) : ∃ d, slotC M sp ts sl x = (hashC x + d) % M ∧ (∀ q, q < d → tkn sp sl ((hashC x + q) % M) ∧ ¬ ts (sl ((hashC x + q) % M) % 16384) = x) ∧ ¬ (tkn sp sl (slotC M sp ts sl x) ∧ ¬ ts (sl (slotC M sp ts sl x) % 16384) = x) := by
  obtain ⟨d, hd, h1, h2, h3⟩ := prb_spec (sp := sp) (ts := ts) (sl := sl) (x := x) (a := hashC x) (show 0 < M by omega) (M - 1) 0
  rw [Nat.add_zero] at h1 h3
  have h1 : slotC M sp ts sl x = (hashC x + d) % M := by unfold slotC; exact h1
  refine ⟨d, h1, fun q hq => h2 q (Nat.zero_le _) (by omega), ?_⟩
  rcases h3 with h3 | h3
  · exact (tab_full h hn (hashC x) (fun q hq => (h2 q (Nat.zero_le _) (by omega)).1)).elim
  · rw [h1]; exact h3
theorem slot_taken {M sp n : Nat} {ts sl : Nat → Nat} {x : Nat} (h : tabC M sp n ts sl) (hn : n + 1 < M) (ht : tkn sp sl (slotC M sp ts sl x)) : ∃ i, i < n ∧ ts i = x := by
  obtain ⟨d, h1, h2, h3⟩ := slot_spec (x := x) h hn
  refine ⟨_, h.1 _ (slotC_lt (by omega)) ht, ?_⟩
  exact Classical.byContradiction (fun q => h3 ⟨ht, q⟩)
theorem slot_free {M sp n : Nat} {ts sl : Nat → Nat} {x : Nat} (h : tabC M sp n ts sl) (hn : n + 1 < M) (hn4 : n ≤ 16384) (ht : ¬ tkn sp sl (slotC M sp ts sl x)) : ∀ i, i < n → ¬ ts i = x := by
  intro i hi e
  obtain ⟨d, h1, h2, h3⟩ := slot_spec (x := x) h hn
  obtain ⟨-, dst, g2, g3⟩ := h
  obtain ⟨a, b⟩ := g2 i hi
  rw [e] at a b
  rw [h1] at ht
  rcases Nat.lt_or_ge (dst i) d with q | q
  · have := (h2 _ q).2
    rw [a, show (sp * 16384 + i) % 16384 = i by omega] at this
    exact this e
  · rcases Nat.lt_or_ge d (dst i) with r | r
    · exact ht (b d r)
    · have : dst i = d := by omega
      rw [this] at a
      exact ht (by show _ / 16384 = sp; rw [a]; omega)
theorem tabC_new {M sp n : Nat} {ts sl : Nat → Nat} {x : Nat} (h : tabC M sp n ts sl) (hn : n + 1 < M) (hn4 : n < 16384) (ht : ¬ tkn sp sl (slotC M sp ts sl x)) : tabC M sp (n + 1) (upN ts n x) (upN sl (slotC M sp ts sl x) (sp * 16384 + n)) := by
  obtain ⟨d, h1, h2, h3⟩ := slot_spec (x := x) h hn
  obtain ⟨g1, dst, g2, g3⟩ := h
  have hv : (sp * 16384 + n) / 16384 = sp ∧ (sp * 16384 + n) % 16384 = n := by omega
  have keep : ∀ p, tkn sp sl p → tkn sp (upN sl (slotC M sp ts sl x) (sp * 16384 + n)) p := fun p hp => by
    by_cases e : p = slotC M sp ts sl x
    · subst e; exact absurd hp ht
    · show _ / 16384 = sp; rw [upN_n e]; exact hp
  refine ⟨fun p hp hq => ?_, upN dst n d, fun i hi => ?_, fun p hp hq => ?_⟩
  · by_cases e : p = slotC M sp ts sl x
    · rw [e, upN_s, hv.2]; omega
    · rw [upN_n e]; have hq : upN sl _ _ p / 16384 = sp := hq; rw [upN_n e] at hq; have := g1 p hp hq; omega
  · by_cases e : i = n
    · subst e
      rw [upN_s, upN_s]
      refine ⟨by rw [← h1, upN_s], fun q hq => keep _ (h2 q hq).1⟩
    · rw [upN_n e, upN_n e]
      obtain ⟨a, b⟩ := g2 i (by omega)
      refine ⟨?_, fun q hq => keep _ (b q hq)⟩
      rw [upN_n (fun e2 => ht (by show _ / 16384 = sp; rw [← e2, a]; omega))]; exact a
  · by_cases e : p = slotC M sp ts sl x
    · rw [e, upN_s, hv.2, upN_s, upN_s]; exact h1
    · have hq : upN sl _ _ p / 16384 = sp := hq
      rw [upN_n e] at hq ⊢
      have := g1 p hp hq
      rw [upN_n (show sl p % 16384 ≠ n by omega), upN_n (show sl p % 16384 ≠ n by omega)]
      exact g3 p hp hq
def dstN (n : Nat) (ts : Nat → Nat) : Prop := ∀ i j, i < n → j < n → ts i = ts j → i = j
theorem dst_new {n x : Nat} {ts : Nat → Nat} (h : dstN n ts) (hx : ∀ i, i < n → ¬ ts i = x) : dstN (n + 1) (upN ts n x) := fun i j hi hj e => by
  by_cases a : i = n
  · by_cases b : j = n
    · omega
    · rw [a, upN_s, upN_n b] at e; exact absurd e.symm (hx j (by omega))
  · by_cases b : j = n
    · rw [b, upN_s, upN_n a] at e; exact absurd e (hx i (by omega))
    · rw [upN_n a, upN_n b] at e; exact h i j (by omega) (by omega) e
theorem dst_congr {n : Nat} {ts ts' : Nat → Nat} (h : dstN n ts) (e : ∀ i, i < n → ts' i = ts i) : dstN n ts' := fun i j hi hj q => h i j hi hj (by rw [← e i hi, ← e j hj]; exact q)
/-- what holds of a walk's rows at every time -/
def TI (L M sp cn : Nat) (ts og sl : Nat → Nat) : Prop := ((L = 700 ∧ M = 1024) ∨ (L = 12000 ∧ M = 16384)) ∧ cn ≤ L ∧ tabC M sp cn ts sl ∧ dstN cn ts ∧ (∀ j, ts j < 2 ^ 44) ∧ (∀ j, og j < 2147483648) ∧ (∀ j, sl j < 2147483648) ∧ 0 < sp ∧ sp ≤ 100000 ∧ ∀ p, p < M → sl p / 16384 ≤ sp
theorem TI.M {L M sp cn : Nat} {ts og sl : Nat → Nat} (h : TI L M sp cn ts og sl) : M = 1024 ∨ M = 16384 := by rcases h.1 with q | q <;> omega
theorem TI.r {L M sp cn : Nat} {ts og sl : Nat → Nat} (h : TI L M sp cn ts og sl) : cn + 1 < M := by have := h.2.1; rcases h.1 with q | q <;> omega
theorem TI.ix {L M sp cn : Nat} {ts og sl : Nat → Nat} (h : TI L M sp cn ts og sl) : ∀ p, p < M → sl p / 16384 = sp → sl p % 16384 < L := fun p hp hq => Nat.lt_of_lt_of_le (h.2.2.1.1 p hp hq) h.2.1
/-- behind a clearing -/
theorem TI_clear {L M sp cn : Nat} {ts og sl : Nat → Nat} (h1 : (L = 700 ∧ M = 1024) ∨ (L = 12000 ∧ M = 16384)) (h5 : ∀ j, ts j < 2 ^ 44) (h6 : ∀ j, og j < 2147483648) (h7 : ∀ j, sl j < 2147483648) (h9 : sp < 100000) (h10 : ∀ p, p < M → sl p / 16384 ≤ sp) : TI L M (sp + 1) 0 ts og sl :=
  ⟨h1, Nat.zero_le _, tabC_0 (fun p hp q => by have := h10 p hp; have q : sl p / 16384 = sp + 1 := q; omega), fun i j hi => absurd hi (Nat.not_lt_zero i), h5, h6, h7, by omega, by omega, fun p hp => by have := h10 p hp; omega⟩
theorem TI_new {L M sp cn x o : Nat} {ts og sl : Nat → Nat} (h : TI L M sp cn ts og sl) (hx : x < 2 ^ 44) (ho : o < 2147483648) (hc : cn < L) (ht : ¬ tkn sp sl (slotC M sp ts sl x)) : TI L M sp (cn + 1) (upN ts cn x) (upN og cn o) (upN sl (slotC M sp ts sl x) (sp * 16384 + cn)) := by
  have hr := h.r
  obtain ⟨h1, h2, h3, h4, h5, h6, h7, h8, h9, h10⟩ := h
  have hL : L ≤ 12000 := by omega
  refine ⟨h1, hc, tabC_new h3 hr (by omega) ht, dst_new h4 (slot_free h3 hr (by omega) ht), up_lt h5 hx, up_lt h6 ho, up_lt h7 (by omega), h8, h9, fun p hp => ?_⟩
  by_cases e : p = slotC M sp ts sl x
  · rw [e, upN_s]; omega
  · rw [upN_n e]; exact h10 p hp
/-- longer rows, all states in them -/
def cp7 (f : Nat → Nat) : Nat → Nat := fun j => if j < 700 then f j else 0
theorem cp7_lt {f : Nat → Nat} {j : Nat} (h : j < 700) : cp7 f j = f j := if_pos h
theorem cp7_b {f : Nat → Nat} {b : Nat} (hf : ∀ j, f j < b) (hb : 0 < b) : ∀ j, cp7 f j < b := fun j => by
  unfold cp7; split
  · exact hf j
  · exact hb
theorem upN_self {f : Nat → Nat} {k : Nat} : upN f k (f k) = f := by
  funext j
  by_cases e : j = k
  · rw [e, upN_s]
  · rw [upN_n e]
theorem TI_re {L sp i cn : Nat} {ts og sl : Nat → Nat} (h : TI 12000 16384 sp i ts og sl) (hc : cn ≤ 700) (hi : i < cn) (hd : dstN cn ts) : ¬ tkn sp sl (slotC 16384 sp ts sl (ts i)) ∧ TI 12000 16384 sp (i + 1) ts og (upN sl (slotC 16384 sp ts sl (ts i)) (sp * 16384 + i)) := by
  have hn : ¬ tkn sp sl (slotC 16384 sp ts sl (ts i)) := fun q => by
    obtain ⟨j, hj, e⟩ := slot_taken h.2.2.1 h.r q
    have := hd j i (by omega) hi e
    omega
  have := TI_new (x := ts i) (o := og i) h (h.2.2.2.2.1 i) (h.2.2.2.2.2.1 i) (by omega) hn
  rw [upN_self, upN_self] at this
  exact ⟨hn, this⟩

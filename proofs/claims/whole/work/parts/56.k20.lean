abbrev RSt : Type := Nat × Nat × Nat × Nat × Nat × (Nat → Nat) × (Nat → Nat)
abbrev qW (ro ft pl sr gv : Nat) (ta : Nat) (kt : ClassId) (tx : Nat → Nat) (pa pb pc : Nat) (kb kc : ClassId) (n : Nat) (so nu : Nat → Nat) : va_W := [(ro, .inr (2, [.int (nI ft), .int (nI pl), .int (nI sr), .int (nI gv)])), (ta, .inl (kt, 200, .inl (nA tx))), (pa, .inr (1, [.int (nI n), .ref pb, .ref pc])), (pb, .inl (kb, 8, .inl (nA so))), (pc, .inl (kc, 32, .inl (nA nu)))]
abbrev qT (kt kb kc : ClassId) : List (ClassId × FieldType) := [(kt, .byte), (kb, .int), (kc, .int)]
def numR (tx : Nat → Nat) (p : Nat) : Nat → Nat
  | 0 => 0
  | d + 1 => if 1000 < numR tx p d * 10 + tx (p + d) - 48 then 1000 else numR tx p d * 10 + tx (p + d) - 48
theorem numR_le (tx : Nat → Nat) (p d : Nat) : numR tx p d ≤ 1000 := by
  cases d with
  | zero => exact Nat.zero_le _
  | succ d => rw [numR]; split <;> omega
theorem num_step {tx : Nat → Nat} {p i nb : Nat} (hp : p ≤ i) (h : nb = numR tx p (i - p)) : (if 1000 < nb * 10 + tx i - 48 then 1000 else nb * 10 + tx i - 48) = numR tx p (i + 1 - p) := by
  rw [show i + 1 - p = (i - p) + 1 by omega, numR, ← h, show p + (i - p) = i by omega]
def endR (tx : Nat → Nat) (n p : Nat) : Nat := if isLt (tx p) then scanF tx n (fun c => decide (isLt c)) p else if isDg (tx p) then scanF tx n (fun c => decide (isDg c)) p else p + 1
theorem endR_l {tx : Nat → Nat} {n p : Nat} (h : isLt (tx p)) : endR tx n p = scanF tx n (fun c => decide (isLt c)) p := if_pos h
theorem endR_d {tx : Nat → Nat} {n p : Nat} (h : ¬ isLt (tx p)) (h1 : isDg (tx p)) : endR tx n p = scanF tx n (fun c => decide (isDg c)) p := by unfold endR; rw [if_neg h, if_pos h1]
theorem endR_o {tx : Nat → Nat} {n p : Nat} (h : ¬ isLt (tx p)) (h1 : ¬ isDg (tx p)) : endR tx n p = p + 1 := by unfold endR; rw [if_neg h, if_neg h1]
theorem te_step {P : Nat → Prop} {tx : Nat → Nat} {p e : Nat} (h : ∀ j, p ≤ j → j < e → P (tx j)) (he : P (tx e)) : ∀ j, p ≤ j → j < e + 1 → P (tx j) := fun j h1 h2 => by
  by_cases q : j = e
  · rw [q]; exact he
  · exact h j h1 (by omega)
theorem te_fin {P : Nat → Prop} [DecidablePred P] {tx : Nat → Nat} {n p e v : Nat} (h : ∀ j, p ≤ j → j < e → P (tx j)) (hn : e ≤ n) (hp : p ≤ e) (hx : e < n → ¬ P (tx e)) (hv : v = scanF tx n (fun c => decide (P c)) p) : nI e = nI v := congrArg nI (by rw [hv]; exact (scan_uniq ⟨hp, hn, h, hx⟩).symm)
theorem scF_le {q : Nat → Nat} {n : Nat} {P : Nat → Bool} : ∀ k a, a ≤ n → k = n - a → a ≤ scF q n P k a ∧ scF q n P k a ≤ n := by
  intro k
  induction k with
  | zero => intro a ha _; exact ⟨Nat.le_refl _, ha⟩
  | succ k ih =>
    intro a ha hk
    rw [scF]
    split
    · have := ih (a + 1) (by omega) (by omega); omega
    · exact ⟨Nat.le_refl _, ha⟩
theorem scanF_gt {q : Nat → Nat} {n : Nat} {P : Nat → Bool} {p : Nat} (hp : p < n) (h : P (q p) = true) : p < scanF q n P p ∧ scanF q n P p ≤ n := by
  unfold scanF
  rw [show n - p = (n - (p + 1)) + 1 by omega, scF, if_pos ⟨hp, h⟩]
  have := scF_le (q := q) (P := P) (n - (p + 1)) (p + 1) (by omega) rfl
  omega
theorem endR_le {tx : Nat → Nat} {n p : Nat} (hp : p < n) : p < endR tx n p ∧ endR tx n p ≤ n := by
  unfold endR
  split
  · exact scanF_gt hp (decide_eq_true (by assumption))
  · split
    · exact scanF_gt hp (decide_eq_true (by assumption))
    · omega
/-! PURE: a token taken by the class -/
def relS (x : PT9) (sr gv n : Nat) (so nu : Nat → Nat) : Prop := (x.1 = 9 → sr = 4294967295) ∧ (x.1 ≠ 9 → sr = x.1 ∧ gv = x.2.1) ∧ n = x.2.2.1 ∧ so = x.2.2.2.1 ∧ nu = x.2.2.2.2
def tkPost (R : Nat × PT9) (ft pl at_ : Nat) (u : RSt) : Prop := (R.1 = 0 → u.1 = ft ∧ u.2.1 = pl ∧ relS R.2 u.2.2.1 u.2.2.2.1 u.2.2.2.2.1 u.2.2.2.2.2.1 u.2.2.2.2.2.2) ∧ (R.1 ≠ 0 → u.1 = R.1 ∧ u.2.1 = at_ ∧ u.2.2.2.2.1 ≤ 7) ∧ (∀ j, u.2.2.2.2.2.1 j < 2147483648 ∧ u.2.2.2.2.2.2 j < 2147483648) ∧ u.2.2.2.1 < 2147483648
/-- a name taken, whose sort is w (4294967295: none) -/
def nameS (x : PT9) (w : Nat) : Nat × PT9 := if x.1 = 9 then (if w = 4294967295 then (1, x) else if 7 ≤ x.2.2.1 then (3, x) else (0, (w, 0, x.2.2.1, upN x.2.2.2.1 x.2.2.1 w, x.2.2.2.2))) else (1, x)
/-- a number taken -/
def numS (h : Nat) (x : PT9) (v : Nat) : Nat × PT9 := if x.1 = 9 then (1, x) else if kindC x.1 x.2.1 = 0 then (1, x) else if isNumC (kindC x.1 x.2.1) v h then (0, (x.1, x.2.1 + 1, x.2.2.1, x.2.2.2.1, upN x.2.2.2.2 (x.2.2.1 * 4 + x.2.1) v)) else (2, x)
theorem rel_sr {x : PT9} {sr gv n m : Nat} {so nu : Nat → Nat} {k : Nat} (h : relS x sr gv n so nu) (hs : x.1 = 9 ∨ (x.1 < 9 ∧ m < 7 ∧ x.2.1 ≤ k)) : sr < 4294967296 := by
  rcases hs with q | q
  · have := h.1 q; omega
  · have := (h.2.1 (by omega)).1; omega
theorem rel_9 {x : PT9} {sr gv n m : Nat} {so nu : Nat → Nat} {k : Nat} (h : relS x sr gv n so nu) (hs : x.1 = 9 ∨ (x.1 < 9 ∧ m < 7 ∧ x.2.1 ≤ k)) : sr = 4294967295 ↔ x.1 = 9 := by
  constructor
  · intro e
    rcases hs with q | q
    · exact q
    · have := (h.2.1 (by omega)).1; omega
  · exact h.1
theorem tn_busy {x : PT9} {ft pl sr gv n pp w : Nat} {so nu : Nat → Nat} (h : relS x sr gv n so nu) (hs : ¬ sr = 4294967295) (hb : (∀ j, so j < 2147483648 ∧ nu j < 2147483648) ∧ gv < 2147483648) (hn : n ≤ 7) : tkPost (nameS x w) ft pl pp (1, pp, sr, gv, n, so, nu) := by
  have e : nameS x w = (1, x) := by unfold nameS; rw [if_neg (fun q => hs (h.1 q))]
  rw [e]
  exact ⟨fun q => absurd (show 1 = 0 from q) (by decide), fun _ => ⟨rfl, rfl, hn⟩, hb⟩
theorem tn_none {x : PT9} {ft pl sr gv n pp w : Nat} {so nu : Nat → Nat} (h : relS x sr gv n so nu) (hs : sr = 4294967295) (hw : w = 4294967295) (hb : (∀ j, so j < 2147483648 ∧ nu j < 2147483648) ∧ gv < 2147483648) (hn : n ≤ 7) : tkPost (nameS x w) ft pl pp (1, pp, sr, gv, n, so, nu) := by
  have e : (nameS x w).1 = 1 := by
    unfold nameS
    by_cases q : x.1 = 9
    · rw [if_pos q, if_pos hw]
    · rw [if_neg q]
  exact ⟨fun q => absurd (e.symm.trans q) (by decide), fun _ => ⟨e.symm, rfl, hn⟩, hb⟩
theorem tn_full {x : PT9} {ft pl sr gv n pp w : Nat} {so nu : Nat → Nat} (h : relS x sr gv n so nu) (hs : sr = 4294967295) (hw : ¬ w = 4294967295) (h7 : ¬ n < 7) (hb : (∀ j, so j < 2147483648 ∧ nu j < 2147483648) ∧ gv < 2147483648) (hn : n ≤ 7) (h9 : x.1 = 9) : tkPost (nameS x w) ft pl pp (3, pp, sr, gv, n, so, nu) := by
  have e : nameS x w = (3, x) := by unfold nameS; rw [if_pos h9, if_neg hw, if_pos (by rw [← h.2.2.1]; omega)]
  rw [e]
  exact ⟨fun q => absurd (show 3 = 0 from q) (by decide), fun _ => ⟨rfl, rfl, hn⟩, hb⟩
theorem tn_new {x : PT9} {ft pl sr gv n pp w : Nat} {so nu : Nat → Nat} (h : relS x sr gv n so nu) (hw : ¬ w = 4294967295) (hw9 : w < 9 ∨ w = 4294967295) (h7 : n < 7) (hb : (∀ j, so j < 2147483648 ∧ nu j < 2147483648) ∧ gv < 2147483648) (h9 : x.1 = 9) : tkPost (nameS x w) ft pl pp (ft, pl, w, 0, n, upN so n w, nu) := by
  obtain ⟨-, -, rfl, rfl, rfl⟩ := h
  have e : nameS x w = (0, (w, 0, x.2.2.1, upN x.2.2.2.1 x.2.2.1 w, x.2.2.2.2)) := by unfold nameS; rw [if_pos h9, if_neg hw, if_neg (by omega)]
  rw [e]
  exact ⟨fun _ => ⟨rfl, rfl, fun q => by have q : w = 9 := q; omega, fun _ => ⟨rfl, rfl⟩, rfl, rfl, rfl⟩, fun q => absurd rfl q, fun j => ⟨up_lt (fun j => (hb.1 j).1) (by omega) j, (hb.1 j).2⟩, (by decide : 0 < 2147483648)⟩
theorem kind_lt4 {sr gv : Nat} (h : ¬ kindC sr gv = 0) : sr < 9 ∧ gv < 4 := Classical.byContradiction (fun q => h (by unfold kindC; rw [if_neg q]))
theorem tm_none {x : PT9} {ft pl sr gv n pp v h m : Nat} {so nu : Nat → Nat} {k : Nat} (hx : relS x sr gv n so nu) (hs : x.1 = 9 ∨ (x.1 < 9 ∧ m < 7 ∧ x.2.1 ≤ k)) (hk : kindC sr gv = 0) (hb : (∀ j, so j < 2147483648 ∧ nu j < 2147483648) ∧ gv < 2147483648) (hn : n ≤ 7) : tkPost (numS h x v) ft pl pp (1, pp, sr, gv, n, so, nu) := by
  have e : numS h x v = (1, x) := by
    unfold numS
    by_cases q : x.1 = 9
    · rw [if_pos q]
    · rw [if_neg q, if_pos (by rw [← (hx.2.1 q).1, ← (hx.2.1 q).2]; exact hk)]
  rw [e]
  exact ⟨fun q => absurd (show 1 = 0 from q) (by decide), fun _ => ⟨rfl, rfl, hn⟩, hb⟩
theorem rel_no9 {x : PT9} {sr gv n : Nat} {so nu : Nat → Nat} (hx : relS x sr gv n so nu) (hk : ¬ kindC sr gv = 0) : ¬ x.1 = 9 := fun q => by
  have := (kind_lt4 hk).1
  have := hx.1 q
  omega
theorem rel_n7 {x : PT9} {sr gv n m : Nat} {so nu : Nat → Nat} {k : Nat} (hx : relS x sr gv n so nu) (hs : x.1 = 9 ∨ (x.1 < 9 ∧ m < 7 ∧ x.2.1 ≤ k)) (hk : ¬ kindC sr gv = 0) : m < 7 := by
  rcases hs with q | q
  · exact absurd q (rel_no9 hx hk)
  · exact q.2.1
theorem tm_bad {x : PT9} {ft pl sr gv n pp v h m : Nat} {so nu : Nat → Nat} {k : Nat} (hx : relS x sr gv n so nu) (hs : x.1 = 9 ∨ (x.1 < 9 ∧ m < 7 ∧ x.2.1 ≤ k)) (hk : ¬ kindC sr gv = 0) (hv : ¬ isNumC (kindC sr gv) v h) (hb : (∀ j, so j < 2147483648 ∧ nu j < 2147483648) ∧ gv < 2147483648) (hn : n ≤ 7) : tkPost (numS h x v) ft pl pp (2, pp, sr, gv, n, so, nu) := by
  have q := rel_no9 hx hk
  obtain ⟨a, b⟩ := hx.2.1 q
  rw [a, b] at hk hv
  have e : numS h x v = (2, x) := by unfold numS; rw [if_neg q, if_neg hk, if_neg hv]
  rw [e]
  exact ⟨fun q => absurd (show 2 = 0 from q) (by decide), fun _ => ⟨rfl, rfl, hn⟩, hb⟩
theorem tm_ok {x : PT9} {ft pl sr gv n pp v h m : Nat} {so nu : Nat → Nat} {k : Nat} (hx : relS x sr gv n so nu) (hs : x.1 = 9 ∨ (x.1 < 9 ∧ m < 7 ∧ x.2.1 ≤ k)) (hk : ¬ kindC sr gv = 0) (hv : isNumC (kindC sr gv) v h) (hb : (∀ j, so j < 2147483648 ∧ nu j < 2147483648) ∧ gv < 2147483648) (hh : h < 2) (hv9 : v ≤ 1000) : tkPost (numS h x v) ft pl pp (ft, pl, sr, gv + 1, n, so, upN nu (n * 4 + gv) v) := by
  have q := rel_no9 hx hk
  have hg5 : x.2.1 + 1 < 2147483648 := by have := (kind_lt4 hk).2; have := (hx.2.1 q).2; omega
  obtain ⟨a, b⟩ := hx.2.1 q
  obtain ⟨-, -, rfl, rfl, rfl⟩ := hx
  rw [a, b] at hk hv
  have e : numS h x v = (0, (x.1, x.2.1 + 1, x.2.2.1, x.2.2.2.1, upN x.2.2.2.2 (x.2.2.1 * 4 + x.2.1) v)) := by unfold numS; rw [if_neg q, if_neg hk, if_pos hv]
  rw [e, a, b]
  exact ⟨fun _ => ⟨rfl, rfl, fun z => absurd z q, fun _ => ⟨rfl, rfl⟩, rfl, rfl, rfl⟩, fun z => absurd rfl z, fun j => ⟨(hb.1 j).1, up_lt (fun j => (hb.1 j).2) (by omega) j⟩, hg5⟩
set_option maxHeartbeats 4000000 in
set_option maxRecDepth 100000 in
theorem c_X2_isBlank (l : Launch) (ch : Nat) (hch : ch < 4294967296) : Met l yX2_isBlank (.code yX2_isBlank cX2_isBlank 1 (some .boolean) :: wsL_law) ({ frames := 0, cells := 0, slots := 0, locals := 0 }) (va_Pc [.int (nI ch)] PU) (QrI (bP (isBlank ch))) 0 0 (fun _ => False) := by
  refine Met.ofW (cc := cX2_isBlank) (maxL := 1) (ret := (some .boolean)) (by decide) rfl ?_
  intro p e s m args below meth c s₁ B hml hv
  obtain ⟨rfl, hv⟩ := hv
  have hx := B.exec
  have hb := B.bytes
  have hr := B.returns
  have hts := atoms_spec (ws := .code yX2_isBlank cX2_isBlank 1 (some .boolean) :: wsL_law) B.pre
  have hU : ∀ w ∈ wsL_law, w.before _ s = true := fun w h => hts w (List.mem_cons_of_mem _ h)
  have hown : s.vm.findClass RX2 = some m.cls := findClass_of_methodNamed B.named
  have hlocks := B.notSynchronized
  generalize hQ : MQ _ _ _ _ _ _ _ = Q
  have hl := lv_entry ([.int (nI ch)]) (n := 1) (Nat.le_of_ble_eq_true rfl)
  rw [lg_entry_eq]
  generalize (lg_sl ([.int (nI ch)]) ++ List.replicate (1 - (lg_sl ([.int (nI ch)])).length) Slot.unset).toArray = ls at hl ⊢
  have hl : lv_has ls 1 [(0, .int (nI ch))] := hl
  refine lv_iload_n hx hb dX2_isBlank_0 rfl (lv_at hl 0 rfl) ?_
  refine lv_bipush (v := nI 32) hx hb dX2_isBlank_1 (by decide) ?_
  refine lv_icmp_eq (tgt := 12) hx hb dX2_isBlank_3 (by decide) (fun c3_1 => ?_) (fun c3_1 => ?_)
  · have c3_1 : ch = 32 := (nI_eqG (a := ch) (b := 32) (by omega) (by omega)).mp c3_1
    refine lv_iconst (v := nI 1) hx hb dX2_isBlank_12 (by decide) ?_
    refine lv_goto (tgt := 17) hx hb dX2_isBlank_13 (by decide) ?_
    subst hQ
    exact rtz hx hb hr hlocks rfl rfl (bP_1 (by unfold isBlank; omega)) dX2_isBlank_17
  · have c3_1 : ¬ (ch = 32) := fun h9 => c3_1 ((nI_eqG (a := ch) (b := 32) (by omega) (by omega)).mpr h9)
    refine lv_iload_n hx hb dX2_isBlank_6 rfl (lv_at hl 0 rfl) ?_
    refine lv_bipush (v := nI 10) hx hb dX2_isBlank_7 (by decide) ?_
    refine lv_icmp_ne (tgt := 16) hx hb dX2_isBlank_9 (by decide) (fun c9_2 => ?_) (fun c9_2 => ?_)
    · have c9_2 : ¬ (ch = 10) := fun h9 => c9_2 ((nI_eqG (a := ch) (b := 10) (by omega) (by omega)).mpr h9)
      refine lv_iconst (v := nI 0) hx hb dX2_isBlank_16 (by decide) ?_
      subst hQ
      exact rtz hx hb hr hlocks rfl rfl (bP_0 (by unfold isBlank; omega)) dX2_isBlank_17
    · have c9_2 : ch = 10 := (nI_eqG (a := ch) (b := 10) (by omega) (by omega)).mp c9_2
      refine lv_iconst (v := nI 1) hx hb dX2_isBlank_12 (by decide) ?_
      refine lv_goto (tgt := 17) hx hb dX2_isBlank_13 (by decide) ?_
      subst hQ
      exact rtz hx hb hr hlocks rfl rfl (bP_1 (by unfold isBlank; omega)) dX2_isBlank_17

set_option maxHeartbeats 4000000 in
set_option maxRecDepth 100000 in
theorem c_X2_isLetter (l : Launch) (ch : Nat) (hch : ch < 4294967296) : Met l yX2_isLetter (.code yX2_isLetter cX2_isLetter 1 (some .boolean) :: wsL_law) ({ frames := 0, cells := 0, slots := 0, locals := 0 }) (va_Pc [.int (nI ch)] PU) (QrI (bP (isLt ch))) 0 0 (fun _ => False) := by
  refine Met.ofW (cc := cX2_isLetter) (maxL := 1) (ret := (some .boolean)) (by decide) rfl ?_
  intro p e s m args below meth c s₁ B hml hv
  obtain ⟨rfl, hv⟩ := hv
  have hx := B.exec
  have hb := B.bytes
  have hr := B.returns
  have hts := atoms_spec (ws := .code yX2_isLetter cX2_isLetter 1 (some .boolean) :: wsL_law) B.pre
  have hU : ∀ w ∈ wsL_law, w.before _ s = true := fun w h => hts w (List.mem_cons_of_mem _ h)
  have hown : s.vm.findClass RX2 = some m.cls := findClass_of_methodNamed B.named
  have hlocks := B.notSynchronized
  generalize hQ : MQ _ _ _ _ _ _ _ = Q
  have hl := lv_entry ([.int (nI ch)]) (n := 1) (Nat.le_of_ble_eq_true rfl)
  rw [lg_entry_eq]
  generalize (lg_sl ([.int (nI ch)]) ++ List.replicate (1 - (lg_sl ([.int (nI ch)])).length) Slot.unset).toArray = ls at hl ⊢
  have hl : lv_has ls 1 [(0, .int (nI ch))] := hl
  refine lv_iload_n hx hb dX2_isLetter_0 rfl (lv_at hl 0 rfl) ?_
  refine lv_bipush (v := nI 97) hx hb dX2_isLetter_1 (by decide) ?_
  refine lv_icmp_lt (tgt := 12) hx hb dX2_isLetter_3 (by decide) (fun c3_1 => ?_) (fun c3_1 => ?_)
  · have c3_1 : (ch < 97 ∧ (2147483648 ≤ ch ∨ 97 < 2147483648)) ∨ (2147483648 ≤ ch ∧ 97 < 2147483648) := (nI_ltG (a := ch) (b := 97) (by omega) (by omega)).mp c3_1
    refine lv_iload_n hx hb dX2_isLetter_12 rfl (lv_at hl 0 rfl) ?_
    refine lv_bipush (v := nI 65) hx hb dX2_isLetter_13 (by decide) ?_
    refine lv_icmp_lt (tgt := 28) hx hb dX2_isLetter_15 (by decide) (fun c15_2 => ?_) (fun c15_2 => ?_)
    · have c15_2 : (ch < 65 ∧ (2147483648 ≤ ch ∨ 65 < 2147483648)) ∨ (2147483648 ≤ ch ∧ 65 < 2147483648) := (nI_ltG (a := ch) (b := 65) (by omega) (by omega)).mp c15_2
      refine lv_iconst (v := nI 0) hx hb dX2_isLetter_28 (by decide) ?_
      subst hQ
      exact rtz hx hb hr hlocks rfl rfl (bP_0 (by unfold isLt; omega)) dX2_isLetter_29
    · have c15_2 : ¬ ((ch < 65 ∧ (2147483648 ≤ ch ∨ 65 < 2147483648)) ∨ (2147483648 ≤ ch ∧ 65 < 2147483648)) := fun h9 => c15_2 ((nI_ltG (a := ch) (b := 65) (by omega) (by omega)).mpr h9)
      refine lv_iload_n hx hb dX2_isLetter_18 rfl (lv_at hl 0 rfl) ?_
      refine lv_bipush (v := nI 90) hx hb dX2_isLetter_19 (by decide) ?_
      refine lv_icmp_gt (tgt := 28) hx hb dX2_isLetter_21 (by decide) (fun c21_3 => ?_) (fun c21_3 => ?_)
      · have c21_3 : (90 < ch ∧ (2147483648 ≤ 90 ∨ ch < 2147483648)) ∨ (2147483648 ≤ 90 ∧ ch < 2147483648) := (nI_ltG (a := 90) (b := ch) (by omega) (by omega)).mp c21_3
        refine lv_iconst (v := nI 0) hx hb dX2_isLetter_28 (by decide) ?_
        subst hQ
        exact rtz hx hb hr hlocks rfl rfl (bP_0 (by unfold isLt; omega)) dX2_isLetter_29
      · have c21_3 : ¬ ((90 < ch ∧ (2147483648 ≤ 90 ∨ ch < 2147483648)) ∨ (2147483648 ≤ 90 ∧ ch < 2147483648)) := fun h9 => c21_3 ((nI_ltG (a := 90) (b := ch) (by omega) (by omega)).mpr h9)
        refine lv_iconst (v := nI 1) hx hb dX2_isLetter_24 (by decide) ?_
        refine lv_goto (tgt := 29) hx hb dX2_isLetter_25 (by decide) ?_
        subst hQ
        exact rtz hx hb hr hlocks rfl rfl (bP_1 (by unfold isLt; omega)) dX2_isLetter_29
  · have c3_1 : ¬ ((ch < 97 ∧ (2147483648 ≤ ch ∨ 97 < 2147483648)) ∨ (2147483648 ≤ ch ∧ 97 < 2147483648)) := fun h9 => c3_1 ((nI_ltG (a := ch) (b := 97) (by omega) (by omega)).mpr h9)
    refine lv_iload_n hx hb dX2_isLetter_6 rfl (lv_at hl 0 rfl) ?_
    refine lv_bipush (v := nI 122) hx hb dX2_isLetter_7 (by decide) ?_
    refine lv_icmp_le (tgt := 24) hx hb dX2_isLetter_9 (by decide) (fun c9_4 => ?_) (fun c9_4 => ?_)
    · have c9_4 : (ch ≤ 122 ∧ (2147483648 ≤ ch ∨ 122 < 2147483648)) ∨ (2147483648 ≤ ch ∧ 122 < 2147483648) := (nI_leG (a := ch) (b := 122) (by omega) (by omega)).mp c9_4
      refine lv_iconst (v := nI 1) hx hb dX2_isLetter_24 (by decide) ?_
      refine lv_goto (tgt := 29) hx hb dX2_isLetter_25 (by decide) ?_
      subst hQ
      exact rtz hx hb hr hlocks rfl rfl (bP_1 (by unfold isLt; omega)) dX2_isLetter_29
    · have c9_4 : ¬ ((ch ≤ 122 ∧ (2147483648 ≤ ch ∨ 122 < 2147483648)) ∨ (2147483648 ≤ ch ∧ 122 < 2147483648)) := fun h9 => c9_4 ((nI_leG (a := ch) (b := 122) (by omega) (by omega)).mpr h9)
      refine lv_iload_n hx hb dX2_isLetter_12 rfl (lv_at hl 0 rfl) ?_
      refine lv_bipush (v := nI 65) hx hb dX2_isLetter_13 (by decide) ?_
      refine lv_icmp_lt (tgt := 28) hx hb dX2_isLetter_15 (by decide) (fun c15_5 => ?_) (fun c15_5 => ?_)
      · have c15_5 : (ch < 65 ∧ (2147483648 ≤ ch ∨ 65 < 2147483648)) ∨ (2147483648 ≤ ch ∧ 65 < 2147483648) := (nI_ltG (a := ch) (b := 65) (by omega) (by omega)).mp c15_5
        refine lv_iconst (v := nI 0) hx hb dX2_isLetter_28 (by decide) ?_
        subst hQ
        exact rtz hx hb hr hlocks rfl rfl (bP_0 (by unfold isLt; omega)) dX2_isLetter_29
      · have c15_5 : ¬ ((ch < 65 ∧ (2147483648 ≤ ch ∨ 65 < 2147483648)) ∨ (2147483648 ≤ ch ∧ 65 < 2147483648)) := fun h9 => c15_5 ((nI_ltG (a := ch) (b := 65) (by omega) (by omega)).mpr h9)
        refine lv_iload_n hx hb dX2_isLetter_18 rfl (lv_at hl 0 rfl) ?_
        refine lv_bipush (v := nI 90) hx hb dX2_isLetter_19 (by decide) ?_
        refine lv_icmp_gt (tgt := 28) hx hb dX2_isLetter_21 (by decide) (fun c21_6 => ?_) (fun c21_6 => ?_)
        · have c21_6 : (90 < ch ∧ (2147483648 ≤ 90 ∨ ch < 2147483648)) ∨ (2147483648 ≤ 90 ∧ ch < 2147483648) := (nI_ltG (a := 90) (b := ch) (by omega) (by omega)).mp c21_6
          refine lv_iconst (v := nI 0) hx hb dX2_isLetter_28 (by decide) ?_
          subst hQ
          exact rtz hx hb hr hlocks rfl rfl (bP_0 (by unfold isLt; omega)) dX2_isLetter_29
        · have c21_6 : ¬ ((90 < ch ∧ (2147483648 ≤ 90 ∨ ch < 2147483648)) ∨ (2147483648 ≤ 90 ∧ ch < 2147483648)) := fun h9 => c21_6 ((nI_ltG (a := 90) (b := ch) (by omega) (by omega)).mpr h9)
          refine lv_iconst (v := nI 1) hx hb dX2_isLetter_24 (by decide) ?_
          refine lv_goto (tgt := 29) hx hb dX2_isLetter_25 (by decide) ?_
          subst hQ
          exact rtz hx hb hr hlocks rfl rfl (bP_1 (by unfold isLt; omega)) dX2_isLetter_29

set_option maxHeartbeats 4000000 in
set_option maxRecDepth 100000 in
theorem c_X2_isDigit (l : Launch) (ch : Nat) (hch : ch < 4294967296) : Met l yX2_isDigit (.code yX2_isDigit cX2_isDigit 1 (some .boolean) :: wsL_law) ({ frames := 0, cells := 0, slots := 0, locals := 0 }) (va_Pc [.int (nI ch)] PU) (QrI (bP (isDg ch))) 0 0 (fun _ => False) := by
  refine Met.ofW (cc := cX2_isDigit) (maxL := 1) (ret := (some .boolean)) (by decide) rfl ?_
  intro p e s m args below meth c s₁ B hml hv
  obtain ⟨rfl, hv⟩ := hv
  have hx := B.exec
  have hb := B.bytes
  have hr := B.returns
  have hts := atoms_spec (ws := .code yX2_isDigit cX2_isDigit 1 (some .boolean) :: wsL_law) B.pre
  have hU : ∀ w ∈ wsL_law, w.before _ s = true := fun w h => hts w (List.mem_cons_of_mem _ h)
  have hown : s.vm.findClass RX2 = some m.cls := findClass_of_methodNamed B.named
  have hlocks := B.notSynchronized
  generalize hQ : MQ _ _ _ _ _ _ _ = Q
  have hl := lv_entry ([.int (nI ch)]) (n := 1) (Nat.le_of_ble_eq_true rfl)
  rw [lg_entry_eq]
  generalize (lg_sl ([.int (nI ch)]) ++ List.replicate (1 - (lg_sl ([.int (nI ch)])).length) Slot.unset).toArray = ls at hl ⊢
  have hl : lv_has ls 1 [(0, .int (nI ch))] := hl
  refine lv_iload_n hx hb dX2_isDigit_0 rfl (lv_at hl 0 rfl) ?_
  refine lv_bipush (v := nI 48) hx hb dX2_isDigit_1 (by decide) ?_
  refine lv_icmp_lt (tgt := 16) hx hb dX2_isDigit_3 (by decide) (fun c3_1 => ?_) (fun c3_1 => ?_)
  · have c3_1 : (ch < 48 ∧ (2147483648 ≤ ch ∨ 48 < 2147483648)) ∨ (2147483648 ≤ ch ∧ 48 < 2147483648) := (nI_ltG (a := ch) (b := 48) (by omega) (by omega)).mp c3_1
    refine lv_iconst (v := nI 0) hx hb dX2_isDigit_16 (by decide) ?_
    subst hQ
    exact rtz hx hb hr hlocks rfl rfl (bP_0 (by unfold isDg; omega)) dX2_isDigit_17
  · have c3_1 : ¬ ((ch < 48 ∧ (2147483648 ≤ ch ∨ 48 < 2147483648)) ∨ (2147483648 ≤ ch ∧ 48 < 2147483648)) := fun h9 => c3_1 ((nI_ltG (a := ch) (b := 48) (by omega) (by omega)).mpr h9)
    refine lv_iload_n hx hb dX2_isDigit_6 rfl (lv_at hl 0 rfl) ?_
    refine lv_bipush (v := nI 57) hx hb dX2_isDigit_7 (by decide) ?_
    refine lv_icmp_gt (tgt := 16) hx hb dX2_isDigit_9 (by decide) (fun c9_2 => ?_) (fun c9_2 => ?_)
    · have c9_2 : (57 < ch ∧ (2147483648 ≤ 57 ∨ ch < 2147483648)) ∨ (2147483648 ≤ 57 ∧ ch < 2147483648) := (nI_ltG (a := 57) (b := ch) (by omega) (by omega)).mp c9_2
      refine lv_iconst (v := nI 0) hx hb dX2_isDigit_16 (by decide) ?_
      subst hQ
      exact rtz hx hb hr hlocks rfl rfl (bP_0 (by unfold isDg; omega)) dX2_isDigit_17
    · have c9_2 : ¬ ((57 < ch ∧ (2147483648 ≤ 57 ∨ ch < 2147483648)) ∨ (2147483648 ≤ 57 ∧ ch < 2147483648)) := fun h9 => c9_2 ((nI_ltG (a := 57) (b := ch) (by omega) (by omega)).mpr h9)
      refine lv_iconst (v := nI 1) hx hb dX2_isDigit_12 (by decide) ?_
      refine lv_goto (tgt := 17) hx hb dX2_isDigit_13 (by decide) ?_
      subst hQ
      exact rtz hx hb hr hlocks rfl rfl (bP_1 (by unfold isDg; omega)) dX2_isDigit_17

set_option maxHeartbeats 4000000 in
set_option maxRecDepth 100000 in
theorem c_X2_numberOf (l : Launch) (D : va_G) (ta : Nat) (kt : ClassId) (tx : Nat → Nat) (pp : Nat) (ee : Nat) (hpe : pp ≤ ee) (hee : ee ≤ 200) (hdg : ∀ j, pp ≤ j → j < ee → isDg (tx j)) : Met l yX2_numberOf (.code yX2_numberOf cX2_numberOf 5 (some .int) :: wsL_law) ({ frames := 1, cells := 0, slots := 0, locals := 13 }) (va_Pc [.ref ta, .int (nI pp), .int (nI ee)] (PR D ([(ta, .inl (kt, 200, .inl (nA tx)))]) ([(kt, .byte)]))) (QrI (nI (numR tx pp (ee - pp)))) 0 0 (fun _ => False) := by
  refine Met.ofW (cc := cX2_numberOf) (maxL := 5) (ret := (some .int)) (by decide) rfl ?_
  intro p e s m args below meth c s₁ B hml hv
  obtain ⟨rfl, hP, hK⟩ := hv
  have hx := B.exec
  have hb := B.bytes
  have hr := B.returns
  have hts := atoms_spec (ws := .code yX2_numberOf cX2_numberOf 5 (some .int) :: wsL_law) B.pre
  have hU : ∀ w ∈ wsL_law, w.before _ s = true := fun w h => hts w (List.mem_cons_of_mem _ h)
  have hown : s.vm.findClass RX2 = some m.cls := findClass_of_methodNamed B.named
  have hlocks := B.notSynchronized
  generalize hQ : MQ _ _ _ _ _ _ _ = Q
  have hl := lv_entry ([.ref ta, .int (nI pp), .int (nI ee)]) (n := 5) (Nat.le_of_ble_eq_true rfl)
  rw [lg_entry_eq]
  generalize (lg_sl ([.ref ta, .int (nI pp), .int (nI ee)]) ++ List.replicate (5 - (lg_sl ([.ref ta, .int (nI pp), .int (nI ee)])).length) Slot.unset).toArray = ls at hl ⊢
  have hl : lv_has ls 5 [(0, .ref ta), (1, .int (nI pp)), (2, .int (nI ee))] := hl
  refine lv_iconst (v := nI 0) hx hb dX2_numberOf_0 (by decide) ?_
  refine lv_istore_n (lv' := [(3, .int (nI 0)), (0, .ref ta), (1, .int (nI pp)), (2, .int (nI ee))]) hx hb dX2_numberOf_1 rfl hl (by decide) rfl (fun ls hl => ?_)
  refine lv_iload_n hx hb dX2_numberOf_2 rfl (lv_at hl 2 rfl) ?_
  refine lv_istore (lv' := [(4, .int (nI pp)), (3, .int (nI 0)), (0, .ref ta), (1, .int (nI pp)), (2, .int (nI ee))]) hx hb dX2_numberOf_3 hl (by decide) rfl (fun ls hl => ?_)
  have L5_19 : ∀ (n : Nat) (i : Nat) (nb : Nat), (pp ≤ i ∧ i ≤ ee) → (nb = numR tx pp (i - pp)) → (ee - i) < n → ∀ ls : Array Slot, lv_has ls 5 [(0, .ref ta), (1, .int (nI pp)), (2, .int (nI ee)), (3, .int (nI nb)), (4, .int (nI i))] → W p l e ({ frames := 1, cells := 0, slots := 0, locals := 13 } : Room) s m (([.ref ta, .int (nI pp), .int (nI ee)] : List Value).toArray) below meth c s.heap [] 0 0 Q (F0 m 5 ls []) := by
    intro n5
    induction n5 with
    | zero => intro i nb hi hnb hm5; exact absurd hm5 (Nat.not_lt_zero _)
    | succ n5 ih5 =>
      intro i nb hi hnb hm5 ls hl
      refine lv_iload hx hb dX2_numberOf_5 (lv_at hl 4 rfl) ?_
      refine lv_iload_n hx hb dX2_numberOf_7 rfl (lv_at hl 2 rfl) ?_
      refine lv_icmp_ge (tgt := 36) hx hb dX2_numberOf_8 (by decide) (fun c8_1 => ?_) (fun c8_1 => ?_)
      · have c8_1 : ee ≤ i := (nI_leI (a := ee) (b := i) (by omega) (by omega)).mp c8_1
        refine lv_iload_n hx hb dX2_numberOf_36 rfl (lv_at hl 3 rfl) ?_
        subst hQ
        exact rti hx hb hr hlocks rfl (congrArg nI (by rw [hnb, show i = ee by omega])) dX2_numberOf_37
      · have c8_1 : ¬ (ee ≤ i) := fun h9 => c8_1 ((nI_leI (a := ee) (b := i) (by omega) (by omega)).mpr h9)
        have hn9 : nb ≤ 1000 := by rw [hnb]; exact numR_le _ _ _
        have hd9 := hdg i (by omega) (by omega)
        unfold isDg at hd9
        refine lv_iload_n hx hb dX2_numberOf_11 rfl (lv_at hl 3 rfl) ?_
        refine lv_bipush (v := nI 10) hx hb dX2_numberOf_12 (by decide) ?_
        refine lv_imul hx hb dX2_numberOf_14 ?_
        refine lv_topE (nI (nb * 10)) (pk_mul _ _) ?_
        refine lv_aload_n hx hb dX2_numberOf_15 rfl (lv_at hl 0 rfl) ?_
        refine lv_iload hx hb dX2_numberOf_16 (lv_at hl 4 rfl) ?_
        refine n_bald hx hb hK hP 0 0 rfl rfl (i := i) (by omega) (by decide) dX2_numberOf_18 ?_
        refine lv_iadd hx hb dX2_numberOf_19 ?_
        refine lv_topE (nI ((nb * 10) + (tx i))) (nI_add _ _) ?_
        refine lv_bipush (v := nI 48) hx hb dX2_numberOf_20 (by decide) ?_
        refine lv_isub hx hb dX2_numberOf_22 ?_
        refine lv_topE (nI (((nb * 10) + (tx i)) - 48)) (pk_sub (by omega)) ?_
        refine lv_sipush (v := nI 1000) hx hb dX2_numberOf_23 (by decide) ?_
        refine va_mmin hx hb (hml.trans hl.1.symm) hown (hU _ mU_228) (hU _ mU_229) (hU _ mU_230) (hU _ mU_231) (Nat.le_of_ble_eq_true rfl) (Nat.le_of_ble_eq_true rfl) (Nat.zero_le _) (Nat.zero_le _) dX2_numberOf_26 ?_
        refine lv_topE (nI (if 1000 < ((nb * 10) + (tx i)) - 48 then 1000 else ((nb * 10) + (tx i)) - 48)) (z_min (by omega) (by omega)) ?_
        refine lv_istore_n (lv' := [(3, .int (nI (if 1000 < ((nb * 10) + (tx i)) - 48 then 1000 else ((nb * 10) + (tx i)) - 48))), (0, .ref ta), (1, .int (nI pp)), (2, .int (nI ee)), (4, .int (nI i))]) hx hb dX2_numberOf_29 rfl hl (by decide) rfl (fun ls hl => ?_)
        refine lv_iinc (v := nI (i + 1)) (lv' := [(4, .int (nI (i + 1))), (3, .int (nI (if 1000 < ((nb * 10) + (tx i)) - 48 then 1000 else ((nb * 10) + (tx i)) - 48))), (0, .ref ta), (1, .int (nI pp)), (2, .int (nI ee))]) hx hb dX2_numberOf_30 hl (k := 4) rfl (by rw [show Int32.ofInt 1 = nI 1 from by decide, nI_add]) (by decide) rfl (fun ls hl => ?_)
        refine lv_goto (tgt := 5) hx hb dX2_numberOf_33 (by decide) ?_
        exact ih5 (i + 1) (if 1000 < ((nb * 10) + (tx i)) - 48 then 1000 else ((nb * 10) + (tx i)) - 48) (by omega) (num_step hi.1 hnb) (by omega) _ (lv_sub hl [2, 3, 4, 1, 0] rfl)
  exact L5_19 ((ee - pp) + 1) pp 0 (by omega) ((by rw [Nat.sub_self]; rfl)) (Nat.lt_succ_self _) _ (lv_sub hl [2, 3, 4, 1, 0] rfl)

set_option maxHeartbeats 4000000 in
set_option maxRecDepth 100000 in
theorem c_X2_tokenEnd (l : Launch) (D : va_G) (ta : Nat) (kt : ClassId) (tx : Nat → Nat) (pp : Nat) (nn : Nat) (hpn : pp < nn) (hnn : nn ≤ 200) (htx : ∀ j, tx j < 4294967296) : Met l yX2_tokenEnd (.code yX2_tokenEnd cX2_tokenEnd 4 (some .int) :: wsL_law) ({ frames := 1, cells := 0, slots := 0, locals := 20 }) (va_Pc [.ref ta, .int (nI pp), .int (nI nn)] (PR D ([(ta, .inl (kt, 200, .inl (nA tx)))]) ([(kt, .byte)]))) (QrI (nI (endR tx nn pp))) 0 0 (fun _ => False) := by
  refine Met.ofW (cc := cX2_tokenEnd) (maxL := 4) (ret := (some .int)) (by decide) rfl ?_
  intro p e s m args below meth c s₁ B hml hv
  obtain ⟨rfl, hP, hK⟩ := hv
  have hx := B.exec
  have hb := B.bytes
  have hr := B.returns
  have hts := atoms_spec (ws := .code yX2_tokenEnd cX2_tokenEnd 4 (some .int) :: wsL_law) B.pre
  have hU : ∀ w ∈ wsL_law, w.before _ s = true := fun w h => hts w (List.mem_cons_of_mem _ h)
  have hown : s.vm.findClass RX2 = some m.cls := findClass_of_methodNamed B.named
  have hlocks := B.notSynchronized
  generalize hQ : MQ _ _ _ _ _ _ _ = Q
  have hl := lv_entry ([.ref ta, .int (nI pp), .int (nI nn)]) (n := 4) (Nat.le_of_ble_eq_true rfl)
  rw [lg_entry_eq]
  generalize (lg_sl ([.ref ta, .int (nI pp), .int (nI nn)]) ++ List.replicate (4 - (lg_sl ([.ref ta, .int (nI pp), .int (nI nn)])).length) Slot.unset).toArray = ls at hl ⊢
  have hl : lv_has ls 4 [(0, .ref ta), (1, .int (nI pp)), (2, .int (nI nn))] := hl
  refine lv_iload_n hx hb dX2_tokenEnd_0 rfl (lv_at hl 1 rfl) ?_
  refine lv_iconst (v := nI 1) hx hb dX2_tokenEnd_1 (by decide) ?_
  refine lv_iadd hx hb dX2_tokenEnd_2 ?_
  refine lv_topE (nI (pp + 1)) (nI_add _ _) ?_
  refine lv_istore_n (lv' := [(3, .int (nI (pp + 1))), (0, .ref ta), (1, .int (nI pp)), (2, .int (nI nn))]) hx hb dX2_tokenEnd_3 rfl hl (by decide) rfl (fun ls hl => ?_)
  refine lv_aload_n hx hb dX2_tokenEnd_4 rfl (lv_at hl 1 rfl) ?_
  refine lv_iload_n hx hb dX2_tokenEnd_5 rfl (lv_at hl 2 rfl) ?_
  refine n_bald hx hb hK hP 0 0 rfl rfl (i := pp) (by omega) (by decide) dX2_tokenEnd_6 ?_
  have hb_1 := htx  pp
  refine cSi (As := [.int (nI (tx pp))]) (rest := []) ⟨hx, hb, hml, hown, hts⟩ (c_X2_isLetter l  (tx pp) (by omega)) (va_cwS 1 hts (gS mU_140 mU_141 mU_18 mU_142) rfl rfl rfl (by decide +kernel) ⟨Nat.le_of_ble_eq_true rfl, Nat.le_of_ble_eq_true rfl⟩) fbU (fun _ _ _ => trivial) rfl hl.1 rfl (Nat.le_of_ble_eq_true rfl) dX2_tokenEnd_7 ⟨Nat.zero_le _, Nat.zero_le _⟩ ?_
  refine lv_if_eq (tgt := 33) hx hb dX2_tokenEnd_10 (by decide) (fun c10_2 => ?_) (fun c10_2 => ?_)
  · have c10_2 : ¬ (isLt (tx pp)) := bP_f c10_2
    refine lv_aload_n hx hb dX2_tokenEnd_33 rfl (lv_at hl 1 rfl) ?_
    refine lv_iload_n hx hb dX2_tokenEnd_34 rfl (lv_at hl 2 rfl) ?_
    refine n_bald hx hb hK hP 0 0 rfl rfl (i := pp) (by omega) (by decide) dX2_tokenEnd_35 ?_
    have hb_3 := htx  pp
    refine cSi (As := [.int (nI (tx pp))]) (rest := []) ⟨hx, hb, hml, hown, hts⟩ (c_X2_isDigit l  (tx pp) (by omega)) (va_cwS 1 hts (gS mU_143 mU_144 mU_18 mU_145) rfl rfl rfl (by decide +kernel) ⟨Nat.le_of_ble_eq_true rfl, Nat.le_of_ble_eq_true rfl⟩) fbU (fun _ _ _ => trivial) rfl hl.1 rfl (Nat.le_of_ble_eq_true rfl) dX2_tokenEnd_36 ⟨Nat.zero_le _, Nat.zero_le _⟩ ?_
    refine lv_if_eq (tgt := 62) hx hb dX2_tokenEnd_39 (by decide) (fun c39_4 => ?_) (fun c39_4 => ?_)
    · have c39_4 : ¬ (isDg (tx pp)) := bP_f c39_4
      refine lv_iload_n hx hb dX2_tokenEnd_62 rfl (lv_at hl 0 rfl) ?_
      subst hQ
      exact rti hx hb hr hlocks rfl (congrArg nI (endR_o c10_2 c39_4).symm) dX2_tokenEnd_63
    · have c39_4 : isDg (tx pp) := bP_t c39_4
      have L42_38 : ∀ (n : Nat) (e9 : Nat), (pp + 1 ≤ e9 ∧ e9 ≤ nn) → (∀ j, pp ≤ j → j < e9 → isDg (tx j)) → (nn - e9) < n → ∀ ls : Array Slot, lv_has ls 4 [(0, .ref ta), (1, .int (nI pp)), (2, .int (nI nn)), (3, .int (nI e9))] → W p l e ({ frames := 1, cells := 0, slots := 0, locals := 20 } : Room) s m (([.ref ta, .int (nI pp), .int (nI nn)] : List Value).toArray) below meth c s.heap [] 0 0 Q (F0 m 42 ls []) := by
        intro n42
        induction n42 with
        | zero => intro e9 he hall hm42; exact absurd hm42 (Nat.not_lt_zero _)
        | succ n42 ih42 =>
          intro e9 he hall hm42 ls hl
          refine lv_iload_n hx hb dX2_tokenEnd_42 rfl (lv_at hl 3 rfl) ?_
          refine lv_iload_n hx hb dX2_tokenEnd_43 rfl (lv_at hl 2 rfl) ?_
          refine lv_icmp_ge (tgt := 62) hx hb dX2_tokenEnd_44 (by decide) (fun c44_5 => ?_) (fun c44_5 => ?_)
          · have c44_5 : nn ≤ e9 := (nI_leI (a := nn) (b := e9) (by omega) (by omega)).mp c44_5
            refine lv_iload_n hx hb dX2_tokenEnd_62 rfl (lv_at hl 3 rfl) ?_
            subst hQ
            exact rti hx hb hr hlocks rfl (te_fin (P := isDg) hall he.2 (by omega) (fun q => absurd q (by omega)) (endR_d c10_2 c39_4)) dX2_tokenEnd_63
          · have c44_5 : ¬ (nn ≤ e9) := fun h9 => c44_5 ((nI_leI (a := nn) (b := e9) (by omega) (by omega)).mpr h9)
            refine lv_aload_n hx hb dX2_tokenEnd_47 rfl (lv_at hl 0 rfl) ?_
            refine lv_iload_n hx hb dX2_tokenEnd_48 rfl (lv_at hl 3 rfl) ?_
            refine n_bald hx hb hK hP 0 0 rfl rfl (i := e9) (by omega) (by decide) dX2_tokenEnd_49 ?_
            have hb_6 := htx  e9
            refine cSi (As := [.int (nI (tx e9))]) (rest := []) ⟨hx, hb, hml, hown, hts⟩ (c_X2_isDigit l  (tx e9) (by omega)) (va_cwS 1 hts (gS mU_143 mU_144 mU_18 mU_145) rfl rfl rfl (by decide +kernel) ⟨Nat.le_of_ble_eq_true rfl, Nat.le_of_ble_eq_true rfl⟩) fbU (fun _ _ _ => trivial) rfl hl.1 rfl (Nat.le_of_ble_eq_true rfl) dX2_tokenEnd_50 ⟨Nat.zero_le _, Nat.zero_le _⟩ ?_
            refine lv_if_eq (tgt := 62) hx hb dX2_tokenEnd_53 (by decide) (fun c53_7 => ?_) (fun c53_7 => ?_)
            · have c53_7 : ¬ (isDg (tx e9)) := bP_f c53_7
              refine lv_iload_n hx hb dX2_tokenEnd_62 rfl (lv_at hl 3 rfl) ?_
              subst hQ
              exact rti hx hb hr hlocks rfl (te_fin (P := isDg) hall he.2 (by omega) (fun _ => c53_7) (endR_d c10_2 c39_4)) dX2_tokenEnd_63
            · have c53_7 : isDg (tx e9) := bP_t c53_7
              refine lv_iinc (v := nI (e9 + 1)) (lv' := [(3, .int (nI (e9 + 1))), (0, .ref ta), (1, .int (nI pp)), (2, .int (nI nn))]) hx hb dX2_tokenEnd_56 hl (k := 3) rfl (by rw [show Int32.ofInt 1 = nI 1 from by decide, nI_add]) (by decide) rfl (fun ls hl => ?_)
              refine lv_goto (tgt := 42) hx hb dX2_tokenEnd_59 (by decide) ?_
              exact ih42 (e9 + 1) (by omega) (te_step hall c53_7) (by omega) _ (lv_sub hl [1, 2, 3, 0] rfl)
      exact L42_38 ((nn - (pp + 1)) + 1) (pp + 1) (by omega) (fun j h1 h2 => (show j = pp by omega) ▸ c39_4) (Nat.lt_succ_self _) _ (lv_sub hl [1, 2, 3, 0] rfl)
  · have c10_2 : isLt (tx pp) := bP_t c10_2
    have L13_68 : ∀ (n : Nat) (e9 : Nat), (pp + 1 ≤ e9 ∧ e9 ≤ nn) → (∀ j, pp ≤ j → j < e9 → isLt (tx j)) → (nn - e9) < n → ∀ ls : Array Slot, lv_has ls 4 [(0, .ref ta), (1, .int (nI pp)), (2, .int (nI nn)), (3, .int (nI e9))] → W p l e ({ frames := 1, cells := 0, slots := 0, locals := 20 } : Room) s m (([.ref ta, .int (nI pp), .int (nI nn)] : List Value).toArray) below meth c s.heap [] 0 0 Q (F0 m 13 ls []) := by
      intro n13
      induction n13 with
      | zero => intro e9 he hall hm13; exact absurd hm13 (Nat.not_lt_zero _)
      | succ n13 ih13 =>
        intro e9 he hall hm13 ls hl
        refine lv_iload_n hx hb dX2_tokenEnd_13 rfl (lv_at hl 3 rfl) ?_
        refine lv_iload_n hx hb dX2_tokenEnd_14 rfl (lv_at hl 2 rfl) ?_
        refine lv_icmp_ge (tgt := 62) hx hb dX2_tokenEnd_15 (by decide) (fun c15_8 => ?_) (fun c15_8 => ?_)
        · have c15_8 : nn ≤ e9 := (nI_leI (a := nn) (b := e9) (by omega) (by omega)).mp c15_8
          refine lv_iload_n hx hb dX2_tokenEnd_62 rfl (lv_at hl 3 rfl) ?_
          subst hQ
          exact rti hx hb hr hlocks rfl (te_fin (P := isLt) hall he.2 (by omega) (fun q => absurd q (by omega)) (endR_l c10_2)) dX2_tokenEnd_63
        · have c15_8 : ¬ (nn ≤ e9) := fun h9 => c15_8 ((nI_leI (a := nn) (b := e9) (by omega) (by omega)).mpr h9)
          refine lv_aload_n hx hb dX2_tokenEnd_18 rfl (lv_at hl 0 rfl) ?_
          refine lv_iload_n hx hb dX2_tokenEnd_19 rfl (lv_at hl 3 rfl) ?_
          refine n_bald hx hb hK hP 0 0 rfl rfl (i := e9) (by omega) (by decide) dX2_tokenEnd_20 ?_
          have hb_9 := htx  e9
          refine cSi (As := [.int (nI (tx e9))]) (rest := []) ⟨hx, hb, hml, hown, hts⟩ (c_X2_isLetter l  (tx e9) (by omega)) (va_cwS 1 hts (gS mU_140 mU_141 mU_18 mU_142) rfl rfl rfl (by decide +kernel) ⟨Nat.le_of_ble_eq_true rfl, Nat.le_of_ble_eq_true rfl⟩) fbU (fun _ _ _ => trivial) rfl hl.1 rfl (Nat.le_of_ble_eq_true rfl) dX2_tokenEnd_21 ⟨Nat.zero_le _, Nat.zero_le _⟩ ?_
          refine lv_if_eq (tgt := 62) hx hb dX2_tokenEnd_24 (by decide) (fun c24_10 => ?_) (fun c24_10 => ?_)
          · have c24_10 : ¬ (isLt (tx e9)) := bP_f c24_10
            refine lv_iload_n hx hb dX2_tokenEnd_62 rfl (lv_at hl 3 rfl) ?_
            subst hQ
            exact rti hx hb hr hlocks rfl (te_fin (P := isLt) hall he.2 (by omega) (fun _ => c24_10) (endR_l c10_2)) dX2_tokenEnd_63
          · have c24_10 : isLt (tx e9) := bP_t c24_10
            refine lv_iinc (v := nI (e9 + 1)) (lv' := [(3, .int (nI (e9 + 1))), (0, .ref ta), (1, .int (nI pp)), (2, .int (nI nn))]) hx hb dX2_tokenEnd_27 hl (k := 3) rfl (by rw [show Int32.ofInt 1 = nI 1 from by decide, nI_add]) (by decide) rfl (fun ls hl => ?_)
            refine lv_goto (tgt := 13) hx hb dX2_tokenEnd_30 (by decide) ?_
            exact ih13 (e9 + 1) (by omega) (te_step hall c24_10) (by omega) _ (lv_sub hl [1, 2, 3, 0] rfl)
    exact L13_68 ((nn - (pp + 1)) + 1) (pp + 1) (by omega) (fun j h1 h2 => (show j = pp by omega) ▸ c10_2) (Nat.lt_succ_self _) _ (lv_sub hl [1, 2, 3, 0] rfl)

set_option maxHeartbeats 4000000 in
set_option maxRecDepth 100000 in
theorem c_X2_refuse (l : Launch) (D : va_G) (ro ft pl sr gv : Nat) (sz : Nat) (wy : Nat) (at_ : Nat) : Met l yX2_refuse (.code yX2_refuse cX2_refuse 3 none :: wsL_law) ({ frames := 0, cells := 0, slots := 0, locals := 0 }) (va_Pc [.ref ro, .int (nI wy), .int (nI at_)] (PW D ([(ro, .inr (2, [.int (nI ft), .int (nI pl), .int (nI sr), .int (nI gv)]))]) ([]) sz)) (va_Qv (fun u : Nat × Nat => u = (wy, at_)) (QW D (fun u : Nat × Nat => [(ro, .inr (2, [.int (nI u.1), .int (nI u.2), .int (nI sr), .int (nI gv)]))]) (fun _ => []) (va_A ([(ro, .inr (2, [.int (nI ft), .int (nI pl), .int (nI sr), .int (nI gv)]))]) sz)) (va_A ([(ro, .inr (2, [.int (nI ft), .int (nI pl), .int (nI sr), .int (nI gv)]))]) sz)) 0 0 (va_A ([(ro, .inr (2, [.int (nI ft), .int (nI pl), .int (nI sr), .int (nI gv)]))]) sz) := by
  refine Met.ofW (cc := cX2_refuse) (maxL := 3) (ret := none) (by decide) rfl ?_
  intro p e s m args below meth c s₁ B hml hv
  obtain ⟨rfl, hsz, hP, hK, hD0⟩ := hv
  have hx := B.exec
  have hb := B.bytes
  have hr := B.returns
  have hts := atoms_spec (ws := .code yX2_refuse cX2_refuse 3 none :: wsL_law) B.pre
  have hU : ∀ w ∈ wsL_law, w.before _ s = true := fun w h => hts w (List.mem_cons_of_mem _ h)
  have hown : s.vm.findClass RX2 = some m.cls := findClass_of_methodNamed B.named
  have hlocks := B.notSynchronized
  subst hsz
  have hD := hD0.self (sz := s.heap.size)
  generalize hAe : va_A ([(ro, .inr (2, [.int (nI ft), .int (nI pl), .int (nI sr), .int (nI gv)]))]) s.heap.size = Ar at hD ⊢
  have hA : ∀ q : Nat, s.heap.size ≤ q → Ar q := fun q h => by rw [← hAe]; exact Or.inr h
  have hS : va_S Ar s.heap s.heap [] := va_S.rf
  have hP : va_P D vwCl [(ro, .inr (2, [.int (nI ft), .int (nI pl), .int (nI sr), .int (nI gv)]))] s.heap := hP
  have hD : va_D Ar [(ro, .inr (2, [.int (nI ft), .int (nI pl), .int (nI sr), .int (nI gv)]))] := hD
  generalize hQ : MQ _ _ _ _ _ _ _ = Q
  have hl := lv_entry ([.ref ro, .int (nI wy), .int (nI at_)]) (n := 3) (Nat.le_of_ble_eq_true rfl)
  rw [lg_entry_eq]
  generalize (lg_sl ([.ref ro, .int (nI wy), .int (nI at_)]) ++ List.replicate (3 - (lg_sl ([.ref ro, .int (nI wy), .int (nI at_)])).length) Slot.unset).toArray = ls at hl ⊢
  have hl : lv_has ls 3 [(0, .ref ro), (1, .int (nI wy)), (2, .int (nI at_))] := hl
  refine lv_aload_n hx hb dX2_refuse_0 rfl (lv_at hl 0 rfl) ?_
  refine lv_iload_n hx hb dX2_refuse_1 rfl (lv_at hl 1 rfl) ?_
  refine va_put (D := D) (ci := 2) (v := .int (nI wy)) (ty := .int) (C := RX2) (T := TX2) (N := 4) hx hb hU iX2 tyX2 tyX2_ok nmX2 hown hK hP hD hS 0 rfl rfl 0 (by decide) (hU _ mU_40) (fun _ h9 => h9) rfl (by decide +kernel) rfl rfl (Nat.le_of_ble_eq_true rfl) dX2_refuse_2 (fun H locs hP hD hS => ?_)
  have hP : va_P D vwCl [(ro, .inr (2, [.int (nI wy), .int (nI pl), .int (nI sr), .int (nI gv)]))] H := hP
  have hD : va_D Ar [(ro, .inr (2, [.int (nI wy), .int (nI pl), .int (nI sr), .int (nI gv)]))] := hD
  refine lv_aload_n hx hb dX2_refuse_5 rfl (lv_at hl 0 rfl) ?_
  refine lv_iload_n hx hb dX2_refuse_6 rfl (lv_at hl 2 rfl) ?_
  refine va_put (D := D) (ci := 2) (v := .int (nI at_)) (ty := .int) (C := RX2) (T := TX2) (N := 4) hx hb hU iX2 tyX2 tyX2_ok nmX2 hown hK hP hD hS 0 rfl rfl 1 (by decide) (hU _ mU_41) (fun _ h9 => h9) rfl (by decide +kernel) rfl rfl (Nat.le_of_ble_eq_true rfl) dX2_refuse_7 (fun H locs hP hD hS => ?_)
  have hP : va_P D vwCl [(ro, .inr (2, [.int (nI wy), .int (nI at_), .int (nI sr), .int (nI gv)]))] H := hP
  have hD : va_D Ar [(ro, .inr (2, [.int (nI wy), .int (nI at_), .int (nI sr), .int (nI gv)]))] := hD
  subst hQ
  exact rwv (wy, at_) hx hb hr hlocks (rfl) hP hK hD hS dX2_refuse_10

set_option maxHeartbeats 4000000 in
set_option maxRecDepth 100000 in
theorem c_X2_takeName (l : Launch) (D : va_G) (ro ft pl sr gv : Nat) (ta : Nat) (kt : ClassId) (tx : Nat → Nat) (pa pb pc : Nat) (kb kc : ClassId) (n : Nat) (so nu : Nat → Nat) (ak : Nat) (adK adV : Nat → Nat) (x : PT9) (sz : Nat) (pp : Nat) (ee : Nat) (hx9 : relS x sr gv n so nu) (hn9 : n ≤ 7) (hsr : x.1 = 9 ∨ (x.1 < 9 ∧ n < 7 ∧ x.2.1 ≤ arM x.1)) (hbb : (∀ j, so j < 2147483648 ∧ nu j < 2147483648) ∧ gv < 2147483648) (hpe : pp < ee) (hee : ee ≤ 200) (htx : ∀ j, tx j < 4294967296) : Met l yX2_takeName (.code yX2_takeName cX2_takeName 6 none :: wsL_law) ({ frames := 6, cells := 0, slots := 0, locals := 132 }) (va_Pc [.ref ro, .ref ta, .int (nI pp), .int (nI ee), .ref pa] (PWZ D (qW ro ft pl sr gv ta kt tx pa pb pc kb kc n so nu) (qT kt kb kc) sz ak adK adV)) (va_Qv (fun u : RSt => tkPost (nameS x (sortC tx pp ee)) ft pl pp u) (QW D (fun u : RSt => qW ro u.1 u.2.1 u.2.2.1 u.2.2.2.1 ta kt tx pa pb pc kb kc u.2.2.2.2.1 u.2.2.2.2.2.1 u.2.2.2.2.2.2) (fun _ => qT kt kb kc) (va_A (qW ro ft pl sr gv ta kt tx pa pb pc kb kc n so nu) sz)) (va_A (qW ro ft pl sr gv ta kt tx pa pb pc kb kc n so nu) sz)) 0 0 (va_A (qW ro ft pl sr gv ta kt tx pa pb pc kb kc n so nu) sz) := by
  refine Met.ofW (cc := cX2_takeName) (maxL := 6) (ret := none) (by decide) rfl ?_
  intro p e s m args below meth c s₁ B hml hv
  obtain ⟨rfl, ⟨hsz, hP, hK, hD0⟩, hZ⟩ := hv
  have hx := B.exec
  have hb := B.bytes
  have hr := B.returns
  have hts := atoms_spec (ws := .code yX2_takeName cX2_takeName 6 none :: wsL_law) B.pre
  have hU : ∀ w ∈ wsL_law, w.before _ s = true := fun w h => hts w (List.mem_cons_of_mem _ h)
  have hown : s.vm.findClass RX2 = some m.cls := findClass_of_methodNamed B.named
  have hlocks := B.notSynchronized
  subst hsz
  have hD := hD0.self (sz := s.heap.size)
  generalize hAe : va_A (qW ro ft pl sr gv ta kt tx pa pb pc kb kc n so nu) s.heap.size = Ar at hD hZ ⊢
  have hA : ∀ q : Nat, s.heap.size ≤ q → Ar q := fun q h => by rw [← hAe]; exact Or.inr h
  have hS : va_S Ar s.heap s.heap [] := va_S.rf
  have hP : va_P D vwCl [(ro, .inr (2, [.int (nI ft), .int (nI pl), .int (nI sr), .int (nI gv)])), (ta, .inl (kt, 200, .inl (nA tx))), (pa, .inr (1, [.int (nI n), .ref pb, .ref pc])), (pb, .inl (kb, 8, .inl (nA so))), (pc, .inl (kc, 32, .inl (nA nu)))] s.heap := hP
  have hD : va_D Ar [(ro, .inr (2, [.int (nI ft), .int (nI pl), .int (nI sr), .int (nI gv)])), (ta, .inl (kt, 200, .inl (nA tx))), (pa, .inr (1, [.int (nI n), .ref pb, .ref pc])), (pb, .inl (kb, 8, .inl (nA so))), (pc, .inl (kc, 32, .inl (nA nu)))] := hD
  generalize hQ : MQ _ _ _ _ _ _ _ = Q
  have hl := lv_entry ([.ref ro, .ref ta, .int (nI pp), .int (nI ee), .ref pa]) (n := 6) (Nat.le_of_ble_eq_true rfl)
  rw [lg_entry_eq]
  generalize (lg_sl ([.ref ro, .ref ta, .int (nI pp), .int (nI ee), .ref pa]) ++ List.replicate (6 - (lg_sl ([.ref ro, .ref ta, .int (nI pp), .int (nI ee), .ref pa])).length) Slot.unset).toArray = ls at hl ⊢
  have hl : lv_has ls 6 [(0, .ref ro), (1, .ref ta), (2, .int (nI pp)), (3, .int (nI ee)), (4, .ref pa)] := hl
  have hsr9 : sr < 4294967296 := rel_sr hx9 hsr
  refine lv_aload_n hx hb dX2_takeName_0 rfl (lv_at hl 0 rfl) ?_
  refine va_get (D := D) (ci := 2) (v := .int (nI sr)) (C := RX2) (T := TX2) (N := 4) hx hb hU iX2 hown hK hP 0 rfl rfl 2 (by decide) (hU _ mU_42) (fun _ h9 => h9) rfl dX2_takeName_1 ?_
  refine lv_iconst (v := nI 4294967295) hx hb dX2_takeName_4 (by decide) ?_
  refine lv_icmp_ne (tgt := 17) hx hb dX2_takeName_5 (by decide) (fun c5_1 => ?_) (fun c5_1 => ?_)
  · have c5_1 : ¬ (sr = 4294967295) := fun h9 => c5_1 ((nI_eqG (a := sr) (b := 4294967295) (by omega) (by omega)).mpr h9)
    refine lv_iconst (v := nI 4294967295) hx hb dX2_takeName_17 (by decide) ?_
    refine lv_istore (lv' := [(5, .int (nI 4294967295)), (0, .ref ro), (1, .ref ta), (2, .int (nI pp)), (3, .int (nI ee)), (4, .ref pa)]) hx hb dX2_takeName_18 hl (by decide) rfl (fun ls hl => ?_)
    refine lv_iload hx hb dX2_takeName_20 (lv_at hl 0 rfl) ?_
    refine lv_iconst (v := nI 4294967295) hx hb dX2_takeName_22 (by decide) ?_
    refine lv_icmp_ne (tgt := 35) hx hb dX2_takeName_23 (by decide) (fun c23_2 => by first | exact absurd c23_2 (by decide) | exact absurd (by decide) c23_2) (fun c23_2 => ?_)
    refine lv_aload_n hx hb dX2_takeName_26 rfl (lv_at hl 1 rfl) ?_
    refine lv_iconst (v := nI 1) hx hb dX2_takeName_27 (by decide) ?_
    refine lv_iload_n hx hb dX2_takeName_28 rfl (lv_at hl 3 rfl) ?_
    refine kVv (As := [.int (nI 1), .int (nI pp)]) (rest := []) (wr := [(ta, .inl (kt, 200, .inl (nA tx))), (pa, .inr (1, [.int (nI n), .ref pb, .ref pc])), (pb, .inl (kb, 8, .inl (nA so))), (pc, .inl (kc, 32, .inl (nA nu)))]) ⟨hx, hb, hml, hown, hts⟩ (c_X2_refuse l D ro ft pl sr gv s.heap.size 1 pp ) (cwV 2 hts (gV mU_213 mU_214 mU_215 mU_18 mU_216) rfl rfl rfl (by decide +kernel) ⟨Nat.le_of_ble_eq_true rfl, Nat.le_of_ble_eq_true rfl⟩) (va_recv hK hP (ci := 2) (q0 := 0) rfl rfl) hP hK hD hS hA [0] [1, 2, 3, 4] [] [0, 1, 2] rfl rfl rfl rfl (by decide) rfl rfl rfl hl.1 rfl (Nat.le_of_ble_eq_true rfl) dX2_takeName_29 ⟨by decide, by decide⟩ (fun u H locs hw hP hD hK hS => ?_)
    subst hw
    have hP := hP.sub (ws' := [(ro, .inr (2, [.int (nI 1), .int (nI pp), .int (nI sr), .int (nI gv)])), (ta, .inl (kt, 200, .inl (nA tx))), (pa, .inr (1, [.int (nI n), .ref pb, .ref pc])), (pb, .inl (kb, 8, .inl (nA so))), (pc, .inl (kc, 32, .inl (nA nu)))]) [4, 0, 1, 2, 3] rfl
    have hD := hD.sub (ws' := [(ro, .inr (2, [.int (nI 1), .int (nI pp), .int (nI sr), .int (nI gv)])), (ta, .inl (kt, 200, .inl (nA tx))), (pa, .inr (1, [.int (nI n), .ref pb, .ref pc])), (pb, .inl (kb, 8, .inl (nA so))), (pc, .inl (kc, 32, .inl (nA nu)))]) [4, 0, 1, 2, 3] rfl rfl
    have hK : va_K D vwCl [(kt, .byte), (kb, .int), (kc, .int)] s := hK.sub [0, 1, 2] rfl
    refine lv_goto (tgt := 78) hx hb dX2_takeName_32 (by decide) ?_
    subst hQ
    exact rwv (1, pp, sr, gv, n, so, nu) hx hb hr hlocks (tn_busy hx9 c5_1 hbb hn9) hP hK hD hS dX2_takeName_78
  · have c5_1 : sr = 4294967295 := (nI_eqG (a := sr) (b := 4294967295) (by omega) (by omega)).mp c5_1
    refine lv_aload_n hx hb dX2_takeName_8 rfl (lv_at hl 1 rfl) ?_
    refine lv_iload_n hx hb dX2_takeName_9 rfl (lv_at hl 2 rfl) ?_
    refine lv_iload_n hx hb dX2_takeName_10 rfl (lv_at hl 3 rfl) ?_
    have hPc := hP.sub (ws' := [(ta, .inl (kt, 200, .inl (nA tx)))]) [1] rfl
    have hKc := hK.sub (tys' := [(kt, .byte)]) [0] rfl
    refine cSi (As := [.ref ta, .int (nI pp), .int (nI ee)]) (rest := []) ⟨hx, hb, hml, hown, hts⟩ (c_X2_sortNamed l D ta kt tx ak adK adV pp ee (by omega) (by omega) (htx)) (va_cwS 3 hts (gS mU_155 mU_156 mU_18 mU_157) rfl rfl rfl (by decide +kernel) ⟨Nat.le_of_ble_eq_true rfl, Nat.le_of_ble_eq_true rfl⟩) fbZR (zB (PR.of hPc hKc) hZ hS) rfl hl.1 rfl (Nat.le_of_ble_eq_true rfl) dX2_takeName_11 ⟨Nat.zero_le _, Nat.zero_le _⟩ ?_
    have hf_4 : sortC tx pp ee < 9 ∨ sortC tx pp ee = 4294967295 := sortC_or _ _ _
    refine lv_goto (tgt := 18) hx hb dX2_takeName_14 (by decide) ?_
    refine lv_istore (lv' := [(5, .int (nI (sortC tx pp ee))), (0, .ref ro), (1, .ref ta), (2, .int (nI pp)), (3, .int (nI ee)), (4, .ref pa)]) hx hb dX2_takeName_18 hl (by decide) rfl (fun ls hl => ?_)
    refine lv_iload hx hb dX2_takeName_20 (lv_at hl 0 rfl) ?_
    refine lv_iconst (v := nI 4294967295) hx hb dX2_takeName_22 (by decide) ?_
    refine lv_icmp_ne (tgt := 35) hx hb dX2_takeName_23 (by decide) (fun c23_5 => ?_) (fun c23_5 => ?_)
    · have c23_5 : ¬ (sortC tx pp ee = 4294967295) := fun h9 => c23_5 ((nI_eqG (a := sortC tx pp ee) (b := 4294967295) (by omega) (by omega)).mpr h9)
      refine lv_aload hx hb dX2_takeName_35 (lv_at hl 5 rfl) ?_
      refine va_get (D := D) (ci := 1) (v := .int (nI n)) (C := RX1) (T := TX1) (N := 3) hx hb hU iX1 hown hK hP 2 rfl rfl 0 (by decide) (hU _ mU_133) (fun _ h9 => h9) rfl dX2_takeName_37 ?_
      refine lv_bipush (v := nI 7) hx hb dX2_takeName_40 (by decide) ?_
      refine lv_icmp_lt (tgt := 54) hx hb dX2_takeName_42 (by decide) (fun c42_6 => ?_) (fun c42_6 => ?_)
      · have c42_6 : n < 7 := (nI_ltI (a := n) (b := 7) (by omega) (by omega)).mp c42_6
        refine lv_aload_n hx hb dX2_takeName_54 rfl (lv_at hl 1 rfl) ?_
        refine lv_iload hx hb dX2_takeName_55 (lv_at hl 0 rfl) ?_
        refine va_put (D := D) (ci := 2) (v := .int (nI (sortC tx pp ee))) (ty := .int) (C := RX2) (T := TX2) (N := 4) hx hb hU iX2 tyX2 tyX2_ok nmX2 hown hK hP hD hS 0 rfl rfl 2 (by decide) (hU _ mU_42) (fun _ h9 => h9) rfl (by decide +kernel) rfl rfl (Nat.le_of_ble_eq_true rfl) dX2_takeName_57 (fun H locs hP hD hS => ?_)
        have hP : va_P D vwCl [(ro, .inr (2, [.int (nI ft), .int (nI pl), .int (nI (sortC tx pp ee)), .int (nI gv)])), (ta, .inl (kt, 200, .inl (nA tx))), (pa, .inr (1, [.int (nI n), .ref pb, .ref pc])), (pb, .inl (kb, 8, .inl (nA so))), (pc, .inl (kc, 32, .inl (nA nu)))] H := hP
        have hD : va_D Ar [(ro, .inr (2, [.int (nI ft), .int (nI pl), .int (nI (sortC tx pp ee)), .int (nI gv)])), (ta, .inl (kt, 200, .inl (nA tx))), (pa, .inr (1, [.int (nI n), .ref pb, .ref pc])), (pb, .inl (kb, 8, .inl (nA so))), (pc, .inl (kc, 32, .inl (nA nu)))] := hD
        refine lv_aload_n hx hb dX2_takeName_60 rfl (lv_at hl 1 rfl) ?_
        refine lv_iconst (v := nI 0) hx hb dX2_takeName_61 (by decide) ?_
        refine va_put (D := D) (ci := 2) (v := .int (nI 0)) (ty := .int) (C := RX2) (T := TX2) (N := 4) hx hb hU iX2 tyX2 tyX2_ok nmX2 hown hK hP hD hS 0 rfl rfl 3 (by decide) (hU _ mU_43) (fun _ h9 => h9) rfl (by decide +kernel) rfl rfl (Nat.le_of_ble_eq_true rfl) dX2_takeName_62 (fun H locs hP hD hS => ?_)
        have hP : va_P D vwCl [(ro, .inr (2, [.int (nI ft), .int (nI pl), .int (nI (sortC tx pp ee)), .int (nI 0)])), (ta, .inl (kt, 200, .inl (nA tx))), (pa, .inr (1, [.int (nI n), .ref pb, .ref pc])), (pb, .inl (kb, 8, .inl (nA so))), (pc, .inl (kc, 32, .inl (nA nu)))] H := hP
        have hD : va_D Ar [(ro, .inr (2, [.int (nI ft), .int (nI pl), .int (nI (sortC tx pp ee)), .int (nI 0)])), (ta, .inl (kt, 200, .inl (nA tx))), (pa, .inr (1, [.int (nI n), .ref pb, .ref pc])), (pb, .inl (kb, 8, .inl (nA so))), (pc, .inl (kc, 32, .inl (nA nu)))] := hD
        refine lv_aload hx hb dX2_takeName_65 (lv_at hl 5 rfl) ?_
        refine va_get (D := D) (ci := 1) (v := .ref pb) (C := RX1) (T := TX1) (N := 3) hx hb hU iX1 hown hK hP 2 rfl rfl 1 (by decide) (hU _ mU_154) (fun _ h9 => h9) rfl dX2_takeName_67 ?_
        refine lv_aload hx hb dX2_takeName_70 (lv_at hl 5 rfl) ?_
        refine va_get (D := D) (ci := 1) (v := .int (nI n)) (C := RX1) (T := TX1) (N := 3) hx hb hU iX1 hown hK hP 2 rfl rfl 0 (by decide) (hU _ mU_133) (fun _ h9 => h9) rfl dX2_takeName_72 ?_
        refine lv_iload hx hb dX2_takeName_75 (lv_at hl 0 rfl) ?_
        refine n_iast hx hb hK hP hD hS 3 1 rfl rfl (i := n) (v := sortC tx pp ee) (by omega) (by decide) dX2_takeName_77 (fun H locs hP hD hS => ?_)
        have hP : va_P D vwCl [(ro, .inr (2, [.int (nI ft), .int (nI pl), .int (nI (sortC tx pp ee)), .int (nI 0)])), (ta, .inl (kt, 200, .inl (nA tx))), (pa, .inr (1, [.int (nI n), .ref pb, .ref pc])), (pb, .inl (kb, 8, .inl (nA (upN so n (sortC tx pp ee))))), (pc, .inl (kc, 32, .inl (nA nu)))] H := hP
        have hD : va_D Ar [(ro, .inr (2, [.int (nI ft), .int (nI pl), .int (nI (sortC tx pp ee)), .int (nI 0)])), (ta, .inl (kt, 200, .inl (nA tx))), (pa, .inr (1, [.int (nI n), .ref pb, .ref pc])), (pb, .inl (kb, 8, .inl (nA (upN so n (sortC tx pp ee))))), (pc, .inl (kc, 32, .inl (nA nu)))] := hD
        subst hQ
        exact rwv (ft, pl, sortC tx pp ee, 0, n, upN so n (sortC tx pp ee), nu) hx hb hr hlocks (tn_new hx9 c23_5 (sortC_or _ _ _) c42_6 hbb ((rel_9 hx9 hsr).mp c5_1)) hP hK hD hS dX2_takeName_78
      · have c42_6 : ¬ (n < 7) := fun h9 => c42_6 ((nI_ltI (a := n) (b := 7) (by omega) (by omega)).mpr h9)
        refine lv_aload_n hx hb dX2_takeName_45 rfl (lv_at hl 1 rfl) ?_
        refine lv_iconst (v := nI 3) hx hb dX2_takeName_46 (by decide) ?_
        refine lv_iload_n hx hb dX2_takeName_47 rfl (lv_at hl 3 rfl) ?_
        refine kVv (As := [.int (nI 3), .int (nI pp)]) (rest := []) (wr := [(ta, .inl (kt, 200, .inl (nA tx))), (pa, .inr (1, [.int (nI n), .ref pb, .ref pc])), (pb, .inl (kb, 8, .inl (nA so))), (pc, .inl (kc, 32, .inl (nA nu)))]) ⟨hx, hb, hml, hown, hts⟩ (c_X2_refuse l D ro ft pl sr gv s.heap.size 3 pp ) (cwV 2 hts (gV mU_213 mU_214 mU_215 mU_18 mU_216) rfl rfl rfl (by decide +kernel) ⟨Nat.le_of_ble_eq_true rfl, Nat.le_of_ble_eq_true rfl⟩) (va_recv hK hP (ci := 2) (q0 := 0) rfl rfl) hP hK hD hS hA [0] [1, 2, 3, 4] [] [0, 1, 2] rfl rfl rfl rfl (by decide) rfl rfl rfl hl.1 rfl (Nat.le_of_ble_eq_true rfl) dX2_takeName_48 ⟨by decide, by decide⟩ (fun u H locs hw hP hD hK hS => ?_)
        subst hw
        have hP := hP.sub (ws' := [(ro, .inr (2, [.int (nI 3), .int (nI pp), .int (nI sr), .int (nI gv)])), (ta, .inl (kt, 200, .inl (nA tx))), (pa, .inr (1, [.int (nI n), .ref pb, .ref pc])), (pb, .inl (kb, 8, .inl (nA so))), (pc, .inl (kc, 32, .inl (nA nu)))]) [4, 0, 1, 2, 3] rfl
        have hD := hD.sub (ws' := [(ro, .inr (2, [.int (nI 3), .int (nI pp), .int (nI sr), .int (nI gv)])), (ta, .inl (kt, 200, .inl (nA tx))), (pa, .inr (1, [.int (nI n), .ref pb, .ref pc])), (pb, .inl (kb, 8, .inl (nA so))), (pc, .inl (kc, 32, .inl (nA nu)))]) [4, 0, 1, 2, 3] rfl rfl
        have hK : va_K D vwCl [(kt, .byte), (kb, .int), (kc, .int)] s := hK.sub [0, 1, 2] rfl
        refine lv_goto (tgt := 78) hx hb dX2_takeName_51 (by decide) ?_
        subst hQ
        exact rwv (3, pp, sr, gv, n, so, nu) hx hb hr hlocks (tn_full hx9 c5_1 c23_5 c42_6 hbb hn9 ((rel_9 hx9 hsr).mp c5_1)) hP hK hD hS dX2_takeName_78
    · have c23_5 : sortC tx pp ee = 4294967295 := (nI_eqG (a := sortC tx pp ee) (b := 4294967295) (by omega) (by omega)).mp c23_5
      refine lv_aload_n hx hb dX2_takeName_26 rfl (lv_at hl 1 rfl) ?_
      refine lv_iconst (v := nI 1) hx hb dX2_takeName_27 (by decide) ?_
      refine lv_iload_n hx hb dX2_takeName_28 rfl (lv_at hl 3 rfl) ?_
      refine kVv (As := [.int (nI 1), .int (nI pp)]) (rest := []) (wr := [(ta, .inl (kt, 200, .inl (nA tx))), (pa, .inr (1, [.int (nI n), .ref pb, .ref pc])), (pb, .inl (kb, 8, .inl (nA so))), (pc, .inl (kc, 32, .inl (nA nu)))]) ⟨hx, hb, hml, hown, hts⟩ (c_X2_refuse l D ro ft pl sr gv s.heap.size 1 pp ) (cwV 2 hts (gV mU_213 mU_214 mU_215 mU_18 mU_216) rfl rfl rfl (by decide +kernel) ⟨Nat.le_of_ble_eq_true rfl, Nat.le_of_ble_eq_true rfl⟩) (va_recv hK hP (ci := 2) (q0 := 0) rfl rfl) hP hK hD hS hA [0] [1, 2, 3, 4] [] [0, 1, 2] rfl rfl rfl rfl (by decide) rfl rfl rfl hl.1 rfl (Nat.le_of_ble_eq_true rfl) dX2_takeName_29 ⟨by decide, by decide⟩ (fun u H locs hw hP hD hK hS => ?_)
      subst hw
      have hP := hP.sub (ws' := [(ro, .inr (2, [.int (nI 1), .int (nI pp), .int (nI sr), .int (nI gv)])), (ta, .inl (kt, 200, .inl (nA tx))), (pa, .inr (1, [.int (nI n), .ref pb, .ref pc])), (pb, .inl (kb, 8, .inl (nA so))), (pc, .inl (kc, 32, .inl (nA nu)))]) [4, 0, 1, 2, 3] rfl
      have hD := hD.sub (ws' := [(ro, .inr (2, [.int (nI 1), .int (nI pp), .int (nI sr), .int (nI gv)])), (ta, .inl (kt, 200, .inl (nA tx))), (pa, .inr (1, [.int (nI n), .ref pb, .ref pc])), (pb, .inl (kb, 8, .inl (nA so))), (pc, .inl (kc, 32, .inl (nA nu)))]) [4, 0, 1, 2, 3] rfl rfl
      have hK : va_K D vwCl [(kt, .byte), (kb, .int), (kc, .int)] s := hK.sub [0, 1, 2] rfl
      refine lv_goto (tgt := 78) hx hb dX2_takeName_32 (by decide) ?_
      subst hQ
      exact rwv (1, pp, sr, gv, n, so, nu) hx hb hr hlocks (tn_none hx9 c5_1 c23_5 hbb hn9) hP hK hD hS dX2_takeName_78

set_option maxHeartbeats 4000000 in
set_option maxRecDepth 100000 in
theorem c_X2_takeNumber (l : Launch) (D : va_G) (ro ft pl sr gv : Nat) (ta : Nat) (kt : ClassId) (tx : Nat → Nat) (pa pb pc : Nat) (kb kc : ClassId) (n : Nat) (so nu : Nat → Nat) (ak : Nat) (adK adV : Nat → Nat) (x : PT9) (sz : Nat) (pp : Nat) (ee : Nat) (h : Nat) (hx9 : relS x sr gv n so nu) (hn9 : n ≤ 7) (hsr : x.1 = 9 ∨ (x.1 < 9 ∧ n < 7 ∧ x.2.1 ≤ arM x.1)) (hbb : (∀ j, so j < 2147483648 ∧ nu j < 2147483648) ∧ gv < 2147483648) (hpe : pp < ee) (hee : ee ≤ 200) (htx : ∀ j, tx j < 4294967296) (hdg : ∀ j, pp ≤ j → j < ee → isDg (tx j)) (hh : h < 2) : Met l yX2_takeNumber (.code yX2_takeNumber cX2_takeNumber 8 none :: wsL_law) ({ frames := 2, cells := 0, slots := 0, locals := 37 }) (va_Pc [.ref ro, .ref ta, .int (nI pp), .int (nI ee), .int (nI h), .ref pa] (PWZ D (qW ro ft pl sr gv ta kt tx pa pb pc kb kc n so nu) (qT kt kb kc) sz ak adK adV)) (va_Qv (fun u : RSt => tkPost (numS h x (numR tx pp (ee - pp))) ft pl pp u) (QW D (fun u : RSt => qW ro u.1 u.2.1 u.2.2.1 u.2.2.2.1 ta kt tx pa pb pc kb kc u.2.2.2.2.1 u.2.2.2.2.2.1 u.2.2.2.2.2.2) (fun _ => qT kt kb kc) (va_A (qW ro ft pl sr gv ta kt tx pa pb pc kb kc n so nu) sz)) (va_A (qW ro ft pl sr gv ta kt tx pa pb pc kb kc n so nu) sz)) 0 0 (va_A (qW ro ft pl sr gv ta kt tx pa pb pc kb kc n so nu) sz) := by
  refine Met.ofW (cc := cX2_takeNumber) (maxL := 8) (ret := none) (by decide) rfl ?_
  intro p e s m args below meth c s₁ B hml hv
  obtain ⟨rfl, ⟨hsz, hP, hK, hD0⟩, hZ⟩ := hv
  have hx := B.exec
  have hb := B.bytes
  have hr := B.returns
  have hts := atoms_spec (ws := .code yX2_takeNumber cX2_takeNumber 8 none :: wsL_law) B.pre
  have hU : ∀ w ∈ wsL_law, w.before _ s = true := fun w h => hts w (List.mem_cons_of_mem _ h)
  have hown : s.vm.findClass RX2 = some m.cls := findClass_of_methodNamed B.named
  have hlocks := B.notSynchronized
  subst hsz
  have hD := hD0.self (sz := s.heap.size)
  generalize hAe : va_A (qW ro ft pl sr gv ta kt tx pa pb pc kb kc n so nu) s.heap.size = Ar at hD hZ ⊢
  have hA : ∀ q : Nat, s.heap.size ≤ q → Ar q := fun q h => by rw [← hAe]; exact Or.inr h
  have hS : va_S Ar s.heap s.heap [] := va_S.rf
  have hP : va_P D vwCl [(ro, .inr (2, [.int (nI ft), .int (nI pl), .int (nI sr), .int (nI gv)])), (ta, .inl (kt, 200, .inl (nA tx))), (pa, .inr (1, [.int (nI n), .ref pb, .ref pc])), (pb, .inl (kb, 8, .inl (nA so))), (pc, .inl (kc, 32, .inl (nA nu)))] s.heap := hP
  have hD : va_D Ar [(ro, .inr (2, [.int (nI ft), .int (nI pl), .int (nI sr), .int (nI gv)])), (ta, .inl (kt, 200, .inl (nA tx))), (pa, .inr (1, [.int (nI n), .ref pb, .ref pc])), (pb, .inl (kb, 8, .inl (nA so))), (pc, .inl (kc, 32, .inl (nA nu)))] := hD
  generalize hQ : MQ _ _ _ _ _ _ _ = Q
  have hl := lv_entry ([.ref ro, .ref ta, .int (nI pp), .int (nI ee), .int (nI h), .ref pa]) (n := 8) (Nat.le_of_ble_eq_true rfl)
  rw [lg_entry_eq]
  generalize (lg_sl ([.ref ro, .ref ta, .int (nI pp), .int (nI ee), .int (nI h), .ref pa]) ++ List.replicate (8 - (lg_sl ([.ref ro, .ref ta, .int (nI pp), .int (nI ee), .int (nI h), .ref pa])).length) Slot.unset).toArray = ls at hl ⊢
  have hl : lv_has ls 8 [(0, .ref ro), (1, .ref ta), (2, .int (nI pp)), (3, .int (nI ee)), (4, .int (nI h)), (5, .ref pa)] := hl
  have hgv := hbb.2
  have hsr9 : sr < 4294967296 := rel_sr hx9 hsr
  refine lv_aload_n hx hb dX2_takeNumber_0 rfl (lv_at hl 0 rfl) ?_
  refine va_get (D := D) (ci := 2) (v := .int (nI sr)) (C := RX2) (T := TX2) (N := 4) hx hb hU iX2 hown hK hP 0 rfl rfl 2 (by decide) (hU _ mU_42) (fun _ h9 => h9) rfl dX2_takeNumber_1 ?_
  refine lv_aload_n hx hb dX2_takeNumber_4 rfl (lv_at hl 0 rfl) ?_
  refine va_get (D := D) (ci := 2) (v := .int (nI gv)) (C := RX2) (T := TX2) (N := 4) hx hb hU iX2 hown hK hP 0 rfl rfl 3 (by decide) (hU _ mU_43) (fun _ h9 => h9) rfl dX2_takeNumber_5 ?_
  refine cSi (As := [.int (nI sr), .int (nI gv)]) (rest := []) ⟨hx, hb, hml, hown, hts⟩ (c_X1_kindOf l ak adK adV sr gv (by omega) (by omega)) (va_cwS 2 hts (gS mU_221 mU_222 mU_22 mU_223) rfl rfl rfl (by decide +kernel) ⟨Nat.le_of_ble_eq_true rfl, Nat.le_of_ble_eq_true rfl⟩) fbZU (zB (fun _ _ _ => trivial) hZ hS) rfl hl.1 rfl (Nat.le_of_ble_eq_true rfl) dX2_takeNumber_8 ⟨Nat.zero_le _, Nat.zero_le _⟩ ?_
  have hf_1 : kindC sr gv < 6 := kindC_lt _ _
  refine lv_istore (lv' := [(6, .int (nI (kindC sr gv))), (0, .ref ro), (1, .ref ta), (2, .int (nI pp)), (3, .int (nI ee)), (4, .int (nI h)), (5, .ref pa)]) hx hb dX2_takeNumber_11 hl (by decide) rfl (fun ls hl => ?_)
  refine lv_aload_n hx hb dX2_takeNumber_13 rfl (lv_at hl 2 rfl) ?_
  refine lv_iload_n hx hb dX2_takeNumber_14 rfl (lv_at hl 3 rfl) ?_
  refine lv_iload_n hx hb dX2_takeNumber_15 rfl (lv_at hl 4 rfl) ?_
  have hPc := hP.sub (ws' := [(ta, .inl (kt, 200, .inl (nA tx)))]) [1] rfl
  have hKc := hK.sub (tys' := [(kt, .byte)]) [0] rfl
  refine cSi (As := [.ref ta, .int (nI pp), .int (nI ee)]) (rest := []) ⟨hx, hb, hml, hown, hts⟩ (c_X2_numberOf l D ta kt tx pp ee (by omega) (by omega) (hdg)) (va_cwS 3 hts (gS mU_225 mU_226 mU_18 mU_227) rfl rfl rfl (by decide +kernel) ⟨Nat.le_of_ble_eq_true rfl, Nat.le_of_ble_eq_true rfl⟩) fbR (PR.of hPc hKc) rfl hl.1 rfl (Nat.le_of_ble_eq_true rfl) dX2_takeNumber_16 ⟨Nat.zero_le _, Nat.zero_le _⟩ ?_
  have hf_2 : numR tx pp (ee - pp) ≤ 1000 := numR_le _ _ _
  refine lv_istore (lv' := [(7, .int (nI (numR tx pp (ee - pp)))), (6, .int (nI (kindC sr gv))), (0, .ref ro), (1, .ref ta), (2, .int (nI pp)), (3, .int (nI ee)), (4, .int (nI h)), (5, .ref pa)]) hx hb dX2_takeNumber_19 hl (by decide) rfl (fun ls hl => ?_)
  refine lv_iload hx hb dX2_takeNumber_21 (lv_at hl 1 rfl) ?_
  refine lv_if_ne (tgt := 35) hx hb dX2_takeNumber_23 (by decide) (fun c23_3 => ?_) (fun c23_3 => ?_)
  · have c23_3 : ¬ (kindC sr gv = 0) := fun h9 => c23_3 ((nI_eqG (a := kindC sr gv) (b := 0) (by omega) (by omega)).mpr h9)
    refine lv_iload hx hb dX2_takeNumber_35 (lv_at hl 1 rfl) ?_
    refine lv_iload hx hb dX2_takeNumber_37 (lv_at hl 0 rfl) ?_
    refine lv_iload hx hb dX2_takeNumber_39 (lv_at hl 6 rfl) ?_
    refine cSi (As := [.int (nI (kindC sr gv)), .int (nI (numR tx pp (ee - pp))), .int (nI h)]) (rest := []) ⟨hx, hb, hml, hown, hts⟩ (c_X1_isNumberOf l  (kindC sr gv) (numR tx pp (ee - pp)) h (by omega) (by omega) (by omega)) (va_cwS 3 hts (gS mU_232 mU_233 mU_22 mU_234) rfl rfl rfl (by decide +kernel) ⟨Nat.le_of_ble_eq_true rfl, Nat.le_of_ble_eq_true rfl⟩) fbU (fun _ _ _ => trivial) rfl hl.1 rfl (Nat.le_of_ble_eq_true rfl) dX2_takeNumber_41 ⟨Nat.zero_le _, Nat.zero_le _⟩ ?_
    refine lv_if_ne (tgt := 56) hx hb dX2_takeNumber_44 (by decide) (fun c44_4 => ?_) (fun c44_4 => ?_)
    · have c44_4 : isNumC (kindC sr gv) (numR tx pp (ee - pp)) h := bP_t c44_4
      have hg4 := kind_lt4 c23_3
      have hn7 := rel_n7 hx9 hsr c23_3
      refine lv_aload hx hb dX2_takeNumber_56 (lv_at hl 7 rfl) ?_
      refine lv_aload hx hb dX2_takeNumber_58 (lv_at hl 7 rfl) ?_
      refine va_get (D := D) (ci := 1) (v := .int (nI n)) (C := RX1) (T := TX1) (N := 3) hx hb hU iX1 hown hK hP 2 rfl rfl 0 (by decide) (hU _ mU_133) (fun _ h9 => h9) rfl dX2_takeNumber_60 ?_
      refine lv_aload_n hx hb dX2_takeNumber_63 rfl (lv_at hl 2 rfl) ?_
      refine va_get (D := D) (ci := 2) (v := .int (nI gv)) (C := RX2) (T := TX2) (N := 4) hx hb hU iX2 hown hK hP 0 rfl rfl 3 (by decide) (hU _ mU_43) (fun _ h9 => h9) rfl dX2_takeNumber_64 ?_
      refine lv_iload hx hb dX2_takeNumber_67 (lv_at hl 0 rfl) ?_
      refine kVv (As := [.int (nI n), .int (nI gv), .int (nI (numR tx pp (ee - pp)))]) (rest := []) (wr := [(ro, .inr (2, [.int (nI ft), .int (nI pl), .int (nI sr), .int (nI gv)])), (ta, .inl (kt, 200, .inl (nA tx)))]) ⟨hx, hb, hml, hown, hts⟩ (c_X1_setNumber l D pa pb pc kb kc n so nu s.heap.size n gv (numR tx pp (ee - pp)) (by omega)) (cwV 3 hts (gV mU_235 mU_236 mU_237 mU_22 mU_238) rfl rfl rfl (by decide +kernel) ⟨Nat.le_of_ble_eq_true rfl, Nat.le_of_ble_eq_true rfl⟩) (va_recv hK hP (ci := 1) (q0 := 2) rfl rfl) hP hK hD hS hA [2, 3, 4] [0, 1] [1, 2] [0] rfl rfl rfl rfl (by decide) rfl rfl rfl hl.1 rfl (Nat.le_of_ble_eq_true rfl) dX2_takeNumber_69 ⟨by decide, by decide⟩ (fun u H locs hw hP hD hK hS => ?_)
      subst hw
      have hP := hP.sub (ws' := [(ro, .inr (2, [.int (nI ft), .int (nI pl), .int (nI sr), .int (nI gv)])), (ta, .inl (kt, 200, .inl (nA tx))), (pa, .inr (1, [.int (nI n), .ref pb, .ref pc])), (pb, .inl (kb, 8, .inl (nA so))), (pc, .inl (kc, 32, .inl (nA (upN nu (n * 4 + gv) (numR tx pp (ee - pp))))))]) [0, 1, 2, 3, 4] rfl
      have hD := hD.sub (ws' := [(ro, .inr (2, [.int (nI ft), .int (nI pl), .int (nI sr), .int (nI gv)])), (ta, .inl (kt, 200, .inl (nA tx))), (pa, .inr (1, [.int (nI n), .ref pb, .ref pc])), (pb, .inl (kb, 8, .inl (nA so))), (pc, .inl (kc, 32, .inl (nA (upN nu (n * 4 + gv) (numR tx pp (ee - pp))))))]) [0, 1, 2, 3, 4] rfl rfl
      have hK : va_K D vwCl [(kt, .byte), (kb, .int), (kc, .int)] s := hK.sub [0, 1, 2] rfl
      refine lv_aload_n hx hb dX2_takeNumber_72 rfl (lv_at hl 2 rfl) ?_
      refine lv_dup hx hb dX2_takeNumber_73 rfl ?_
      refine va_get (D := D) (ci := 2) (v := .int (nI gv)) (C := RX2) (T := TX2) (N := 4) hx hb hU iX2 hown hK hP 0 rfl rfl 3 (by decide) (hU _ mU_43) (fun _ h9 => h9) rfl dX2_takeNumber_74 ?_
      refine lv_iconst (v := nI 1) hx hb dX2_takeNumber_77 (by decide) ?_
      refine lv_iadd hx hb dX2_takeNumber_78 ?_
      refine lv_topE (nI (gv + 1)) (nI_add _ _) ?_
      refine va_put (D := D) (ci := 2) (v := .int (nI (gv + 1))) (ty := .int) (C := RX2) (T := TX2) (N := 4) hx hb hU iX2 tyX2 tyX2_ok nmX2 hown hK hP hD hS 0 rfl rfl 3 (by decide) (hU _ mU_43) (fun _ h9 => h9) rfl (by decide +kernel) rfl rfl (Nat.le_of_ble_eq_true rfl) dX2_takeNumber_79 (fun H locs hP hD hS => ?_)
      have hP : va_P D vwCl [(ro, .inr (2, [.int (nI ft), .int (nI pl), .int (nI sr), .int (nI (gv + 1))])), (ta, .inl (kt, 200, .inl (nA tx))), (pa, .inr (1, [.int (nI n), .ref pb, .ref pc])), (pb, .inl (kb, 8, .inl (nA so))), (pc, .inl (kc, 32, .inl (nA (upN nu (n * 4 + gv) (numR tx pp (ee - pp))))))] H := hP
      have hD : va_D Ar [(ro, .inr (2, [.int (nI ft), .int (nI pl), .int (nI sr), .int (nI (gv + 1))])), (ta, .inl (kt, 200, .inl (nA tx))), (pa, .inr (1, [.int (nI n), .ref pb, .ref pc])), (pb, .inl (kb, 8, .inl (nA so))), (pc, .inl (kc, 32, .inl (nA (upN nu (n * 4 + gv) (numR tx pp (ee - pp))))))] := hD
      subst hQ
      exact rwv (ft, pl, sr, gv + 1, n, so, upN nu (n * 4 + gv) (numR tx pp (ee - pp))) hx hb hr hlocks (tm_ok hx9 hsr c23_3 c44_4 hbb hh (numR_le _ _ _)) hP hK hD hS dX2_takeNumber_82
    · have c44_4 : ¬ (isNumC (kindC sr gv) (numR tx pp (ee - pp)) h) := bP_f c44_4
      refine lv_aload_n hx hb dX2_takeNumber_47 rfl (lv_at hl 2 rfl) ?_
      refine lv_iconst (v := nI 2) hx hb dX2_takeNumber_48 (by decide) ?_
      refine lv_iload_n hx hb dX2_takeNumber_49 rfl (lv_at hl 4 rfl) ?_
      refine kVv (As := [.int (nI 2), .int (nI pp)]) (rest := []) (wr := [(ta, .inl (kt, 200, .inl (nA tx))), (pa, .inr (1, [.int (nI n), .ref pb, .ref pc])), (pb, .inl (kb, 8, .inl (nA so))), (pc, .inl (kc, 32, .inl (nA nu)))]) ⟨hx, hb, hml, hown, hts⟩ (c_X2_refuse l D ro ft pl sr gv s.heap.size 2 pp ) (cwV 2 hts (gV mU_213 mU_214 mU_215 mU_18 mU_216) rfl rfl rfl (by decide +kernel) ⟨Nat.le_of_ble_eq_true rfl, Nat.le_of_ble_eq_true rfl⟩) (va_recv hK hP (ci := 2) (q0 := 0) rfl rfl) hP hK hD hS hA [0] [1, 2, 3, 4] [] [0, 1, 2] rfl rfl rfl rfl (by decide) rfl rfl rfl hl.1 rfl (Nat.le_of_ble_eq_true rfl) dX2_takeNumber_50 ⟨by decide, by decide⟩ (fun u H locs hw hP hD hK hS => ?_)
      subst hw
      have hP := hP.sub (ws' := [(ro, .inr (2, [.int (nI 2), .int (nI pp), .int (nI sr), .int (nI gv)])), (ta, .inl (kt, 200, .inl (nA tx))), (pa, .inr (1, [.int (nI n), .ref pb, .ref pc])), (pb, .inl (kb, 8, .inl (nA so))), (pc, .inl (kc, 32, .inl (nA nu)))]) [4, 0, 1, 2, 3] rfl
      have hD := hD.sub (ws' := [(ro, .inr (2, [.int (nI 2), .int (nI pp), .int (nI sr), .int (nI gv)])), (ta, .inl (kt, 200, .inl (nA tx))), (pa, .inr (1, [.int (nI n), .ref pb, .ref pc])), (pb, .inl (kb, 8, .inl (nA so))), (pc, .inl (kc, 32, .inl (nA nu)))]) [4, 0, 1, 2, 3] rfl rfl
      have hK : va_K D vwCl [(kt, .byte), (kb, .int), (kc, .int)] s := hK.sub [0, 1, 2] rfl
      refine lv_goto (tgt := 82) hx hb dX2_takeNumber_53 (by decide) ?_
      subst hQ
      exact rwv (2, pp, sr, gv, n, so, nu) hx hb hr hlocks (tm_bad hx9 hsr c23_3 c44_4 hbb hn9) hP hK hD hS dX2_takeNumber_82
  · have c23_3 : kindC sr gv = 0 := (nI_eqG (a := kindC sr gv) (b := 0) (by omega) (by omega)).mp c23_3
    refine lv_aload_n hx hb dX2_takeNumber_26 rfl (lv_at hl 2 rfl) ?_
    refine lv_iconst (v := nI 1) hx hb dX2_takeNumber_27 (by decide) ?_
    refine lv_iload_n hx hb dX2_takeNumber_28 rfl (lv_at hl 4 rfl) ?_
    refine kVv (As := [.int (nI 1), .int (nI pp)]) (rest := []) (wr := [(ta, .inl (kt, 200, .inl (nA tx))), (pa, .inr (1, [.int (nI n), .ref pb, .ref pc])), (pb, .inl (kb, 8, .inl (nA so))), (pc, .inl (kc, 32, .inl (nA nu)))]) ⟨hx, hb, hml, hown, hts⟩ (c_X2_refuse l D ro ft pl sr gv s.heap.size 1 pp ) (cwV 2 hts (gV mU_213 mU_214 mU_215 mU_18 mU_216) rfl rfl rfl (by decide +kernel) ⟨Nat.le_of_ble_eq_true rfl, Nat.le_of_ble_eq_true rfl⟩) (va_recv hK hP (ci := 2) (q0 := 0) rfl rfl) hP hK hD hS hA [0] [1, 2, 3, 4] [] [0, 1, 2] rfl rfl rfl rfl (by decide) rfl rfl rfl hl.1 rfl (Nat.le_of_ble_eq_true rfl) dX2_takeNumber_29 ⟨by decide, by decide⟩ (fun u H locs hw hP hD hK hS => ?_)
    subst hw
    have hP := hP.sub (ws' := [(ro, .inr (2, [.int (nI 1), .int (nI pp), .int (nI sr), .int (nI gv)])), (ta, .inl (kt, 200, .inl (nA tx))), (pa, .inr (1, [.int (nI n), .ref pb, .ref pc])), (pb, .inl (kb, 8, .inl (nA so))), (pc, .inl (kc, 32, .inl (nA nu)))]) [4, 0, 1, 2, 3] rfl
    have hD := hD.sub (ws' := [(ro, .inr (2, [.int (nI 1), .int (nI pp), .int (nI sr), .int (nI gv)])), (ta, .inl (kt, 200, .inl (nA tx))), (pa, .inr (1, [.int (nI n), .ref pb, .ref pc])), (pb, .inl (kb, 8, .inl (nA so))), (pc, .inl (kc, 32, .inl (nA nu)))]) [4, 0, 1, 2, 3] rfl rfl
    have hK : va_K D vwCl [(kt, .byte), (kb, .int), (kc, .int)] s := hK.sub [0, 1, 2] rfl
    refine lv_goto (tgt := 82) hx hb dX2_takeNumber_32 (by decide) ?_
    subst hQ
    exact rwv (1, pp, sr, gv, n, so, nu) hx hb hr hlocks (tm_none hx9 hsr c23_3 hbb hn9) hP hK hD hS dX2_takeNumber_82

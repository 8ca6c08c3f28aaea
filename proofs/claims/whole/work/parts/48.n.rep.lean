/-! PURE: the rows of the class against the reference's walk -/
def gP (n0 : Nat) (so0 nu0 : Nat → Nat) (n1 : Nat) (so1 nu1 wo ri : Nat → Nat) : Nat → Nat → Nat := fun a j => if a = 1 then (if j = 2 then n0 else n1) else if a = 2 then (if j < 24 then so0 (j - 16) else so1 (j - 24)) else if a = 3 then (if j < 96 then nu0 (j - 64) else nu1 (j - 96)) else if a = 4 then wo j else ri j
theorem gP_0 {n0 : Nat} {so0 nu0 : Nat → Nat} {n1 : Nat} {so1 nu1 wo ri : Nat → Nat} : hostR (gP n0 so0 nu0 n1 so1 nu1 wo ri) 0 so0 nu0 n0 := by
  refine ⟨rfl, fun i hi => ?_, fun i w hi hw => ?_⟩
  · show (if 16 + 8 * 0 + i < 24 then so0 (16 + 8 * 0 + i - 16) else _) = _
    rw [if_pos (by omega)]; congr 1; omega
  · show (if 4 * (16 + 8 * 0 + i) + w < 96 then nu0 (4 * (16 + 8 * 0 + i) + w - 64) else _) = _
    rw [if_pos (by omega)]; congr 1; omega
theorem gP_1 {n0 : Nat} {so0 nu0 : Nat → Nat} {n1 : Nat} {so1 nu1 wo ri : Nat → Nat} : hostR (gP n0 so0 nu0 n1 so1 nu1 wo ri) 1 so1 nu1 n1 := by
  refine ⟨rfl, fun i hi => ?_, fun i w hi hw => ?_⟩
  · show (if 16 + 8 * 1 + i < 24 then _ else so1 (16 + 8 * 1 + i - 24)) = _
    rw [if_neg (by omega)]; congr 1; omega
  · show (if 4 * (16 + 8 * 1 + i) + w < 96 then _ else nu1 (4 * (16 + 8 * 1 + i) + w - 96)) = _
    rw [if_neg (by omega)]; congr 1; omega
abbrev okQ (n : Nat) (so nu : Nat → Nat) : Prop := ∀ i, i < n → okS (so i) (nu (i * 4 + 0)) (nu (i * 4 + 1)) (nu (i * 4 + 2)) (nu (i * 4 + 3))
theorem okL_gP {n0 : Nat} {so0 nu0 : Nat → Nat} {n1 : Nat} {so1 nu1 wo ri : Nat → Nat} (h0 : n0 ≤ 7) (h1 : n1 ≤ 7) (k0 : okQ n0 so0 nu0) (k1 : okQ n1 so1 nu1) : okL (gP n0 so0 nu0 n1 so1 nu1 wo ri) := by
  have H : ∀ h so nu n, n ≤ 7 → okQ n so nu → hostR (gP n0 so0 nu0 n1 so1 nu1 wo ri) h so nu n → (gP n0 so0 nu0 n1 so1 nu1 wo ri) 1 (2 + h) ≤ 7 ∧ ∀ i, i < (gP n0 so0 nu0 n1 so1 nu1 wo ri) 1 (2 + h) → okS ((gP n0 so0 nu0 n1 so1 nu1 wo ri) 2 (16 + 8 * h + i)) ((gP n0 so0 nu0 n1 so1 nu1 wo ri) 3 (4 * (16 + 8 * h + i))) ((gP n0 so0 nu0 n1 so1 nu1 wo ri) 3 (4 * (16 + 8 * h + i) + 1)) ((gP n0 so0 nu0 n1 so1 nu1 wo ri) 3 (4 * (16 + 8 * h + i) + 2)) ((gP n0 so0 nu0 n1 so1 nu1 wo ri) 3 (4 * (16 + 8 * h + i) + 3)) := by
    intro h so nu n hn hk hR
    obtain ⟨r1, r2, r3⟩ := hR
    rw [r1]
    refine ⟨hn, fun i hi => ?_⟩
    have z := r3 i 0 (by omega) (by decide)
    rw [Nat.add_zero] at z
    rw [r2 i (by omega), z, r3 i 1 (by omega) (by decide), r3 i 2 (by omega) (by decide), r3 i 3 (by omega) (by decide)]
    exact hk i hi
  intro h hh
  rcases (show h = 0 ∨ h = 1 by omega) with rfl | rfl
  · exact H 0 so0 nu0 n0 h0 k0 gP_0
  · exact H 1 so1 nu1 n1 h1 k1 gP_1
theorem qv_enc {g : Nat → Nat → Nat} {so nu : Nat → Nat} {n x h : Nat} (hR : hostR g h so nu n) (hL : okL g) (hx : wfM g x) (hh : h < 2) : ∀ k, k < 3 → ¬ wishA (bitsN (enc x) (22 + 9 * h) 9) k = 4294967295 → wishA (bitsN (enc x) (22 + 9 * h) 9) k < n ∧ so (wishA (bitsN (enc x) (22 + 9 * h) 9) k) < 4 := fun k hk hn => by
  have q : k < bitsN x (22 + 2 * h) 2 := Classical.byContradiction (fun z => hn ((wish_none hL hx hh hk).mpr z))
  rw [wish_enc0 hL hx hh hk, if_pos q]
  obtain ⟨a, b⟩ := (hx.2 h hh).2 k q
  have h7 := (hL h hh).1
  have b : g 2 (16 + 8 * h + bitsN x (26 + 9 * h + 3 * k) 3) < 4 := b
  rw [hR.2.1 _ (by omega)] at b
  exact ⟨by rw [← hR.1]; exact a, b⟩
def RepB (b : BT) (ts og : Nat → Nat) : Prop := (∀ i, i < b.1 → ts i = enc (b.2.1 i) ∧ canM (b.2.1 i)) ∧ og 0 = 0 ∧ ∀ i, 0 < i → i < b.1 → b.2.2.1 i < i ∧ og i = b.2.2.1 i * 16 + b.2.2.2.1 i
theorem RepB.oc {g : Nat → Nat → Nat} {b : BT} {ts og : Nat → Nat} (h : RepB b ts og) (hB : BInv g b) : ∀ j, j < b.1 → og j / 16 < b.1 := fun j hj => by
  by_cases q : j = 0
  · subst q; rw [h.2.1]; omega
  · obtain ⟨a, c⟩ := h.2.2 j (by omega) hj
    have := (hB.2 j hj).2.2.1
    omega
theorem rep_has {g : Nat → Nat → Nat} {b : BT} {ts og : Nat → Nat} {y : Nat} (hL : okL g) (hR : RepB b ts og) (hB : BInv g b) (hy : wfM g y) (cy : canM y) : (∃ i, i < b.1 ∧ ts i = enc y) ↔ hasB b.1 b.2.1 y = true := by
  rw [hasB_iff]
  constructor
  · rintro ⟨i, hi, e⟩
    refine ⟨i, hi, ?_⟩
    rw [(hR.1 i hi).1] at e
    exact enc_inj hL (hB.2 i hi).1 hy (hR.1 i hi).2 cy e
  · rintro ⟨i, hi, e⟩
    exact ⟨i, hi, by rw [(hR.1 i hi).1, e]⟩
theorem rep_ins {g : Nat → Nat → Nat} {b : BT} {ts og ts2 og2 : Nat → Nat} {y fr k : Nat} (hL : okL g) (hR : RepB b ts og) (hB : BInv g b) (hy : wfM g y) (cy : canM y) (hno : ¬ ∃ i, i < b.1 ∧ ts i = enc y) (h12 : b.1 ≤ 12000) (hk : ∀ i, i < b.1 → ts2 i = ts i ∧ og2 i = og i) (hx : ts2 b.1 = enc y) (ho : (b.1 = 0 ∧ og2 0 = 0) ∨ (fr < b.1 ∧ og2 b.1 = fr * 16 + k)) : (insB b y fr k).1 = b.1 + 1 ∧ RepB (insB b y fr k) ts2 og2 := by
  have e : insB b y fr k = (b.1 + 1, upN b.2.1 b.1 y, upN b.2.2.1 b.1 fr, upN b.2.2.2.1 b.1 k, upN b.2.2.2.2 b.1 (if fr < 2147483648 then b.2.2.2.2 fr + 1 else 0)) := by
    unfold insB; rw [if_neg (fun z => hno ((rep_has hL hR hB hy cy).mpr z)), if_pos h12]
  rw [e]
  refine ⟨rfl, fun i hi => ?_, ?_, fun i h0 hi => ?_⟩
  · have hi : i < b.1 + 1 := hi
    show ts2 i = enc (upN b.2.1 b.1 y i) ∧ canM (upN b.2.1 b.1 y i)
    by_cases q : i = b.1
    · rw [q, upN_s]; exact ⟨hx, cy⟩
    · rw [upN_n q, (hk i (by omega)).1]; exact hR.1 i (by omega)
  · rcases ho with ho | ho
    · exact ho.2
    · rw [(hk 0 (by omega)).2]; exact hR.2.1
  · have hi : i < b.1 + 1 := hi
    show upN b.2.2.1 b.1 fr i < i ∧ og2 i = upN b.2.2.1 b.1 fr i * 16 + upN b.2.2.2.1 b.1 k i
    by_cases q : i = b.1
    · rw [q, upN_s, upN_s]
      rcases ho with ho | ho
      · omega
      · exact ho
    · rw [upN_n q, upN_n q, (hk i (by omega)).2]; exact hR.2.2 i h0 (by omega)
theorem rep_old {g : Nat → Nat → Nat} {b : BT} {ts og : Nat → Nat} {y fr k : Nat} (hL : okL g) (hR : RepB b ts og) (hB : BInv g b) (hy : wfM g y) (cy : canM y) (hex : ∃ i, i < b.1 ∧ ts i = enc y) : insB b y fr k = b := by
  unfold insB; rw [if_pos ((rep_has hL hR hB hy cy).mp hex)]
theorem eO_none {o : Option Nat} (hb : ∀ y, o = some y → y < 2 ^ 63) : eO o = (-1) ↔ o = none := by
  cases o with
  | none => exact ⟨fun _ => rfl, fun _ => rfl⟩
  | some x =>
    have hx := hb x rfl
    constructor
    · intro e
      exfalso
      have e : lN x = (-1) := e
      have z : lN x < lN 0 := by rw [e]; decide
      rw [pk_lLT hx (by decide)] at z
      omega
    · intro e; cases e
theorem aft_none {mf : Nat} {g : Nat → Nat → Nat} {x k : Nat} (hL : okL g) (hx : wfM g x) (hk : k < 10) : eO ((stepM mf g x k).map enc) = (-1) ↔ stepM mf g x k = none := by
  rw [eO_none (fun y e => ?_)]
  · cases stepM mf g x k <;> simp
  · cases h : stepM mf g x k with
    | none => rw [h] at e; cases e
    | some z => rw [h] at e; cases e; exact Nat.lt_trans (enc_lt (wf_step hL hx hk h).1) (by decide)
theorem ins_mono2 {b : BT} {x fr k : Nat} : b.1 ≤ (insB b x fr k).1 ∧ ∀ i, i < b.1 → (insB b x fr k).2.1 i = b.2.1 i := ⟨ins_mono.1, fun i hi => (ins_mono.2 i hi).1⟩
theorem stepB_mono {mf : Nat} {g : Nat → Nat → Nat} {b : BT} {i k : Nat} : b.1 ≤ (stepB mf g b i k).1 := by
  unfold stepB; split
  · exact Nat.le_refl _
  · exact ins_mono2.1
theorem row_mono9 {mf : Nat} {g : Nat → Nat → Nat} {i : Nat} : ∀ (n k : Nat) (b : BT), b.1 ≤ (rowF mf g i n k b).1 := by
  intro n
  induction n with
  | zero => intro k b; exact Nat.le_refl _
  | succ n ih => intro k b; rw [rowF]; exact Nat.le_trans stepB_mono (ih _ _)
theorem run_mono9 {mf : Nat} {g : Nat → Nat → Nat} : ∀ (n : Nat) (b : BT) (i : Nat), b.1 ≤ (runB mf g n b i).1 := by
  intro n
  induction n with
  | zero => intro b i; exact Nat.le_refl _
  | succ n ih =>
    intro b i
    rw [runB]
    split
    · exact Nat.le_refl _
    · split
      · exact Nat.le_refl _
      · exact Nat.le_trans (row_mono9 10 0 b) (ih _ _)
theorem in_row {mf : Nat} {g : Nat → Nat → Nat} {b b2 B0 : BT} {i k : Nat} (hrun : runB mf g (12002 - i) b i = B0) (h1 : i < b.1) (h2 : b.1 ≤ 12000) (hrow : rowF mf g i (10 - k) k b2 = rowF mf g i 10 0 b) (hk : k < 10) : (stepB mf g b2 i k).1 ≤ B0.1 := by
  rw [← hrun, show 12002 - i = (12001 - i) + 1 by omega, runB, if_neg (by omega), if_neg (by omega), ← hrow, show 10 - k = (9 - k) + 1 by omega, rowF]
  exact Nat.le_trans (row_mono9 _ _ _) (run_mono9 _ _ _)
def growI (L L1 n ce se : Nat) : Prop := (L1 = L ∧ ce = 0 ∧ se = 0) ∨ (L = 700 ∧ L1 = 12000 ∧ 700 < n ∧ ce = 3 ∧ se = 40384)
theorem tak_fork {L M sp cn y : Nat} {ts og sl : Nat → Nat} (hT : TI L M sp cn ts og sl) : ((∃ j, j < cn ∧ ts j = y) ∨ 12000 ≤ cn ∨ cn < L) ∨ (L = 700 ∧ M = 1024 ∧ cn = 700 ∧ ∀ j, j < cn → ¬ ts j = y) := by
  by_cases e : ∃ j, j < cn ∧ ts j = y
  · exact Or.inl (Or.inl e)
  · by_cases a : 12000 ≤ cn ∨ cn < L
    · exact Or.inl (Or.inr a)
    · have := hT.1
      have := hT.2.1
      exact Or.inr ⟨by omega, by omega, by omega, fun j hj q => e ⟨j, hj, q⟩⟩
theorem tak_cases {wb wc wd : Nat} {kw0 kw1 kw2 : ClassId} {L M sp cn en ge be tl : Nat} {ts og sl : Nat → Nat} {x o : Nat} {r : Int32} {u : WSt} (h : takPost wb wc wd kw0 kw1 kw2 L M sp cn en ge be tl ts og sl x o r u) :
    ((∃ i, i < cn ∧ ts i = x) ∧ r = nI 1 ∧ u = (wb, wc, wd, kw0, kw1, kw2, L, M, sp, cn, en, ge, be, tl, ts, og, sl)) ∨ ((¬ ∃ i, i < cn ∧ ts i = x) ∧ 12000 ≤ cn ∧ r = nI 0 ∧ u = (wb, wc, wd, kw0, kw1, kw2, L, M, sp, cn, en, ge, be, tl, ts, og, sl)) ∨ ((¬ ∃ i, i < cn ∧ ts i = x) ∧ cn < 12000 ∧ r = nI 1 ∧ ∃ wb2 wc2 wd2 ka2 kb2 kc2 L2 M2 ts2 og2 sl2, u = (wb2, wc2, wd2, ka2, kb2, kc2, L2, M2, sp, cn + 1, en, ge, be, tl, ts2, og2, sl2) ∧ L2 = (if cn < L then L else 12000) ∧ TI L2 M2 sp (cn + 1) ts2 og2 sl2 ∧ (∀ i, i < cn → ts2 i = ts i ∧ og2 i = og i) ∧ ts2 cn = x ∧ og2 cn = o) := by
  by_cases e : ∃ i, i < cn ∧ ts i = x
  · exact Or.inl ⟨e, h.1 e⟩
  · by_cases a : 12000 ≤ cn
    · exact Or.inr (Or.inl ⟨e, a, (h.2 e).1 a⟩)
    · exact Or.inr (Or.inr ⟨e, by omega, (h.2 e).2 (by omega)⟩)
theorem end_cnt {mf : Nat} {g : Nat → Nat → Nat} {x : Nat} (he : isEndM mf g x) {h : Nat} (hh : h < 2) : bitsN x (22 + 2 * h) 2 = 0 := by
  have := he (2 + 3 * h) (by omega)
  unfold stepM at this
  rw [if_pos (by omega)] at this
  apply Classical.byContradiction
  intro q
  rcases (show h = 0 ∨ h = 1 by omega) with rfl | rfl
  · rw [if_neg (by decide)] at this
    have : wishM0 g x 0 = none := this
    unfold wishM0 at this
    rw [if_pos (by omega)] at this
    unfold wishE at this
    split at this
    · cases this
    · split at this <;> cases this
  · rw [if_pos (by decide), if_neg (by decide)] at this
    have : wishM0 g x 1 = none := this
    unfold wishM0 at this
    rw [if_pos (by omega)] at this
    unfold wishE at this
    split at this
    · cases this
    · split at this <;> cases this
theorem good_enc {mf : Nat} {g : Nat → Nat → Nat} {x n0 n1 : Nat} (hx : wfM g x) (h0 : g 1 2 = n0) (h1 : g 1 3 = n1) (b0 : n0 ≤ 7) (b1 : n1 ≤ 7) (he : isEndM mf g x) : enc x / 65536 * 65536 = n0 * 65536 + n1 * 524288 ↔ isGoodM mf g x := by
  have c0 := end_cnt he (show 0 < 2 by decide)
  have c1 := end_cnt he (show 1 < 2 by decide)
  have z : ∀ h k, bitsN x (22 + 2 * h) 2 = 0 → dig x h k = 0 := fun h k e => by unfold dig; rw [if_neg (by omega)]
  obtain ⟨a, b, c, d, e, f, i⟩ := enc_f x
  rw [z 0 0 c0] at a
  rw [z 0 1 c0] at b
  rw [z 0 2 c0] at c
  rw [z 1 0 c1] at d
  rw [z 1 1 c1] at e
  rw [z 1 2 c1] at f
  have e0 := enc_0 x
  have x48 := hx.1
  unfold isGoodM
  rw [h0, h1]
  have key : (enc x / 65536 * 65536 = n0 * 65536 + n1 * 524288) ↔ (bitsN x 44 4 = 0 ∧ bitsN x 16 3 = n0 ∧ bitsN x 19 3 = n1) := by
    clear he hx c0 c1 z h0 h1
    unfold bitsN at *
    constructor
    · intro q; refine ⟨?_, ?_, ?_⟩ <;> omega
    · rintro ⟨p, q, r⟩; omega
  rw [key]
  exact ⟨fun q => ⟨q.1, q.2.1, q.2.2, he⟩, fun q => ⟨q.1, q.2.1, q.2.2.1⟩⟩
theorem broke_enc {x : Nat} : enc x / 2 ^ 40 % 4 = bitsN x 44 2 := by
  have : bitsN (enc x) 40 2 = bitsN x 44 2 := enc_hb (f := 0)
  exact this
theorem cnt_le {P : Nat → Bool} : ∀ n, cntN P n ≤ n := by
  intro n
  induction n with
  | zero => exact Nat.le_refl 0
  | succ n ih => rw [cntN]; split <;> omega
theorem cnt_congr {P Q : Nat → Bool} : ∀ n, (∀ i, i < n → P i = Q i) → cntN P n = cntN Q n := by
  intro n
  induction n with
  | zero => intro _; rfl
  | succ n ih => intro h; rw [cntN, cntN, ih (fun i hi => h i (by omega)), h n (Nat.lt_succ_self n)]
/-- the ends among the first i states -/
def endsI (mf : Nat) (g : Nat → Nat → Nat) (b : BT) (i en ge be : Nat) : Prop := en = cntN (fun j => endP mf g 0 (b.2.1 j)) i ∧ ge = cntN (fun j => endP mf g 1 (b.2.1 j)) i ∧ be = cntN (fun j => endP mf g 2 (b.2.1 j)) i
theorem endsI_0 {mf : Nat} {g : Nat → Nat → Nat} {b : BT} : endsI mf g b 0 0 0 0 := ⟨rfl, rfl, rfl⟩
theorem endsI_congr {mf : Nat} {g : Nat → Nat → Nat} {b b2 : BT} {i en ge be : Nat} (h : endsI mf g b i en ge be) (e : ∀ j, j < i → b2.2.1 j = b.2.1 j) : endsI mf g b2 i en ge be :=
  ⟨h.1.trans (cnt_congr i (fun j hj => by rw [e j hj])), h.2.1.trans (cnt_congr i (fun j hj => by rw [e j hj])), h.2.2.trans (cnt_congr i (fun j hj => by rw [e j hj]))⟩
theorem endsI_no {mf : Nat} {g : Nat → Nat → Nat} {b : BT} {i en ge be : Nat} (h : endsI mf g b i en ge be) (hn : ¬ isEndM mf g (b.2.1 i)) : endsI mf g b (i + 1) en ge be := by
  have z : ∀ wt, endP mf g wt (b.2.1 i) = false := fun wt => by unfold endP; rw [decide_eq_false hn]; rfl
  refine ⟨?_, ?_, ?_⟩
  · rw [cntN, h.1, z]; rfl
  · rw [cntN, h.2.1, z]; rfl
  · rw [cntN, h.2.2, z]; rfl
theorem endsI_yes {mf : Nat} {g : Nat → Nat → Nat} {b : BT} {i en ge be n0 n1 : Nat} (h : endsI mf g b i en ge be) (hx : wfM g (b.2.1 i)) (h0 : g 1 2 = n0) (h1 : g 1 3 = n1) (b0 : n0 ≤ 7) (b1 : n1 ≤ 7) (he : isEndM mf g (b.2.1 i)) : endsI mf g b (i + 1) (en + 1) (ge + (if enc (b.2.1 i) / 65536 * 65536 = n0 * 65536 + n1 * 524288 then 1 else 0)) (be + (if enc (b.2.1 i) / 2 ^ 40 % 4 = 0 then 0 else 1)) := by
  have gd := good_enc hx h0 h1 b0 b1 he
  refine ⟨?_, ?_, ?_⟩
  · rw [cntN, h.1]; unfold endP; rw [decide_eq_true he]; rfl
  · rw [cntN, h.2.1]
    unfold endP
    rw [decide_eq_true he]
    by_cases q : isGoodM mf g (b.2.1 i)
    · rw [if_pos (gd.mpr q), if_neg (show ¬ 1 = 0 by decide), if_pos rfl, decide_eq_true q]; rfl
    · rw [if_neg (fun z => q (gd.mp z))]; simp [q]
  · rw [cntN, h.2.2, broke_enc]
    unfold endP
    rw [decide_eq_true he]
    by_cases q : bitsN (b.2.1 i) 44 2 = 0
    · rw [if_pos q]; simp [q]
    · rw [if_neg q]; simp [q]

/-! PURE: the walks of programs with a fence more -/
def nuF (so nu : Nat → Nat) (at_ : Nat) : Nat → Nat := fun j => fenN so nu at_ (j / 4) (j % 4)
theorem nuF_w {so nu : Nat → Nat} {at_ i w : Nat} (hw : w < 4) : nuF so nu at_ (i * 4 + w) = fenN so nu at_ i w := by
  unfold nuF; rw [show (i * 4 + w) / 4 = i by omega, show (i * 4 + w) % 4 = w by omega]
def GXF (f : Nat → Nat) (g : Nat → Nat → Nat) (h at_ : Nat) : Nat → Nat → Nat := if h = 0 then gP (f 10 + 1) (fenS (g 14) at_) (nuF (g 14) (g 15) at_) (f 11) (g 17) (g 18) (g 11) (g 12) else gP (f 10) (g 14) (g 15) (f 11 + 1) (fenS (g 17) at_) (nuF (g 17) (g 18) at_) (g 11) (g 12)
def BXF (f : Nat → Nat) (g : Nat → Nat → Nat) (h at_ : Nat) : BT := walkB (f 9) (GXF f g h at_) (fun _ => 0) (fun _ => 0) (fun _ => 0) (fun _ => 0)
def fenP (so nu : Nat → Nat) (n at_ : Nat) (ss nn : Nat → Nat) : Prop := (∀ j, j < n + 1 → ss j = fenS so at_ j) ∧ (∀ j, j < n + 1 → j ≠ at_ → ∀ w, w < 4 → nn (j * 4 + w) = fenN so nu at_ j w) ∧ ∀ j, ss j < 2147483648 ∧ nn j < 2147483648
theorem fenN_ne {so nu : Nat → Nat} {at_ j w : Nat} (hw : w ≠ 2) : fenN so nu at_ j w = nu (fenI at_ j * 4 + w) := by unfold fenN; rw [if_neg (fun q => hw q.2.1)]
theorem fen_okS {so nu : Nat → Nat} {n at_ i : Nat} (hk : okQ n so nu) (h8 : ∀ i, i < n → so i = 8 → nu (i * 4 + 2) < 8) (ha : at_ < n) (hi : i < n + 1) (hne : i ≠ at_) : okS (fenS so at_ i) (fenN so nu at_ i 0) (fenN so nu at_ i 1) (fenN so nu at_ i 2) (fenN so nu at_ i 3) := by
  have hs : fenI at_ i < n := by unfold fenI; split <;> omega
  have o := hk _ hs
  rw [fenN_ne (show 0 ≠ 2 by decide), fenN_ne (show 1 ≠ 2 by decide), fenN_ne (show 3 ≠ 2 by decide)]
  unfold fenS
  rw [if_neg hne]
  unfold fenN
  split
  · rename_i q
    have e : fenI at_ i = i := fenI_lt q.2.2.1
    rw [e] at o hs q ⊢
    have := h8 i hs q.1
    obtain ⟨o0, o1, o2, o3, o4, o5, o6, o8⟩ := o
    exact ⟨o0, fun z => absurd (q.1.symm.trans z) (by decide), fun z => absurd (q.1.symm.trans z) (by decide), fun z => absurd (q.1.symm.trans z) (by decide), fun z => absurd (q.1.symm.trans z) (by decide), fun z => absurd (q.1.symm.trans z) (by decide), fun z => absurd (q.1.symm.trans z) (by decide), fun z => ⟨(o8 z).1, (o8 z).2.1, by omega⟩⟩
  · exact o
theorem fen_ok {so nu ss nn : Nat → Nat} {n at_ : Nat} (hk : okQ n so nu) (h8 : ∀ i, i < n → so i = 8 → nu (i * 4 + 2) < 8) (ha : at_ < n) (hF : fenP so nu n at_ ss nn) : okQ (n + 1) ss nn := fun i hi => by
  obtain ⟨a, b, -⟩ := hF
  rw [a i hi]
  by_cases q : i = at_
  · unfold fenS; rw [if_pos q]; exact okS_fence _ _ _ _
  · rw [b i hi q 0 (by decide), b i hi q 1 (by decide), b i hi q 2 (by decide), b i hi q 3 (by decide)]
    exact fen_okS hk h8 ha hi q
theorem fen_okC {so nu : Nat → Nat} {n at_ : Nat} (hk : okQ n so nu) (h8 : ∀ i, i < n → so i = 8 → nu (i * 4 + 2) < 8) (ha : at_ < n) : okQ (n + 1) (fenS so at_) (nuF so nu at_) := fun i hi => by
  by_cases q : i = at_
  · unfold fenS; rw [if_pos q]; exact okS_fence _ _ _ _
  · rw [nuF_w (by decide), nuF_w (by decide), nuF_w (by decide), nuF_w (by decide)]
    exact fen_okS hk h8 ha hi q
theorem host_eqL {g g' : Nat → Nat → Nat} {h : Nat} {so nu so' nu' : Nat → Nat} {n : Nat} (hR : hostR g h so nu n) (hR' : hostR g' h so' nu' n) (hn : n ≤ 7) (hs : ∀ i, i < n → so i = so' i) (hN : ∀ i, i < n → ∀ w, w < arM (so i) → nu (i * 4 + w) = nu' (i * 4 + w)) : g 1 (2 + h) = g' 1 (2 + h) ∧ ∀ i, i < g 1 (2 + h) → g 2 (16 + 8 * h + i) = g' 2 (16 + 8 * h + i) ∧ ∀ w, w < arM (g 2 (16 + 8 * h + i)) → g 3 (4 * (16 + 8 * h + i) + w) = g' 3 (4 * (16 + 8 * h + i) + w) := by
  obtain ⟨a, b, c⟩ := hR
  obtain ⟨a', b', c'⟩ := hR'
  rw [a, a']
  refine ⟨rfl, fun i hi => ?_⟩
  rw [b i (by omega), b' i (by omega)]
  refine ⟨hs i hi, fun w hw => ?_⟩
  have h4 : w < 4 := by unfold arM at hw; split at hw <;> (try split at hw) <;> (try split at hw) <;> omega
  rw [c i w (by omega) h4, c' i w (by omega) h4]
  exact hN i hi w hw
theorem fen_num {so nu ss nn : Nat → Nat} {n at_ : Nat} (hF : fenP so nu n at_ ss nn) : ∀ i, i < n + 1 → ∀ w, w < arM (ss i) → nn (i * 4 + w) = nuF so nu at_ (i * 4 + w) := fun i hi w hw => by
  have h4 : w < 4 := by unfold arM at hw; split at hw <;> (try split at hw) <;> (try split at hw) <;> omega
  rw [nuF_w h4]
  refine hF.2.1 i hi (fun q => ?_) w h4
  rw [hF.1 i hi] at hw
  unfold fenS at hw
  rw [if_pos q] at hw
  exact absurd hw (by unfold arM; simp)
theorem eqL_two {g g' : Nat → Nat → Nat} (h0 : g 1 (2 + 0) = g' 1 (2 + 0) ∧ ∀ i, i < g 1 (2 + 0) → g 2 (16 + 8 * 0 + i) = g' 2 (16 + 8 * 0 + i) ∧ ∀ w, w < arM (g 2 (16 + 8 * 0 + i)) → g 3 (4 * (16 + 8 * 0 + i) + w) = g' 3 (4 * (16 + 8 * 0 + i) + w)) (h1 : g 1 (2 + 1) = g' 1 (2 + 1) ∧ ∀ i, i < g 1 (2 + 1) → g 2 (16 + 8 * 1 + i) = g' 2 (16 + 8 * 1 + i) ∧ ∀ w, w < arM (g 2 (16 + 8 * 1 + i)) → g 3 (4 * (16 + 8 * 1 + i) + w) = g' 3 (4 * (16 + 8 * 1 + i) + w)) (h4 : ∀ w, w < 4 → g 4 w = g' 4 w ∧ g 5 w = g' 5 w) : eqL g g' := ⟨fun h hh => by
  rcases (show h = 0 ∨ h = 1 by omega) with rfl | rfl
  · exact h0
  · exact h1, h4⟩
/-- the walk of any laying with the fence is that of the one -/
theorem eqB_fen0 {L : Nat} {f : Nat → Nat} {g : Nat → Nat → Nat} {at_ : Nat} {ss nn : Nat → Nat} (hX : XBase L f g) (h6 : f 10 ≤ 6) (ha : at_ < f 10) (hF : fenP (g 14) (g 15) (f 10) at_ ss nn) : eqB (walkB (f 9) (gP (f 10 + 1) ss nn (f 11) (g 17) (g 18) (g 11) (g 12)) (fun _ => 0) (fun _ => 0) (fun _ => 0) (fun _ => 0)) (BXF f g 0 at_) := by
  unfold BXF GXF
  rw [if_pos rfl]
  exact (walk_congr (eqL_two (host_eqL gP_0 gP_0 (by omega) hF.1 (fen_num hF)) (host_eqL gP_1 gP_1 hX.2.1.2.1 (fun _ _ => rfl) (fun _ _ _ _ => rfl)) (fun _ _ => ⟨rfl, rfl⟩)) (okL_gP (by omega) hX.2.1.2.1 (fen_ok hX.2.1.2.2.1 hX.2.1.2.2.2.2.1 ha hF) hX.2.1.2.2.2.1) hX.2.2.2.1.1).1
theorem eqB_fen1 {L : Nat} {f : Nat → Nat} {g : Nat → Nat → Nat} {at_ : Nat} {ss nn : Nat → Nat} (hX : XBase L f g) (h6 : f 11 ≤ 6) (ha : at_ < f 11) (hF : fenP (g 17) (g 18) (f 11) at_ ss nn) : eqB (walkB (f 9) (gP (f 10) (g 14) (g 15) (f 11 + 1) ss nn (g 11) (g 12)) (fun _ => 0) (fun _ => 0) (fun _ => 0) (fun _ => 0)) (BXF f g 1 at_) := by
  unfold BXF GXF
  rw [if_neg (by decide)]
  exact (walk_congr (eqL_two (host_eqL gP_0 gP_0 hX.2.1.1 (fun _ _ => rfl) (fun _ _ _ _ => rfl)) (host_eqL gP_1 gP_1 (by omega) hF.1 (fen_num hF)) (fun _ _ => ⟨rfl, rfl⟩)) (okL_gP hX.2.1.1 (by omega) hX.2.1.2.2.1 (fen_ok hX.2.1.2.2.2.1 hX.2.1.2.2.2.2.2 ha hF)) hX.2.2.2.1.1).1
theorem Rep_congr {B B' : BT} {ts og : Nat → Nat} (h : eqB B B') (hR : RepB B ts og) : RepB B' ts og := by
  obtain ⟨e, q⟩ := h
  refine ⟨fun i hi => ?_, hR.2.1, fun i h0 hi => ?_⟩
  · rw [← (q i (by omega)).1]; exact hR.1 i (by omega)
  · obtain ⟨-, b, c, -⟩ := q i (by omega)
    rw [← b, ← c]; exact hR.2.2 i h0 (by omega)
theorem firstC_congr {en pa pb n0 n1 cn : Nat} {ts ts' : Nat → Nat} (h : ∀ i, i < cn → ts i = ts' i) : firstC en pa pb n0 n1 ts cn = firstC en pa pb n0 n1 ts' cn := by
  unfold firstC
  split
  · exact findN_congr (fun i hi => by rw [h i hi])
  · exact findN_congr (fun i hi => by rw [h i hi])
/-- what firstStateBehindFence answers -/
def resF (f : Nat → Nat) (g : Nat → Nat → Nat) (h at_ en pa pb : Nat) : Nat := if (BXF f g h at_).1 ≤ 12000 then firstC en (if en = 0 ∧ h = 0 ∧ at_ ≤ pa then pa + 1 else pa) (if en = 0 ∧ h = 1 ∧ at_ ≤ pb then pb + 1 else pb) (if h = 0 then f 10 + 1 else f 10) (if h = 1 then f 11 + 1 else f 11) (fun i => enc ((BXF f g h at_).2.1 i)) (BXF f g h at_).1 else 4294967294
theorem rep_first {B : BT} {ts og : Nat → Nat} {en pa pb n0 n1 : Nat} (hR : RepB B ts og) : firstC en pa pb n0 n1 ts B.1 = firstC en pa pb n0 n1 (fun i => enc (B.2.1 i)) B.1 := firstC_congr (fun i hi => (hR.1 i hi).1)
theorem rep_first2 {B B' : BT} {ts og : Nat → Nat} {en pa pb n0 n1 cn : Nat} (hE : eqB B B') (hR : RepB B ts og) (hc : cn = B.1) : firstC en pa pb n0 n1 ts cn = firstC en pa pb n0 n1 (fun i => enc (B'.2.1 i)) B'.1 := by
  rw [hc, hE.1]; exact rep_first (Rep_congr hE hR)
/-- a fence's number that is asked about -/
def fcOK (f : Nat → Nat) (e : Nat) : Prop := (e / 8 = 0 ∧ e % 8 < f 10 ∧ f 10 < 7) ∨ (e / 8 = 1 ∧ e % 8 < f 11 ∧ f 11 < 7)
def resE (f : Nat → Nat) (g : Nat → Nat → Nat) (en pa pb e : Nat) : Nat := resF f g (e / 8) (e % 8) en pa pb
def passd (f : Nat → Nat) (g : Nat → Nat → Nat) (en pa pb fe : Nat) : Prop := ∀ e, e < fe → fcOK f e → resE f g en pa pb e < 2147483648
def bigU (f : Nat → Nat) (g : Nat → Nat → Nat) (en pa pb fe : Nat) : Prop := (f 1 = 0 ∧ 700 < (BX f g).1) ∨ ∃ e, e < fe ∧ fcOK f e ∧ passd f g en pa pb e ∧ 700 < (BXF f g (e / 8) (e % 8)).1
/-- whether a walk that missing() makes is a long one -/
def bigA (f : Nat → Nat) (g : Nat → Nat → Nat) (en pa pb : Nat) : Prop := (f 1 = 0 ∧ 700 < (BX f g).1) ∨ ((BX f g).1 ≤ 12000 ∧ ¬ firstC en pa pb (f 10) (f 11) (fun i => enc ((BX f g).2.1 i)) (BX f g).1 = 4294967295 ∧ ∃ e, e < 16 ∧ fcOK f e ∧ passd f g en pa pb e ∧ 700 < (BXF f g (e / 8) (e % 8)).1)
def scanC (f : Nat → Nat) (g : Nat → Nat → Nat) (en pa pb : Nat) (dec : Nat → Bool) : Nat → Nat → Nat
  | 0, _ => 4294967295
  | k + 1, e => if dec e = true then (if 2147483648 ≤ resE f g en pa pb e then (if resE f g en pa pb e = 4294967294 then 4294967294 else e) else scanC f g en pa pb dec k (e + 1)) else scanC f g en pa pb dec k (e + 1)
def fcB (f : Nat → Nat) (e : Nat) : Bool := decide (e / 8 = 0 ∧ e % 8 < f 10 ∧ f 10 < 7) || decide (e / 8 = 1 ∧ e % 8 < f 11 ∧ f 11 < 7)
theorem fcB_iff {f : Nat → Nat} {e : Nat} : fcB f e = true ↔ fcOK f e := by unfold fcB fcOK; simp
def missC (f : Nat → Nat) (g : Nat → Nat → Nat) (en pa pb : Nat) : Nat := if (BX f g).1 ≤ 12000 then (if firstC en pa pb (f 10) (f 11) (fun i => enc ((BX f g).2.1 i)) (BX f g).1 = 4294967295 then 4294967295 else scanC f g en pa pb (fcB f) 16 0) else 4294967294
theorem scan_none {f : Nat → Nat} {g : Nat → Nat → Nat} {en pa pb : Nat} : ∀ k e, passd f g en pa pb (e + k) → scanC f g en pa pb (fcB f) k e = 4294967295 := by
  intro k
  induction k with
  | zero => intro e _; rfl
  | succ k ih =>
    intro e h
    rw [scanC, ih (e + 1) (by rw [show e + 1 + k = e + (k + 1) by omega]; exact h)]
    by_cases q : fcB f e = true
    · have := h e (by omega) (fcB_iff.mp q)
      rw [if_pos q, if_neg (by omega)]
    · rw [if_neg q]
theorem scan_at {f : Nat → Nat} {g : Nat → Nat → Nat} {en pa pb fe : Nat} (hk : fcOK f fe) (hp : passd f g en pa pb fe) (hr : 2147483648 ≤ resE f g en pa pb fe) : ∀ k e, e ≤ fe → fe < e + k → scanC f g en pa pb (fcB f) k e = (if resE f g en pa pb fe = 4294967294 then 4294967294 else fe) := by
  intro k
  induction k with
  | zero => intro e h1 h2; omega
  | succ k ih =>
    intro e h1 h2
    rw [scanC]
    by_cases z : e = fe
    · subst z; rw [if_pos (fcB_iff.mpr hk), if_pos hr]
    · rw [ih (e + 1) (by omega) (by omega)]
      by_cases q : fcB f e = true
      · have := hp e (by omega) (fcB_iff.mp q)
        rw [if_pos q, if_neg (by omega)]
      · rw [if_neg q]
theorem pass_skip {f : Nat → Nat} {g : Nat → Nat → Nat} {en pa pb lo hi : Nat} (hp : passd f g en pa pb lo) (hs : ∀ e, lo ≤ e → e < hi → ¬ fcOK f e) : passd f g en pa pb hi := fun e he hk => by
  by_cases q : e < lo
  · exact hp e q hk
  · exact absurd hk (hs e (by omega) he)
theorem big_skip {f : Nat → Nat} {g : Nat → Nat → Nat} {en pa pb lo hi : Nat} (hlh : lo ≤ hi) (hs : ∀ e, lo ≤ e → e < hi → ¬ fcOK f e) : bigU f g en pa pb hi ↔ bigU f g en pa pb lo := by
  constructor
  · rintro (h | ⟨e, a, b, c⟩)
    · exact Or.inl h
    · by_cases q : e < lo
      · exact Or.inr ⟨e, q, b, c⟩
      · exact absurd b (hs e (by omega) a)
  · rintro (h | ⟨e, a, b, c⟩)
    · exact Or.inl h
    · exact Or.inr ⟨e, by omega, b, c⟩
theorem big_step {f : Nat → Nat} {g : Nat → Nat → Nat} {en pa pb fe : Nat} (hk : fcOK f fe) (hp : passd f g en pa pb fe) : bigU f g en pa pb (fe + 1) ↔ (bigU f g en pa pb fe ∨ 700 < (BXF f g (fe / 8) (fe % 8)).1) := by
  constructor
  · rintro (h | ⟨e, a, b, c, d⟩)
    · exact Or.inl (Or.inl h)
    · by_cases q : e = fe
      · subst q; exact Or.inr d
      · exact Or.inl (Or.inr ⟨e, by omega, b, c, d⟩)
  · rintro ((h | ⟨e, a, b, c⟩) | h)
    · exact Or.inl h
    · exact Or.inr ⟨e, by omega, b, c⟩
    · exact Or.inr ⟨fe, Nat.lt_succ_self _, hk, hp, h⟩
theorem pass_step {f : Nat → Nat} {g : Nat → Nat → Nat} {en pa pb fe : Nat} (hp : passd f g en pa pb fe) (hr : resE f g en pa pb fe < 2147483648) : passd f g en pa pb (fe + 1) := fun e he hk => by
  by_cases q : e = fe
  · subst q; exact hr
  · exact hp e (by omega) hk
theorem big_end {f : Nat → Nat} {g : Nat → Nat → Nat} {en pa pb fe : Nat} (hb : (BX f g).1 ≤ 12000) (hn : ¬ firstC en pa pb (f 10) (f 11) (fun i => enc ((BX f g).2.1 i)) (BX f g).1 = 4294967295) (hfe : fe < 16) (hk : fcOK f fe) (hr : 2147483648 ≤ resE f g en pa pb fe) : bigA f g en pa pb ↔ bigU f g en pa pb (fe + 1) := by
  constructor
  · rintro (h | ⟨-, -, e, a, b, c, d⟩)
    · exact Or.inl h
    · by_cases q : e < fe + 1
      · exact Or.inr ⟨e, q, b, c, d⟩
      · have := c fe (by omega) hk; omega
  · rintro (h | ⟨e, a, b, c, d⟩)
    · exact Or.inl h
    · exact Or.inr ⟨hb, hn, e, by omega, b, c, d⟩
theorem big_all {f : Nat → Nat} {g : Nat → Nat → Nat} {en pa pb : Nat} (hb : (BX f g).1 ≤ 12000) (hn : ¬ firstC en pa pb (f 10) (f 11) (fun i => enc ((BX f g).2.1 i)) (BX f g).1 = 4294967295) : bigA f g en pa pb ↔ bigU f g en pa pb 16 := by
  constructor
  · rintro (h | ⟨-, -, h⟩)
    · exact Or.inl h
    · exact Or.inr h
  · rintro (h | h)
    · exact Or.inl h
    · exact Or.inr ⟨hb, hn, h⟩
theorem big_no {f : Nat → Nat} {g : Nat → Nat → Nat} {en pa pb : Nat} (hb : ¬ ((BX f g).1 ≤ 12000 ∧ ¬ firstC en pa pb (f 10) (f 11) (fun i => enc ((BX f g).2.1 i)) (BX f g).1 = 4294967295)) : bigA f g en pa pb ↔ (f 1 = 0 ∧ 700 < (BX f g).1) := by
  constructor
  · rintro (h | ⟨a, b, -⟩)
    · exact h
    · exact absurd ⟨a, b⟩ hb
  · exact fun h => Or.inl h

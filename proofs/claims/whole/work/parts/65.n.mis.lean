/-! PURE: the class's fences and the reference's -/
theorem lay_other {g : Nat → Nat → Nat} {fe h : Nat} (no : ¬ fIn g fe h) : layL g fe h = g 1 h ∧ (∀ i, layS g fe h i = g 2 (8 * h + i)) ∧ ∀ i w, layN g fe h i w = g 3 (4 * (8 * h + i) + w) := by
  have sr : ∀ i, laySrc g fe h i = i := fun i => by unfold laySrc; rw [if_neg (fun z => no z.1)]
  refine ⟨by unfold layL; rw [if_neg no], fun i => ?_, fun i w => ?_⟩
  · unfold layS; rw [if_neg (fun z => no z.1), sr]
  · unfold layN; rw [if_neg (fun z => no z.2.2.1), sr]
theorem lay_fen {mg : Nat → Nat → Nat} {so nu : Nat → Nat} {n h at_ : Nat} (hn : n = mg 1 h) (ha : at_ < n) (h8 : at_ < 8) (hp : progR n so nu mg h) : layL mg (8 * h + at_) h = n + 1 ∧ ∀ i, i < n + 1 → layS mg (8 * h + at_) h i = fenS so at_ i ∧ ∀ w, w < arM (fenS so at_ i) → layN mg (8 * h + at_) h i w = fenN so nu at_ i w := by
  have d : (8 * h + at_) / 8 = h := by omega
  have m : (8 * h + at_) % 8 = at_ := by omega
  have q : fIn mg (8 * h + at_) h := ⟨d, by rw [m, ← hn]; exact ha⟩
  refine ⟨by unfold layL; rw [if_pos q, hn], fun i hi => ?_⟩
  by_cases e : i = at_
  · have s4 : fenS so at_ i = 4 := by unfold fenS; rw [if_pos e]
    refine ⟨?_, fun w hw => ?_⟩
    · unfold layS; rw [if_pos ⟨q, by rw [m]; exact e⟩, s4]
    · rw [s4] at hw; exact absurd hw (by unfold arM; simp)
  · have src : laySrc mg (8 * h + at_) h i = fenI at_ i := by
      unfold laySrc fenI
      by_cases c : i < at_
      · rw [if_neg (fun z => Nat.lt_asymm c (m ▸ z.2)), if_pos c]
      · rw [if_pos ⟨q, by rw [m]; omega⟩, if_neg c]
    have lt : fenI at_ i < n := by unfold fenI; split <;> omega
    obtain ⟨p1, p2⟩ := hp _ lt
    have ss : fenS so at_ i = so (fenI at_ i) := by unfold fenS; rw [if_neg e]
    refine ⟨?_, fun w hw => ?_⟩
    · unfold layS; rw [if_neg (fun z => e (z.2.trans m)), src, ss, p1]
    · rw [ss] at hw
      unfold layN fenN
      rw [src, ← p1]
      by_cases c : so (fenI at_ i) = 8 ∧ w = 2 ∧ i < at_
      · obtain ⟨c1, c2, c3⟩ := c
        have fi : fenI at_ i = i := fenI_lt c3
        have nn := p2 w hw
        rw [fi, c2] at nn
        rw [nn]
        by_cases b : at_ ≤ i + mg 3 (4 * (8 * h + i) + 2)
        · rw [if_pos ⟨c1, c2, q, by rw [m]; exact c3, by rw [m]; exact b⟩, if_pos ⟨c1, c2, c3, b⟩]
        · rw [if_neg (fun z => b (m ▸ z.2.2.2.2)), if_neg (fun z => b z.2.2.2)]; exact (p2 w hw).symm
      · rw [if_neg (fun z => c ⟨z.1, z.2.1, m ▸ z.2.2.2.1⟩), if_neg (fun z => c ⟨z.1, z.2.1, z.2.2.1⟩)]; exact (p2 w hw).symm
theorem host_lay {G mg : Nat → Nat → Nat} {fe h n : Nat} {so nu : Nat → Nat} (hh : h < 2) (hn : n ≤ 7) (hR : hostR G h so nu n) (l1 : layL mg fe h = n) (l2 : ∀ i, i < n → layS mg fe h i = so i ∧ ∀ w, w < arM (so i) → layN mg fe h i w = nu (i * 4 + w)) : G 1 (2 + h) = (layG mg fe) 1 (2 + h) ∧ ∀ i, i < G 1 (2 + h) → G 2 (16 + 8 * h + i) = (layG mg fe) 2 (16 + 8 * h + i) ∧ ∀ w, w < arM (G 2 (16 + 8 * h + i)) → G 3 (4 * (16 + 8 * h + i) + w) = (layG mg fe) 3 (4 * (16 + 8 * h + i) + w) := by
  obtain ⟨r1, r2, r3⟩ := hR
  rw [layG_1 hh, l1, r1]
  refine ⟨rfl, fun i hi => ?_⟩
  rw [layG_2 (by omega), r2 i (by omega)]
  refine ⟨(l2 i hi).1.symm, fun w hw => ?_⟩
  have h4 : w < 4 := by unfold arM at hw; split at hw <;> (try split at hw) <;> (try split at hw) <;> omega
  rw [layG_3 (by omega) h4, r3 i w (by omega) h4]
  exact ((l2 i hi).2 w hw).symm
abbrev fcH (f : Nat → Nat) (h at_ : Nat) : Prop := (h = 0 ∧ at_ < f 10 ∧ f 10 < 7) ∨ (h = 1 ∧ at_ < f 11 ∧ f 11 < 7)
theorem okL_GXF {L : Nat} {f : Nat → Nat} {g : Nat → Nat → Nat} {h at_ : Nat} (hX : XBase L f g) (hc : fcH f h at_) : okL (GXF f g h at_) := by
  unfold GXF
  rcases hc with ⟨rfl, a, b⟩ | ⟨rfl, a, b⟩
  · rw [if_pos rfl]
    exact okL_gP (by omega) hX.2.1.2.1 (fen_okC hX.2.1.2.2.1 hX.2.1.2.2.2.2.1 a) hX.2.1.2.2.2.1
  · rw [if_neg (by decide)]
    exact okL_gP hX.2.1.1 (by omega) hX.2.1.2.2.1 (fen_okC hX.2.1.2.2.2.1 hX.2.1.2.2.2.2.2 a)
theorem prog_lay {mg : Nat → Nat → Nat} {so nu : Nat → Nat} {n h fe : Nat} (no : ¬ fIn mg fe h) (hn : n = mg 1 h) (hp : progR n so nu mg h) : layL mg fe h = n ∧ ∀ i, i < n → layS mg fe h i = so i ∧ ∀ w, w < arM (so i) → layN mg fe h i w = nu (i * 4 + w) := by
  obtain ⟨l1, l2, l3⟩ := lay_other no
  refine ⟨l1.trans hn.symm, fun i hi => ⟨(l2 i).trans (hp i hi).1.symm, fun w hw => (l3 i w).trans ((hp i hi).2 w hw).symm⟩⟩
theorem fen_lay {mg : Nat → Nat → Nat} {so nu : Nat → Nat} {n h at_ : Nat} (hn : n = mg 1 h) (ha : at_ < n) (h8 : at_ < 8) (hp : progR n so nu mg h) : layL mg (8 * h + at_) h = n + 1 ∧ ∀ i, i < n + 1 → layS mg (8 * h + at_) h i = fenS so at_ i ∧ ∀ w, w < arM (fenS so at_ i) → layN mg (8 * h + at_) h i w = nuF so nu at_ (i * 4 + w) := by
  obtain ⟨l1, l2⟩ := lay_fen hn ha h8 hp
  refine ⟨l1, fun i hi => ⟨(l2 i hi).1, fun w hw => ?_⟩⟩
  have h4 : w < 4 := by unfold arM at hw; split at hw <;> (try split at hw) <;> (try split at hw) <;> omega
  rw [nuF_w h4]; exact (l2 i hi).2 w hw
theorem eqL_XF {L : Nat} {f : Nat → Nat} {g : Nat → Nat → Nat} {mf : Nat → Nat} {mg : Nat → Nat → Nat} {h at_ : Nat} (hX : XBase L f g) (hr : XR f g mf mg) (hc : fcH f h at_) : eqL (GXF f g h at_) (layG mg (8 * h + at_)) := by
  obtain ⟨-, b, ⟨c0, c1, c2, c3⟩, -, -⟩ := hr
  unfold GXF
  rcases hc with ⟨rfl, x, y⟩ | ⟨rfl, x, y⟩
  · rw [if_pos rfl]
    have A := fen_lay (h := 0) c0 x (by omega) c2
    have B := prog_lay (h := 1) (fe := 8 * 0 + at_) (fun z => by have := z.1; omega) c1 c3
    exact eqL_two (host_lay (by decide) (by omega) gP_0 A.1 A.2) (host_lay (by decide) hX.2.1.2.1 gP_1 B.1 B.2) b
  · rw [if_neg (by decide)]
    have A := prog_lay (h := 0) (fe := 8 * 1 + at_) (fun z => by have := z.1; omega) c0 c2
    have B := fen_lay (h := 1) c1 x (by omega) c3
    exact eqL_two (host_lay (by decide) hX.2.1.1 gP_0 A.1 A.2) (host_lay (by decide) (by omega) gP_1 B.1 B.2) b
theorem GXF_4 {L : Nat} {f : Nat → Nat} {g : Nat → Nat → Nat} {h at_ : Nat} (hX : XBase L f g) : ∀ w, w < 4 → GXF f g h at_ 4 w < 4 := by
  unfold GXF
  split <;> exact hX.2.2.2.1.1
theorem GXF_n {f : Nat → Nat} {g : Nat → Nat → Nat} {h at_ : Nat} (hh : h < 2) : GXF f g h at_ 1 2 = (if h = 0 then f 10 + 1 else f 10) ∧ GXF f g h at_ 1 3 = (if h = 1 then f 11 + 1 else f 11) := by
  unfold GXF
  rcases (show h = 0 ∨ h = 1 by omega) with rfl | rfl
  · exact ⟨rfl, rfl⟩
  · exact ⟨rfl, rfl⟩
theorem eqB_XF {L : Nat} {f : Nat → Nat} {g : Nat → Nat → Nat} {mf : Nat → Nat} {mg : Nat → Nat → Nat} {h at_ : Nat} (hX : XBase L f g) (hr : XR f g mf mg) (hc : fcH f h at_) : eqB (BXF f g h at_) (WALK (mf 5) mg (8 * h + at_)) ∧ BInv (GXF f g h at_) (BXF f g h at_) := by
  unfold BXF WALK
  rw [hr.1.2.2.2.2]
  exact walk_congr (eqL_XF hX hr hc) (okL_GXF hX hc) (GXF_4 hX)
/-- what missing asks about -/
abbrev askOK (f : Nat → Nat) (en pa pb : Nat) : Prop := (en = 0 → pa ≤ f 10 ∧ pb ≤ f 11) ∧ (¬ en = 0 → pa ≤ 255 ∧ pb ≤ 15)
theorem resF_bar {L : Nat} {f : Nat → Nat} {g : Nat → Nat → Nat} {mf : Nat → Nat} {mg : Nat → Nat → Nat} {h at_ en pa pb : Nat} (hX : XBase L f g) (hr : XR f g mf mg) (hc : fcH f h at_) (hq : askOK f en pa pb) : resF f g h at_ en pa pb = (if 12000 < (WALK (mf 5) mg (8 * h + at_)).1 then 4294967294 else barN (mf 5) (layG mg (8 * h + at_)) (WALK (mf 5) mg (8 * h + at_)).1 (WALK (mf 5) mg (8 * h + at_)).2.1 (8 * h + at_) en pa pb) := by
  obtain ⟨eb, bi⟩ := eqB_XF hX hr hc
  have hh : h < 2 := by rcases hc with ⟨rfl, -⟩ | ⟨rfl, -⟩ <;> decide
  have x7 := hX.2.1.1
  have y7 := hX.2.1.2.1
  unfold resF
  by_cases c : (BXF f g h at_).1 ≤ 12000
  · have nz : ¬ 12000 < (WALK (mf 5) mg (8 * h + at_)).1 := by rw [← eb.1]; omega
    rw [if_pos c, if_neg nz, ← bar_congr (eqL_XF hX hr hc) (okL_GXF hX hc) (fun i hi => (bi.2 i hi).1) eb]
    refine first_bar (okL_GXF hX hc) bi (fun _ _ => rfl) (GXF_n hh).1 (GXF_n hh).2 (fun e => ?_) (fun e => ?_)
    · obtain ⟨p1, p2⟩ := hq.1 e
      rcases hc with ⟨rfl, x, y⟩ | ⟨rfl, x, y⟩
      · have d : (8 * 0 + at_) / 8 = 0 := by omega
        have m : (8 * 0 + at_) % 8 = at_ := by omega
        rw [d, m]
        refine ⟨⟨by split <;> omega, by split <;> omega⟩, ?_, ?_⟩
        · by_cases z : at_ ≤ pa
          · rw [if_pos ⟨e, rfl, z⟩, if_pos ⟨rfl, z⟩]
          · rw [if_neg (fun k => z k.2.2), if_neg (fun k => z k.2)]
        · rw [if_neg (fun k => absurd k.2.1 (by decide)), if_neg (fun k => absurd k.1 (by decide))]
      · have d : (8 * 1 + at_) / 8 = 1 := by omega
        have m : (8 * 1 + at_) % 8 = at_ := by omega
        rw [d, m]
        refine ⟨⟨by split <;> omega, by split <;> omega⟩, ?_, ?_⟩
        · rw [if_neg (fun k => absurd k.2.1 (by decide)), if_neg (fun k => absurd k.1 (by decide))]
        · by_cases z : at_ ≤ pb
          · rw [if_pos ⟨e, rfl, z⟩, if_pos ⟨rfl, z⟩]
          · rw [if_neg (fun k => z k.2.2), if_neg (fun k => z k.2)]
    · obtain ⟨p1, p2⟩ := hq.2 e
      refine ⟨⟨by rw [if_neg (fun k => e k.1)], by rw [if_neg (fun k => e k.1)]⟩, by omega, by omega⟩
  · have nz : 12000 < (WALK (mf 5) mg (8 * h + at_)).1 := by rw [← eb.1]; omega
    rw [if_neg c, if_pos nz]
theorem barN_or (mf : Nat) (g : Nat → Nat → Nat) (n : Nat) (t : Nat → Nat) (fe en pa pb : Nat) : barN mf g n t fe en pa pb = 4294967295 ∨ barN mf g n t fe en pa pb < n := by
  unfold barN
  split
  · exact findN_or _ _
  · exact findN_or _ _
/-- the scan over the fences -/
theorem scan_find {L : Nat} {f : Nat → Nat} {g : Nat → Nat → Nat} {mf : Nat → Nat} {mg : Nat → Nat → Nat} {en pa pb : Nat} (hX : XBase L f g) (hr : XR f g mf mg) (hq : askOK f en pa pb) : ∀ k e, e + k ≤ 16 → scanC f g en pa pb (fcB f) k e = findR (mf 5) mg en pa pb k e := by
  intro k
  induction k with
  | zero => intro e _; rfl
  | succ k ih =>
    intro e he
    have I := ih (e + 1) (by omega)
    have x7 := hX.2.1.1
    have y7 := hX.2.1.2.1
    have c0 := hr.2.2.1.1
    have c1 := hr.2.2.1.2.1
    rw [scanC, findR, I]
    by_cases c : fcOK f e
    · rw [if_pos (fcB_iff.mpr c)]
      have n7 : ¬ mg 1 (e / 8) = 7 ∧ e % 8 < mg 1 (e / 8) := by
        rcases c with ⟨a, b, d⟩ | ⟨a, b, d⟩
        · rw [a, ← c0]; exact ⟨by omega, b⟩
        · rw [a, ← c1]; exact ⟨by omega, b⟩
      rw [if_neg n7.1, if_pos n7.2]
      have R := resF_bar hX hr (h := e / 8) (at_ := e % 8) c hq
      rw [show 8 * (e / 8) + e % 8 = e by omega] at R
      unfold resE
      rw [R]
      by_cases z : 12000 < (WALK (mf 5) mg e).1
      · rw [if_pos z, if_pos z, if_pos (by decide), if_pos rfl]
      · rw [if_neg z, if_neg z]
        rcases barN_or (mf 5) (layG mg e) (WALK (mf 5) mg e).1 (WALK (mf 5) mg e).2.1 e en pa pb with o | o
        · rw [o, if_pos (by decide), if_neg (by decide), if_pos (by decide)]
        · rw [if_neg (by omega), if_neg (by omega)]
    · rw [if_neg (fun z => c (fcB_iff.mp z))]
      by_cases s : mg 1 (e / 8) = 7
      · rw [if_pos s]
      · rw [if_neg s, if_neg (fun z => c ?_)]
        rcases (show e / 8 = 0 ∨ e / 8 = 1 by omega) with a | a
        · rw [a, ← c0] at s z; exact Or.inl ⟨a, z, by omega⟩
        · rw [a, ← c1] at s z; exact Or.inr ⟨a, z, by omega⟩

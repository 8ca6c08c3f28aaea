/-! LAW: what each call keeps of the two objects together -/
def lawI (n : Nat) (u : XSt) (v : MSt) : Prop := xOK u v ∧ u.2.2.2.1 6 < 2147483648 ∧ u.2.2.2.1 12 ≤ 15 * n
def lawN (n : Nat) (u u' : XSt) (v' : MSt) : Prop := lawI (n + 1) u' v' ∧ u'.1 0 = u.1 0
def lawR (L c k : Nat) : Prop := c ≤ 40 ∧ k ≤ 130000 ∧ (L = 700 → c ≤ 37 ∧ k ≤ 89616)
theorem lawR_up {P : Prop} {L L1 c k c0 s0 : Nat} (h : lawR L c k) (h1 : P → c0 = 3 ∧ s0 = 40384) (h2 : ¬ P → c0 = 0 ∧ s0 = 0) (hP : P → L = 700 ∧ L1 = 12000) (hN : ¬ P → L1 = L ∨ L1 = 12000) : lawR L1 (c + c0) (k + s0) := by
  obtain ⟨a, b, d⟩ := h
  by_cases q : P
  · obtain ⟨x, y⟩ := h1 q
    obtain ⟨z, w⟩ := hP q
    have := d z
    exact ⟨by omega, by omega, fun t => by omega⟩
  · obtain ⟨x, y⟩ := h2 q
    rcases hN q with z | z
    · exact ⟨by omega, by omega, fun t => by have := d (z ▸ t); omega⟩
    · exact ⟨by omega, by omega, fun t => by omega⟩
theorem lawI_up {n : Nat} {u : XSt} {v : MSt} (h : lawI n u v) : lawI (n + 1) u v := ⟨h.1, h.2.1, by have := h.2.2; omega⟩
section STP
variable {ad : Nat → Nat} {ka : Nat → ClassId} {L : Nat} {f : Nat → Nat} {g : Nat → Nat → Nat} {mf : Nat → Nat} {mg : Nat → Nat → Nat} {mt : Nat → Nat} {n : Nat} {r r' : Int32} {u : XSt} {v : MSt}
theorem s_same (h : lawI n (ad, ka, L, f, g) (mf, mg, mt)) : lawN n (ad, ka, L, f, g) (ad, ka, L, f, g) (mf, mg, mt) := ⟨lawI_up h, rfl⟩
theorem s_feed {va vb vc vd ve : Nat} (h : lawI n (ad, ka, L, f, g) (mf, mg, mt)) (hc : (f 0 + 20 ≤ 200 → r = nI (f 0 + 20) ∧ u = (ad, ka, L, upN f 0 (f 0 + 20), upA g 1 (tapeC20 (g 1) (f 0) va vb vc vd ve))) ∧ (¬ (f 0 + 20 ≤ 200) → r = nI 4294967295 ∧ u = (ad, ka, L, f, g))) (hm : (mf 7 + 20 ≤ 200 → r' = nI (mf 7 + 20) ∧ v = (upN mf 7 (mf 7 + 20), upA mg 6 (tape20 (mg 6) (mf 7) va vb vc vd ve), mt)) ∧ (¬ (mf 7 + 20 ≤ 200) → r' = nI 4294967295 ∧ v = (mf, mg, mt))) : r = r' ∧ lawN n (ad, ka, L, f, g) u v ∧ u.2.2.1 = L := by
  have h0 := h
  obtain ⟨⟨hX, hr, hI⟩, h6, h12⟩ := h
  have e0 : f 0 = mf 7 := hr.1.1
  have h12 : f 12 ≤ 15 * n := h12
  by_cases q : f 0 + 20 ≤ 200
  · obtain ⟨a, hu⟩ := hc.1 q
    obtain ⟨b, hv⟩ := hm.1 (by omega)
    subst hu hv
    exact ⟨by rw [a, b, e0], ⟨⟨feed_call hX hr hI q, h6, by show f 12 ≤ 15 * (n + 1); omega⟩, rfl⟩, rfl⟩
  · obtain ⟨a, hu⟩ := hc.2 q
    obtain ⟨b, hv⟩ := hm.2 (by omega)
    subst hu hv
    exact ⟨a.trans b.symm, s_same h0, rfl⟩
theorem s_end {va : Nat} (h : lawI n (ad, ka, L, f, g) (mf, mg, mt)) (hc : (va ≤ f 0 → r = nI va ∧ u = (ad, ka, L, upN f 0 va, g)) ∧ (¬ va ≤ f 0 → r = nI 4294967295 ∧ u = (ad, ka, L, f, g))) (hm : (va ≤ mf 7 → r' = nI va ∧ v = (upN mf 7 va, mg, mt)) ∧ (¬ va ≤ mf 7 → r' = nI 4294967295 ∧ v = (mf, mg, mt))) : r = r' ∧ lawN n (ad, ka, L, f, g) u v ∧ u.2.2.1 = L := by
  have h0 := h
  obtain ⟨⟨hX, hr, hI⟩, h6, h12⟩ := h
  have e0 : f 0 = mf 7 := hr.1.1
  have h12 : f 12 ≤ 15 * n := h12
  by_cases q : va ≤ f 0
  · obtain ⟨a, hu⟩ := hc.1 q
    obtain ⟨b, hv⟩ := hm.1 (by omega)
    subst hu hv
    exact ⟨a.trans b.symm, ⟨⟨end_call hX hr hI q, h6, by show f 12 ≤ 15 * (n + 1); omega⟩, rfl⟩, rfl⟩
  · obtain ⟨a, hu⟩ := hc.2 q
    obtain ⟨b, hv⟩ := hm.2 (by omega)
    subst hu hv
    exact ⟨a.trans b.symm, s_same h0, rfl⟩
theorem s_program {h : Nat} (hl : lawI n (ad, ka, L, f, g) (mf, mg, mt)) (hC : (¬ h ≤ 1 → r = nI 4294967295 ∧ u = (ad, ka, L, f, g)) ∧ (h ≤ 1 → ∃ (ft pl sr gv n : Nat) (so nu : Nat → Nat), rdPost (runR (g 1) (f 0) h 201 0 (9, 0, 0, g 4, g 5)) (ft, pl, sr, gv, n, so, nu) ∧ (ft ≠ 0 → r = nI 4294967295 ∧ u = (ad, ka, L, upN (upN (upN (upN (upN (upN f 0 0) 3 ft) 4 pl) 5 sr) 6 gv) 7 n, upA (upA g 4 so) 5 nu)) ∧ (ft = 0 → r = nI n ∧ (h = 0 → u = (upN (upN (upN (upN (upN (upN (ad) 3 (ad 13)) 4 (ad 14)) 5 (ad 15)) 13 (ad 3)) 14 (ad 4)) 15 (ad 5), upK (upK (upK (upK (ka) 4 (ka 14)) 5 (ka 15)) 14 (ka 4)) 15 (ka 5), L, upN (upN (upN (upN (upN (upN (upN (upN (f) 0 0) 1 0) 3 ft) 4 pl) 5 sr) 6 gv) 7 (f 10)) 10 n, upA (upA (upA (upA (g) 4 (g 14)) 5 (g 15)) 14 (so)) 15 (nu))) ∧ (h = 1 → u = (upN (upN (upN (upN (upN (upN (ad) 3 (ad 16)) 4 (ad 17)) 5 (ad 18)) 16 (ad 3)) 17 (ad 4)) 18 (ad 5), upK (upK (upK (upK (ka) 4 (ka 17)) 5 (ka 18)) 17 (ka 4)) 18 (ka 5), L, upN (upN (upN (upN (upN (upN (upN (upN (f) 0 0) 1 0) 3 ft) 4 pl) 5 sr) 6 gv) 7 (f 11)) 11 n, upA (upA (upA (upA (g) 4 (g 17)) 5 (g 18)) 17 (so)) 18 (nu))))))
    (hK : (¬ h ≤ 1 → r' = nI 4294967295 ∧ v = (mf, mg, mt)) ∧ (h ≤ 1 → progPost mf mg mt h (runT (mg 6) (mf 7) h 201 0 (9, 0, 0, fun j => mg 2 (32 + j), fun j => mg 3 (128 + j))) r' v)) : r = r' ∧ lawN n (ad, ka, L, f, g) u v ∧ u.2.2.1 = L := by
  obtain ⟨⟨hX, hr, hI⟩, h6, h12⟩ := hl
  have h12 : f 12 ≤ 15 * n := h12
  have ha : u.1 0 = ad 0 := by
    by_cases q : h ≤ 1
    · obtain ⟨ft, pl, sr, gv, n', so, nu, -, a, b⟩ := hC.2 q
      by_cases z : ft = 0
      · obtain ⟨-, b0, b1⟩ := b z
        rcases (show h = 0 ∨ h = 1 by omega) with e | e
        · have hu := b0 e
          subst hu; rfl
        · have hu := b1 e
          subst hu; rfl
      · have hu := (a z).2
        subst hu; rfl
    · have hu := (hC.1 q).2
      subst hu; rfl
  obtain ⟨a1, a2, a3, a4, a5⟩ := program_call hX hr hI h6 hC hK
  exact ⟨a1, ⟨⟨a2, a3, by rw [a5]; omega⟩, ha⟩, a4⟩
theorem s_word {w q va : Nat} (h : lawI n (ad, ka, L, f, g) (mf, mg, mt)) (hc : (w ≤ 3 ∧ va ≤ 3 ∧ q ≤ 7 → r = nI 1 ∧ u = (ad, ka, L, upN f 1 0, upA (upA g 11 (upN (g 11) w va)) 12 (upN (g 12) w q))) ∧ (¬ (w ≤ 3 ∧ va ≤ 3 ∧ q ≤ 7) → r = nI 0 ∧ u = (ad, ka, L, f, g))) (hm : (w ≤ 3 ∧ va ≤ 3 ∧ q ≤ 7 → r' = nI 1 ∧ v = (upN mf 20 0, upA (upA mg 4 (upN (mg 4) w va)) 5 (upN (mg 5) w q), mt)) ∧ (¬ (w ≤ 3 ∧ va ≤ 3 ∧ q ≤ 7) → r' = nI 0 ∧ v = (mf, mg, mt))) : r = r' ∧ lawN n (ad, ka, L, f, g) u v ∧ u.2.2.1 = L := by
  have h0 := h
  obtain ⟨⟨hX, hr, hI⟩, h6, h12⟩ := h
  have h12 : f 12 ≤ 15 * n := h12
  by_cases c : w ≤ 3 ∧ va ≤ 3 ∧ q ≤ 7
  · obtain ⟨a, hu⟩ := hc.1 c
    obtain ⟨b, hv⟩ := hm.1 c
    subst hu hv
    exact ⟨a.trans b.symm, ⟨⟨word_call hX hr hI c, h6, by show f 12 ≤ 15 * (n + 1); omega⟩, rfl⟩, rfl⟩
  · obtain ⟨a, hu⟩ := hc.2 c
    obtain ⟨b, hv⟩ := hm.2 c
    subst hu hv
    exact ⟨a.trans b.symm, s_same h0, rfl⟩
theorem s_falls {w : Nat} (hw : w < 2) (h : lawI n (ad, ka, L, f, g) (mf, mg, mt)) (hc : u = (ad, ka, L, upN (upN f 1 0) 9 w, g)) (hm : v = (upN (upN mf 5 w) 20 0, mg, mt)) : lawN n (ad, ka, L, f, g) u v ∧ u.2.2.1 = L := by
  obtain ⟨⟨hX, hr, hI⟩, h6, h12⟩ := h
  have h12 : f 12 ≤ 15 * n := h12
  subst hc hm
  exact ⟨⟨⟨falls_call hX hr hI hw, h6, by show f 12 ≤ 15 * (n + 1); omega⟩, rfl⟩, rfl⟩
theorem s_walk (h : lawI n (ad, ka, L, f, g) (mf, mg, mt)) (hc : ∃ (wb : Nat) (wc : Nat) (wd : Nat) (k0 : ClassId) (k1 : ClassId) (k2 : ClassId) (L1 : Nat) (sp : Nat) (cn : Nat) (en : Nat) (ge : Nat) (be : Nat) (tl : Nat) (ts : Nat → Nat) (og : Nat → Nat) (sl : Nat → Nat), xTold ad ka L f g (u) wb wc wd k0 k1 k2 L1 sp cn en ge be tl ts og sl ∧ r = nI (if (BX f g).1 ≤ 12000 then (BX f g).1 else 4294967294)) (hm : r' = nI (if v.1 19 ≤ 12000 then v.1 19 else 4294967294) ∧ sameM mf v.1 mg v.2.1 ∧ MBase v.1 v.2.1 ∧ Walked v.1 v.2.1 v.2.2 ∧ v.1 20 ≠ 0) : r = r' ∧ lawN n (ad, ka, L, f, g) u v ∧ u.2.2.1 = (if f 1 = 0 ∧ 700 < (BX f g).1 then 12000 else L) := by
  obtain ⟨⟨hX, hr, hI⟩, h6, h12⟩ := h
  have h12 : f 12 ≤ 15 * n := h12
  obtain ⟨wb, wc, wd, k0, k1, k2, L1, sp, cn, en, ge, be, tl, ts, og, sl, ⟨hu, hT, hL1, hsp⟩, er⟩ := hc
  obtain ⟨er', hs, hM, hW, -⟩ := hm
  have hr' := XR_same hr hX.1.2.1.1 hX.1.2.1.2.1 hs
  have e1 : (BX f g).1 = v.1 19 := (eqB_W hX.1 hr' hW).1
  subst hu
  exact ⟨by rw [er, er', e1], ⟨⟨⟨XInv_told hX.1 hT, XR_told hr', hM, fun _ => hW⟩, h6, by show sp ≤ 15 * (n + 1); omega⟩, rfl⟩, hL1⟩
theorem s_ends {wt : Nat} (h : lawI n (ad, ka, L, f, g) (mf, mg, mt)) (hc : (¬ wt ≤ 3 → r = nI 4294967295 ∧ u = (ad, ka, L, f, g)) ∧ (wt ≤ 3 → ∃ (wb : Nat) (wc : Nat) (wd : Nat) (k0 : ClassId) (k1 : ClassId) (k2 : ClassId) (L1 : Nat) (sp : Nat) (cn : Nat) (en : Nat) (ge : Nat) (be : Nat) (tl : Nat) (ts : Nat → Nat) (og : Nat → Nat) (sl : Nat → Nat), xTold ad ka L f g (u) wb wc wd k0 k1 k2 L1 sp cn en ge be tl ts og sl ∧ r = nI (endsC (BX f g) wt en ge be (stpC og 32 (cn - 1))))) (hm : (¬ wt ≤ 3 → r' = nI 4294967295 ∧ v = (mf, mg, mt)) ∧ (wt ≤ 3 → sameM mf v.1 mg v.2.1 ∧ MBase v.1 v.2.1 ∧ Walked v.1 v.2.1 v.2.2 ∧ v.1 20 ≠ 0 ∧ r' = nI (endsM (v.1 5) v.2.1 (v.1 19, v.2.2, v.2.1 8, v.2.1 9, v.2.1 10) wt))) : r = r' ∧ lawN n (ad, ka, L, f, g) u v ∧ (¬ wt ≤ 3 → u.2.2.1 = L) ∧ (wt ≤ 3 → u.2.2.1 = (if f 1 = 0 ∧ 700 < (BX f g).1 then 12000 else L)) := by
  have h0 := h
  obtain ⟨⟨hX, hr, hI⟩, h6, h12⟩ := h
  have h12 : f 12 ≤ 15 * n := h12
  by_cases c : wt ≤ 3
  · obtain ⟨wb, wc, wd, k0, k1, k2, L1, sp, cn, en, ge, be, tl, ts, og, sl, hT, er⟩ := hc.2 c
    obtain ⟨hs, hM, hW, -, er'⟩ := hm.2 c
    have hr' := XR_same hr hX.1.2.1.1 hX.1.2.1.2.1 hs
    obtain ⟨e1, e2⟩ := ends_call hX.1 hr' hM hW c hT
    obtain ⟨hu, -, hL1, hsp⟩ := hT
    subst hu
    exact ⟨by rw [er, er', e1], ⟨⟨e2, h6, by show sp ≤ 15 * (n + 1); omega⟩, rfl⟩, fun z => absurd c z, fun _ => hL1⟩
  · obtain ⟨a, hu⟩ := hc.1 c
    obtain ⟨b, hv⟩ := hm.1 c
    subst hu hv
    exact ⟨a.trans b.symm, s_same h0, fun _ => rfl, fun z => absurd z c⟩
theorem s_few {e_ pa pb L1 wb wc wd sp cn en ge be tl : Nat} {k0 k1 k2 : ClassId} {ts og sl : Nat → Nat} {f1 : Nat → Nat} {g1 : Nat → Nat → Nat} {t1 : Nat → Nat} (h : lawI n (ad, ka, L, f, g) (mf, mg, mt)) (hq : askOK f e_ pa pb) (hT : toldI (f 9) (GX f g) (BX f g) L1 (mOf L1) sp cn en ge be tl ts og sl) (hL1 : L1 = (if f 1 = 0 ∧ 700 < (BX f g).1 then 12000 else L)) (hsp : sp ≤ f 12 + 1)
    (hC : (¬ (BX f g).1 ≤ 12000 → r = nI 4294967294 ∧ u = (adU ad wb wc wd, kaU ka k0 k1 k2, L1, fU f 1 sp cn en ge be tl, gUp g ts og sl)) ∧ ((BX f g).1 ≤ 12000 → (firstC e_ pa pb (f 10) (f 11) ts cn = 4294967295 → r = nI 4294967295 ∧ u = (adU ad wb wc wd, kaU ka k0 k1 k2, L1, fU f 1 sp cn en ge be tl, gUp g ts og sl)) ∧ (¬ firstC e_ pa pb (f 10) (f 11) ts cn = 4294967295 → r = nI (stpC og 32 (firstC e_ pa pb (f 10) (f 11) ts cn)) ∧ ∃ rw_, u = (adU ad wb wc wd, kaU ka k0 k1 k2, L1, upN (fU f 1 sp cn en ge be tl) 2 (stpC og 32 (firstC e_ pa pb (f 10) (f 11) ts cn)), upA (gUp g ts og sl) 23 rw_) ∧ (∀ k, k < stpC og 32 (firstC e_ pa pb (f 10) (f 11) ts cn) → rw_ k = og (anc (fun a => og a / 16) (stpC og 32 (firstC e_ pa pb (f 10) (f 11) ts cn) - 1 - k) (firstC e_ pa pb (f 10) (f 11) ts cn)) % 16) ∧ ∀ k, rw_ k < 2147483648)))
    (hs : sameM mf f1 mg g1) (hM : MBase f1 g1) (hW : Walked f1 g1 t1) (hK : (¬ f1 19 ≤ 12000 → r' = nI 4294967294 ∧ v = (f1, g1, t1)) ∧ (f1 19 ≤ 12000 → keepPost f1 g1 t1 (missN (f1 5) g1 (f1 19) t1 e_ pa pb) r' v)) : r = r' ∧ lawN n (ad, ka, L, f, g) u v ∧ u.2.2.1 = (if f 1 = 0 ∧ 700 < (BX f g).1 then 12000 else L) := by
  obtain ⟨⟨hX, hr, hI⟩, h6, h12⟩ := h
  have h12 : f 12 ≤ 15 * n := h12
  have hr' := XR_same hr hX.1.2.1.1 hX.1.2.1.2.1 hs
  have hz : u.1 0 = ad 0 ∧ u.2.2.1 = L1 ∧ u.2.2.2.1 6 = f 6 := by
    by_cases b : (BX f g).1 ≤ 12000
    · by_cases c : firstC e_ pa pb (f 10) (f 11) ts cn = 4294967295
      · have hu := ((hC.2 b).1 c).2
        subst hu; exact ⟨rfl, rfl, rfl⟩
      · obtain ⟨-, rw_, hu, -⟩ := (hC.2 b).2 c
        subst hu; exact ⟨rfl, rfl, rfl⟩
    · have hu := (hC.1 b).2
      subst hu; exact ⟨rfl, rfl, rfl⟩
  obtain ⟨e1, e2, e3⟩ := few_eq hX.1 hr' hM hW hq hT hC hK
  exact ⟨e1, ⟨⟨e2, by rw [hz.2.2]; exact h6, by rw [e3]; omega⟩, hz.1⟩, hz.2.1.trans hL1⟩
theorem s_miss {e_ pa pb : Nat} (h : lawI n (ad, ka, L, f, g) (mf, mg, mt)) (hc : (¬ ((e_ = 0 → pa ≤ f 10 ∧ pb ≤ f 11) ∧ (¬ e_ = 0 → pa ≤ 255 ∧ pb ≤ 15)) → r = nI 4294967295 ∧ u = (ad, ka, L, f, g)) ∧ (((e_ = 0 → pa ≤ f 10 ∧ pb ≤ f 11) ∧ (¬ e_ = 0 → pa ≤ 255 ∧ pb ≤ 15)) → ∃ (wb : Nat) (wc : Nat) (wd : Nat) (k0 : ClassId) (k1 : ClassId) (k2 : ClassId) (L1 : Nat) (sp : Nat) (cn : Nat) (en : Nat) (ge : Nat) (be : Nat) (tl : Nat) (ts : Nat → Nat) (og : Nat → Nat) (sl : Nat → Nat) (w1 n8 : Nat) (ss nn : Nat → Nat), u = (adU ad wb wc wd, kaU ka k0 k1 k2, L1, upN (fU f w1 sp cn en ge be tl) 8 n8, upA (upA (gUp g ts og sl) 7 ss) 8 nn) ∧ (mIL L1 sp ts og sl ∧ sp ≤ f 12 + 15 ∧ (∀ j, ss j < 2147483648 ∧ nn j < 2147483648) ∧ (w1 = 0 ∨ (w1 = 1 ∧ toldI (f 9) (GX f g) (BX f g) L1 (mOf L1) sp cn en ge be tl ts og sl)) ∧ (bigA f g e_ pa pb → L1 = 12000) ∧ (¬ bigA f g e_ pa pb → L1 = L)) ∧ r = nI (missC f g e_ pa pb)))
    (hm : (¬ ((e_ = 0 → pa ≤ mg 1 0 ∧ pb ≤ mg 1 1) ∧ (¬ e_ = 0 → pa ≤ 255 ∧ pb ≤ 15)) → r' = nI 4294967295 ∧ v = (mf, mg, mt)) ∧ (((e_ = 0 → pa ≤ mg 1 0 ∧ pb ≤ mg 1 1) ∧ (¬ e_ = 0 → pa ≤ 255 ∧ pb ≤ 15)) → ∃ f1 g1 t1, sameM mf f1 mg g1 ∧ MBase f1 g1 ∧ Walked f1 g1 t1 ∧ f1 20 ≠ 0 ∧ (¬ f1 19 ≤ 12000 → r' = nI 4294967294 ∧ v = (f1, g1, t1)) ∧ (f1 19 ≤ 12000 → (2147483648 ≤ missN (f1 5) g1 (f1 19) t1 e_ pa pb → r' = nI 4294967295 ∧ v = (f1, g1, t1)) ∧ (¬ 2147483648 ≤ missN (f1 5) g1 (f1 19) t1 e_ pa pb → r' = nI (findR (f1 5) g1 e_ pa pb 16 0) ∧ sameM f1 v.1 g1 v.2.1 ∧ MBase v.1 v.2.1 ∧ v.1 20 = 0)))) : r = r' ∧ lawN n (ad, ka, L, f, g) u v ∧ (¬ askOK f e_ pa pb → u.2.2.1 = L) ∧ (askOK f e_ pa pb → (bigA f g e_ pa pb → u.2.2.1 = 12000) ∧ (¬ bigA f g e_ pa pb → u.2.2.1 = L)) := by
  have h0 := h
  obtain ⟨⟨hX, hr, hI⟩, h6, h12⟩ := h
  have h12 : f 12 ≤ 15 * n := h12
  have e10 : f 10 = mg 1 0 := hr.2.2.1.1
  have e11 : f 11 = mg 1 1 := hr.2.2.1.2.1
  rw [← e10, ← e11] at hm
  by_cases c : askOK f e_ pa pb
  · obtain ⟨wb, wc, wd, k0, k1, k2, L1, sp, cn, en, ge, be, tl, ts, og, sl, w1, n8, ss, nn, hu, ⟨i1, i2, i3, i4, i5, i6⟩, er⟩ := hc.2 c
    obtain ⟨f1, g1, t1, hs, hM, hW, -, hK⟩ := hm.2 c
    have hr' := XR_same hr hX.1.2.1.1 hX.1.2.1.2.1 hs
    obtain ⟨e1, e2⟩ := miss_call hX.1 hr' hM hW c hu i1 i3 i4 er hK
    subst hu
    exact ⟨e1, ⟨⟨e2, h6, by show sp ≤ 15 * (n + 1); omega⟩, rfl⟩, fun z => absurd c z, fun _ => ⟨i5, i6⟩⟩
  · obtain ⟨a, hu⟩ := hc.1 c
    obtain ⟨b, hv⟩ := hm.1 c
    subst hu hv
    exact ⟨a.trans b.symm, s_same h0, fun _ => rfl, fun z => absurd z c⟩
end STP

/-! PURE: the other calls, on -/
theorem word_call {L : Nat} {f : Nat → Nat} {g : Nat → Nat → Nat} {mf : Nat → Nat} {mg : Nat → Nat → Nat} {mt : Nat → Nat} {w v q : Nat} (hX : XInv L f g) (hr : XR f g mf mg) (hI : MInv mf mg mt) (h : w ≤ 3 ∧ v ≤ 3 ∧ q ≤ 7) : XInv L (upN f 1 0) (upA (upA g 11 (upN (g 11) w v)) 12 (upN (g 12) w q)) ∧ XR (upN f 1 0) (upA (upA g 11 (upN (g 11) w v)) 12 (upN (g 12) w q)) (upN mf 20 0) (upA (upA mg 4 (upN (mg 4) w v)) 5 (upN (mg 5) w q)) ∧ MInv (upN mf 20 0) (upA (upA mg 4 (upN (mg 4) w v)) 5 (upN (mg 5) w q)) mt := by
  obtain ⟨⟨⟨a0, a1, a2, a3, a4, a5⟩, b1, c1, ⟨d1, d2⟩, i1, f1⟩, t⟩ := hX
  obtain ⟨⟨r0, r1, r2, r3, r4⟩, r5, r6, r7, r8⟩ := hr
  obtain ⟨⟨m1, m2, m3, m4, m5, m6, m7, m8, m9, m10, m11, m12⟩, hW⟩ := hI
  obtain ⟨h1, h2, h3⟩ := h
  have u4 : ∀ {p : Nat → Nat} {x b : Nat}, (∀ j, j < 4 → p j < b) → x < b → ∀ j, j < 4 → upN p w x j < b := fun hp hx j hj => by
    by_cases e : j = w
    · rw [e, upN_s]; exact hx
    · rw [upN_n e]; exact hp j hj
  refine ⟨⟨⟨⟨a0, Nat.zero_lt_two, a2, a3, a4, a5⟩, b1, upA_lt (upA_lt c1 (up_lt (c1 11 (by decide) (by decide) (by decide)) (by omega))) (up_lt (c1 12 (by decide) (by decide) (by decide)) (by omega)), ⟨u4 d1 (by omega), u4 d2 (by omega)⟩, i1, f1⟩, fun z => absurd rfl z⟩, ⟨⟨r0, r1, r2, r3, r4⟩, fun j hj => ?_, r6, r7, r8⟩, ⟨m1, fun x hx i => ?_, m3, u4 m4 (by omega), u4 m5 (by omega), m6, m7, m8, m9, Nat.zero_lt_two, m11, m12⟩, fun z => absurd rfl z⟩
  · show upN (g 11) w v j = upN (mg 4) w v j ∧ upN (g 12) w q j = upN (mg 5) w q j
    by_cases e : j = w
    · rw [e, upN_s, upN_s, upN_s, upN_s]; exact ⟨rfl, rfl⟩
    · rw [upN_n e, upN_n e, upN_n e, upN_n e]; exact r5 j hj
  · by_cases e5 : x = 5
    · subst e5; exact up_lt (m2 5 hx) (by omega) i
    · rw [upA_n e5]
      by_cases e4 : x = 4
      · subst e4; exact up_lt (m2 4 hx) (by omega) i
      · rw [upA_n e4]; exact m2 x hx i
theorem fault_eq {f : Nat → Nat} {g : Nat → Nat → Nat} {mf : Nat → Nat} {mg : Nat → Nat → Nat} {wt : Nat} (hr : XR f g mf mg) : (if wt = 0 then f 3 else if wt = 1 then f 4 else 4294967295) = (if wt = 0 then mf 8 else if wt = 1 then mf 9 else 4294967295) := by
  rw [hr.1.2.2.1, hr.1.2.2.2.1]
theorem step_eq {f : Nat → Nat} {g : Nat → Nat → Nat} {mf : Nat → Nat} {mg : Nat → Nat → Nat} {i : Nat} (hr : XR f g mf mg) : (if i < f 2 then g 23 i else 4294967295) = (if i < mf 21 then mg 12 i else 4294967295) := by
  have e := hr.2.2.2.1
  by_cases h : i < f 2
  · rw [if_pos h, if_pos (by omega)]; exact hr.2.2.2.2 i h
  · rw [if_neg h, if_neg (by omega)]
theorem about_eq {f : Nat → Nat} {g : Nat → Nat → Nat} {mf : Nat → Nat} {mg : Nat → Nat → Nat} {w : Nat} (hr : XR f g mf mg) : aboutC f g w = aboutM mf mg w := by
  obtain ⟨⟨r0, r1, r2, r3, r4⟩, r5, ⟨c0, c1, -, -⟩, r7, r8⟩ := hr
  unfold aboutC aboutM
  by_cases h1 : 10 ≤ w ∧ w ≤ 13
  · rw [if_neg (by omega), if_neg (by omega), if_neg (by omega), if_neg (by omega), if_pos h1, if_pos h1]; exact (r5 _ (by omega)).1
  · by_cases h2 : 20 ≤ w ∧ w ≤ 23
    · rw [if_neg (by omega), if_neg (by omega), if_neg (by omega), if_neg (by omega), if_neg h1, if_pos h2, if_neg h1, if_pos h2]; exact (r5 _ (by omega)).2
    · by_cases q0 : w = 0
      · subst q0; rw [if_pos rfl, if_neg h1, if_neg h2, if_pos (by decide)]; exact c0
      · by_cases q1 : w = 1
        · subst q1; rw [if_neg q0, if_pos rfl, if_neg h1, if_neg h2, if_pos (by decide)]; exact c1
        · rw [if_neg q0, if_neg q1, if_neg h1, if_neg h2, if_neg h1, if_neg h2, if_neg (show ¬ (0 ≤ w ∧ w ≤ 1) by omega), r0, r4]
theorem stm_eq {so nu : Nat → Nat} {mg : Nat → Nat → Nat} {n h i wt : Nat} (hn : n = mg 1 h) (hp : progR n so nu mg h) (hN : okQ n so nu) : (if i < n then (if wt = 0 then so i else if 1 ≤ wt ∧ wt ≤ numC (so i) then nu (i * 4 + (wt - 1)) else 4294967295) else 4294967295) = (if i < mg 1 h then (if wt = 0 then mg 2 (8 * h + i) else if 1 ≤ wt ∧ wt ≤ arM (mg 2 (8 * h + i)) then mg 3 (4 * (8 * h + i) + wt - 1) else 4294967295) else 4294967295) := by
  rw [← hn]
  by_cases c : i < n
  · obtain ⟨p1, p2⟩ := hp i c
    rw [if_pos c, if_pos c, num_ar _ (hN i c).1, ← p1]
    by_cases z : wt = 0
    · rw [if_pos z, if_pos z]
    · rw [if_neg z, if_neg z]
      by_cases y : 1 ≤ wt ∧ wt ≤ arM (so i)
      · rw [if_pos y, if_pos y, p2 (wt - 1) (by omega), show 4 * (8 * h + i) + wt - 1 = 4 * (8 * h + i) + (wt - 1) by omega]
      · rw [if_neg y, if_neg y]
  · rw [if_neg c, if_neg c]
theorem statement_eq {f : Nat → Nat} {g : Nat → Nat → Nat} {mf : Nat → Nat} {mg : Nat → Nat → Nat} {L h i wt : Nat} (hX : XBase L f g) (hr : XR f g mf mg) : statementC f g h i wt = statementM mg h i wt := by
  obtain ⟨-, -, ⟨c0, c1, c2, c3⟩, -, -⟩ := hr
  unfold statementC statementM
  by_cases q0 : h = 0
  · subst q0; rw [if_pos rfl, if_pos (show 0 ≤ 0 ∧ 0 ≤ 1 by decide)]; exact stm_eq c0 c2 hX.2.1.2.2.1
  · by_cases q1 : h = 1
    · subst q1; rw [if_neg q0, if_pos rfl, if_pos (show 0 ≤ 1 ∧ 1 ≤ 1 by decide)]; exact stm_eq c1 c3 hX.2.1.2.2.2.1
    · rw [if_neg q0, if_neg q1, if_neg (show ¬ (0 ≤ h ∧ h ≤ 1) by omega)]
/-- missing: the two agree -/
theorem miss_call {ad : Nat → Nat} {ka : Nat → ClassId} {wb wc wd : Nat} {k0 k1 k2 : ClassId} {L L1 : Nat} {f : Nat → Nat} {g : Nat → Nat → Nat} {f1 : Nat → Nat} {g1 : Nat → Nat → Nat} {t1 : Nat → Nat} {e_ pa pb w1 n8 sp cn en ge be tl : Nat} {ts og sl ss nn : Nat → Nat} {r r' : Int32} {u : XSt} {m : MSt} (hX : XBase L f g) (hr : XR f g f1 g1) (hM : MBase f1 g1) (hW : Walked f1 g1 t1) (hq : askOK f e_ pa pb)
    (hu : u = (adU ad wb wc wd, kaU ka k0 k1 k2, L1, upN (fU f w1 sp cn en ge be tl) 8 n8, upA (upA (gUp g ts og sl) 7 ss) 8 nn)) (hI : mIL L1 sp ts og sl) (hs : ∀ j, ss j < 2147483648 ∧ nn j < 2147483648) (hw : w1 = 0 ∨ (w1 = 1 ∧ toldI (f 9) (GX f g) (BX f g) L1 (mOf L1) sp cn en ge be tl ts og sl)) (h1 : r = nI (missC f g e_ pa pb))
    (hK : (¬ f1 19 ≤ 12000 → r' = nI 4294967294 ∧ m = (f1, g1, t1)) ∧ (f1 19 ≤ 12000 → (2147483648 ≤ missN (f1 5) g1 (f1 19) t1 e_ pa pb → r' = nI 4294967295 ∧ m = (f1, g1, t1)) ∧ (¬ 2147483648 ≤ missN (f1 5) g1 (f1 19) t1 e_ pa pb → r' = nI (findR (f1 5) g1 e_ pa pb 16 0) ∧ sameM f1 m.1 g1 m.2.1 ∧ MBase m.1 m.2.1 ∧ m.1 20 = 0))) : r = r' ∧ xOK u m := by
  have J := XInv_mis (n8 := n8) hX hI hs hw
  rw [miss_eq hX hr hM hW hq] at h1
  subst hu
  by_cases c : f1 19 ≤ 12000
  · rw [if_pos c] at h1
    by_cases d : 2147483648 ≤ missN (f1 5) g1 (f1 19) t1 e_ pa pb
    · rw [if_pos d] at h1
      obtain ⟨q1, q2⟩ := (hK.2 c).1 d
      subst q2
      exact ⟨h1.trans q1.symm, J, XR_mis hr, hM, fun _ => hW⟩
    · rw [if_neg d] at h1
      obtain ⟨q1, q2, q3, q4⟩ := (hK.2 c).2 d
      exact ⟨h1.trans q1.symm, J, XR_mis (XR_same hr hX.2.1.1 hX.2.1.2.1 q2), q3, fun z => absurd q4 z⟩
  · rw [if_neg c] at h1
    obtain ⟨q1, q2⟩ := hK.1 c
    subst q2
    exact ⟨h1.trans q1.symm, J, XR_mis hr, hM, fun _ => hW⟩

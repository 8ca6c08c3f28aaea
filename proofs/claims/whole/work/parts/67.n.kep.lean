/-! PURE: what the calls keep -/
theorem gUp_lt {g : Nat → Nat → Nat} {ts og sl : Nat → Nat} (h : ∀ a, 2 ≤ a → a < 24 → a ≠ 20 → ∀ j, g a j < 2147483648) (ho : ∀ j, og j < 2147483648) (hs : ∀ j, sl j < 2147483648) : ∀ a, 2 ≤ a → a < 24 → a ≠ 20 → ∀ j, gUp g ts og sl a j < 2147483648 := fun a h2 h24 h20 j => by
  by_cases e2 : a = 22
  · subst e2; exact hs j
  · by_cases e1 : a = 21
    · subst e1; exact ho j
    · unfold gUp; rw [upA_n e2, upA_n e1, upA_n h20]; exact h a h2 h24 h20 j
theorem upA_lt {g : Nat → Nat → Nat} {k : Nat} {r : Nat → Nat} (h : ∀ a, 2 ≤ a → a < 24 → a ≠ 20 → ∀ j, g a j < 2147483648) (hr : ∀ j, r j < 2147483648) : ∀ a, 2 ≤ a → a < 24 → a ≠ 20 → ∀ j, upA g k r a j < 2147483648 := fun a h2 h24 h20 j => by
  by_cases e : a = k
  · unfold upA; rw [if_pos e]; exact hr j
  · rw [upA_n e]; exact h a h2 h24 h20 j
theorem XBase_tab {L L1 : Nat} {f : Nat → Nat} {g : Nat → Nat → Nat} {w sp cn en ge be tl : Nat} {ts og sl : Nat → Nat} (hX : XBase L f g) (hw : w < 2) (hI : mIL L1 sp ts og sl) : XBase L1 (fU f w sp cn en ge be tl) (gUp g ts og sl) := by
  obtain ⟨⟨a0, a1, a2, a3, a4, a5⟩, b, c, d, -, e⟩ := hX
  obtain ⟨i0, i1, i2, i3, i4⟩ := hI
  exact ⟨⟨a0, hw, a2, a3, a4, a5⟩, b, gUp_lt c i2 i3, d, ⟨i0, i1, i4⟩, e⟩
theorem TI_mIL {L sp cn : Nat} {ts og sl : Nat → Nat} (h : TI L (mOf L) sp cn ts og sl) : mIL L sp ts og sl := by
  obtain ⟨a, -, -, -, b, c, d, -, -, e⟩ := h
  exact ⟨a.elim (fun x => Or.inl x.1) (fun x => Or.inr x.1), b, c, d, e⟩
theorem XInv_told {L L1 : Nat} {f : Nat → Nat} {g : Nat → Nat → Nat} {sp cn en ge be tl : Nat} {ts og sl : Nat → Nat} (hX : XBase L f g) (h : toldI (f 9) (GX f g) (BX f g) L1 (mOf L1) sp cn en ge be tl ts og sl) : XInv L1 (fU f 1 sp cn en ge be tl) (gUp g ts og sl) := ⟨XBase_tab hX (by decide) (TI_mIL h.1), fun _ => h⟩
theorem XInv_row {L : Nat} {f : Nat → Nat} {g : Nat → Nat → Nat} {n : Nat} {r : Nat → Nat} (hX : XInv L f g) (hn : n ≤ 32) (hr : ∀ j, r j < 2147483648) : XInv L (upN f 2 n) (upA g 23 r) := by
  obtain ⟨⟨⟨a0, a1, a2, a3, a4, a5⟩, b, c, d, i, e⟩, t⟩ := hX
  exact ⟨⟨⟨a0, a1, hn, a3, a4, a5⟩, b, upA_lt c hr, d, i, e⟩, t⟩
theorem XInv_mis {L L1 : Nat} {f : Nat → Nat} {g : Nat → Nat → Nat} {w sp cn en ge be tl n8 : Nat} {ts og sl ss nn : Nat → Nat} (hX : XBase L f g) (hI : mIL L1 sp ts og sl) (hs : ∀ j, ss j < 2147483648 ∧ nn j < 2147483648) (h : w = 0 ∨ (w = 1 ∧ toldI (f 9) (GX f g) (BX f g) L1 (mOf L1) sp cn en ge be tl ts og sl)) : XInv L1 (upN (fU f w sp cn en ge be tl) 8 n8) (upA (upA (gUp g ts og sl) 7 ss) 8 nn) := by
  have hw : w < 2 := by rcases h with h | h <;> omega
  obtain ⟨⟨a0, a1, a2, a3, a4, a5⟩, b, c, d, i, e⟩ := XBase_tab (cn := cn) (en := en) (ge := ge) (be := be) (tl := tl) hX hw hI
  refine ⟨⟨⟨a0, a1, a2, a3, a4, a5⟩, b, upA_lt (upA_lt c (fun j => (hs j).1)) (fun j => (hs j).2), d, i, e⟩, fun q => ?_⟩
  rcases h with h | h
  · exact absurd h q
  · exact h.2
theorem XR_told {f : Nat → Nat} {g : Nat → Nat → Nat} {mf : Nat → Nat} {mg : Nat → Nat → Nat} {w sp cn en ge be tl : Nat} {ts og sl : Nat → Nat} (h : XR f g mf mg) : XR (fU f w sp cn en ge be tl) (gUp g ts og sl) mf mg := h
theorem XR_mis {f : Nat → Nat} {g : Nat → Nat → Nat} {mf : Nat → Nat} {mg : Nat → Nat → Nat} {w sp cn en ge be tl n8 : Nat} {ts og sl ss nn : Nat → Nat} (h : XR f g mf mg) : XR (upN (fU f w sp cn en ge be tl) 8 n8) (upA (upA (gUp g ts og sl) 7 ss) 8 nn) mf mg := h
theorem XR_row {f : Nat → Nat} {g : Nat → Nat → Nat} {mf : Nat → Nat} {mg : Nat → Nat → Nat} {n : Nat} {r r' : Nat → Nat} (h : XR f g mf mg) (hr : ∀ k, k < n → r k = r' k) : XR (upN f 2 n) (upA g 23 r) (upN mf 21 n) (upA mg 12 r') := ⟨h.1, h.2.1, h.2.2.1, rfl, hr⟩
theorem MInv_row {f : Nat → Nat} {g : Nat → Nat → Nat} {t : Nat → Nat} {n : Nat} {r : Nat → Nat} (hM : MBase f g) (hW : Walked f g t) (hn : n ≤ 29) (hr : ∀ j, r j < 2147483648) : MInv (upN f 21 n) (upA g 12 r) t := by
  have hL := hW.okL hM
  have h7 := lay7 hM.1 (fun a ha q => absurd q (fIn_no ha))
  have E : eqL g (layG g 4294967295) := eqL_lay h7 (fun a ha => (hW.1.2.2.2 a ha).1) (fun a ha => (hW.1.2.2.2 a ha).2) (fun _ _ => ⟨rfl, rfl⟩)
  have E2 : eqL g (layG (upA g 12 r) 4294967295) := eqL_trans E ⟨fun _ _ => ⟨rfl, fun _ _ => ⟨rfl, fun _ _ => rfl⟩⟩, fun _ _ => ⟨rfl, rfl⟩⟩
  have h4 := hM.2.2.2.1
  have W1 : eqB (walkB (f 5) g (fun _ => 0) (fun _ => 0) (fun _ => 0) (fun _ => 0)) (WALK (f 5) g 4294967295) := (walk_congr E hL h4).1
  have W2 : eqB (walkB (f 5) g (fun _ => 0) (fun _ => 0) (fun _ => 0) (fun _ => 0)) (WALK (f 5) (upA g 12 r) 4294967295) := (walk_congr E2 hL h4).1
  obtain ⟨a1, a2, a3, a4, a5, a6, a7, a8, a9, a10, a11, a12⟩ := hM
  refine ⟨⟨a1, fun a ha => ?_, a3, a4, a5, a6, a7, a8, a9, a10, hn, hr⟩, fun _ => ⟨LayA_congr (g' := upA g 12 r) ⟨⟨rfl, rfl⟩, fun _ _ => rfl, fun _ _ => rfl⟩ h7 hW.1, hW.2.1, eqB_trans hW.2.2 (eqB_trans (eqB_sym W1) W2)⟩⟩
  rw [upA_n (by omega)]; exact a2 a ha
abbrev xOK (u : XSt) (m : MSt) : Prop := XInv u.2.2.1 u.2.2.2.1 u.2.2.2.2 ∧ XR u.2.2.2.1 u.2.2.2.2 m.1 m.2.1 ∧ MInv m.1 m.2.1 m.2.2
/-- both and outcome: the two agree -/
theorem few_eq {ad : Nat → Nat} {ka : Nat → ClassId} {wb wc wd : Nat} {k0 k1 k2 : ClassId} {L L1 : Nat} {f : Nat → Nat} {g : Nat → Nat → Nat} {f1 : Nat → Nat} {g1 : Nat → Nat → Nat} {t1 : Nat → Nat} {e_ pa pb sp cn en ge be tl : Nat} {ts og sl : Nat → Nat} {r r' : Int32} {u : XSt} {m : MSt} (hX : XBase L f g) (hr : XR f g f1 g1) (hM : MBase f1 g1) (hW : Walked f1 g1 t1) (hq : askOK f e_ pa pb) (hT : toldI (f 9) (GX f g) (BX f g) L1 (mOf L1) sp cn en ge be tl ts og sl)
    (hC : (¬ (BX f g).1 ≤ 12000 → r = nI 4294967294 ∧ u = (adU ad wb wc wd, kaU ka k0 k1 k2, L1, fU f 1 sp cn en ge be tl, gUp g ts og sl)) ∧ ((BX f g).1 ≤ 12000 → (firstC e_ pa pb (f 10) (f 11) ts cn = 4294967295 → r = nI 4294967295 ∧ u = (adU ad wb wc wd, kaU ka k0 k1 k2, L1, fU f 1 sp cn en ge be tl, gUp g ts og sl)) ∧ (¬ firstC e_ pa pb (f 10) (f 11) ts cn = 4294967295 → r = nI (stpC og 32 (firstC e_ pa pb (f 10) (f 11) ts cn)) ∧ ∃ rw_, u = (adU ad wb wc wd, kaU ka k0 k1 k2, L1, upN (fU f 1 sp cn en ge be tl) 2 (stpC og 32 (firstC e_ pa pb (f 10) (f 11) ts cn)), upA (gUp g ts og sl) 23 rw_) ∧ (∀ k, k < stpC og 32 (firstC e_ pa pb (f 10) (f 11) ts cn) → rw_ k = og (anc (fun a => og a / 16) (stpC og 32 (firstC e_ pa pb (f 10) (f 11) ts cn) - 1 - k) (firstC e_ pa pb (f 10) (f 11) ts cn)) % 16) ∧ ∀ k, rw_ k < 2147483648)))
    (hK : (¬ f1 19 ≤ 12000 → r' = nI 4294967294 ∧ m = (f1, g1, t1)) ∧ (f1 19 ≤ 12000 → keepPost f1 g1 t1 (missN (f1 5) g1 (f1 19) t1 e_ pa pb) r' m)) : r = r' ∧ xOK u m ∧ u.2.2.2.1 12 = sp := by
  have eb := eqB_W hX hr hW
  have bi := BInv_X hX
  have e1 : (BX f g).1 = f1 19 := eb.1
  have I := XInv_told hX hT
  by_cases c : f1 19 ≤ 12000
  · have c' : (BX f g).1 ≤ 12000 := by omega
    obtain ⟨-, ec, hR, -⟩ := hT.2.2 c'
    have F : firstC e_ pa pb (f 10) (f 11) ts cn = missN (f1 5) g1 (f1 19) t1 e_ pa pb := by
      rw [ec, rep_first hR]; exact first_X hX hr hM hW hq
    have C := hC.2 c'
    rw [F] at C
    obtain ⟨K1, K2⟩ := hK.2 c
    rcases missN_or (f1 5) g1 (f1 19) t1 e_ pa pb with o | o
    · obtain ⟨p1, p2⟩ := C.1 o
      obtain ⟨q1, q2⟩ := K1 o
      subst p2 q2
      exact ⟨p1.trans q1.symm, ⟨I, XR_told hr, hM, fun _ => hW⟩, rfl⟩
    · generalize missN (f1 5) g1 (f1 19) t1 e_ pa pb = i at *
      obtain ⟨p1, rw1, p2, p3, p4⟩ := C.2 (by omega)
      obtain ⟨q1, rw2, q2, q3, q4⟩ := K2 o
      have hi : i < (BX f g).1 := by omega
      have S := stp_32 (okL_GX hX) bi hR hi
      have S' : (BX f g).2.2.2.2 i = g1 10 i := (eb.2 i hi).2.2.2
      have l29 := far_le (okL_GX hX) bi hi
      rw [S, S'] at p1 p2 p3
      rw [S'] at l29
      subst p2 q2
      refine ⟨p1.trans q1.symm, ⟨XInv_row I (by omega) p4, XR_row (XR_told hr) (fun k hk => ?_), MInv_row hM hW l29 q4⟩, rfl⟩
      rw [p3 k hk, q3 k hk, anc_by bi hR hi (by rw [S']; omega)]
      obtain ⟨a1, a2, -⟩ := anc_congr bi eb hi (g1 10 i - 1 - k) (by rw [S']; omega)
      rw [(eb.2 _ a2).2.2.1, a1]
  · have c' : ¬ (BX f g).1 ≤ 12000 := by omega
    obtain ⟨p1, p2⟩ := hC.1 c'
    obtain ⟨q1, q2⟩ := hK.1 c
    subst p2 q2
    exact ⟨p1.trans q1.symm, ⟨I, XR_told hr, hM, fun _ => hW⟩, rfl⟩

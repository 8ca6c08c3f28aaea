/-! PURE: the other calls, one by one -/
theorem ends_call {ad : Nat → Nat} {ka : Nat → ClassId} {wb wc wd : Nat} {k0 k1 k2 : ClassId} {L L1 : Nat} {f : Nat → Nat} {g : Nat → Nat → Nat} {f1 : Nat → Nat} {g1 : Nat → Nat → Nat} {t1 : Nat → Nat} {wt sp cn en ge be tl : Nat} {ts og sl : Nat → Nat} {u : XSt} (hX : XBase L f g) (hr : XR f g f1 g1) (hM : MBase f1 g1) (hW : Walked f1 g1 t1) (hw : wt ≤ 3) (hT : xTold ad ka L f g u wb wc wd k0 k1 k2 L1 sp cn en ge be tl ts og sl) : endsC (BX f g) wt en ge be (stpC og 32 (cn - 1)) = endsM (f1 5) g1 (f1 19, t1, g1 8, g1 9, g1 10) wt ∧ xOK u (f1, g1, t1) := by
  obtain ⟨hu, hI, -, -⟩ := hT
  have p0 : 0 < (BX f g).1 := by
    have := walked_pos hM hW
    have e : (BX f g).1 = f1 19 := (eqB_W hX hr hW).1
    omega
  subst hu
  refine ⟨ends_eq hX hr hM hW hw (fun c => (hI.2.2 c).2.2.2) (fun c _ => ?_), XInv_told hX hI, XR_told hr, hM, fun _ => hW⟩
  obtain ⟨-, ec, hR, -⟩ := hI.2.2 c
  rw [ec]
  exact stp_32 (okL_GX hX) (BInv_X hX) hR (by omega)
theorem Walked_6 {f f' : Nat → Nat} {g : Nat → Nat → Nat} {t : Nat → Nat} {r : Nat → Nat} (hM : MBase f g) (hW : Walked f g t) (h5 : f' 5 = f 5) (h19 : f' 19 = f 19) : Walked f' (upA g 6 r) t := by
  have hL := hW.okL hM
  have h7 := lay7 hM.1 (fun a ha q => absurd q (fIn_no ha))
  have E : eqL g (layG g 4294967295) := eqL_lay h7 (fun a ha => (hW.1.2.2.2 a ha).1) (fun a ha => (hW.1.2.2.2 a ha).2) (fun _ _ => ⟨rfl, rfl⟩)
  have E2 : eqL g (layG (upA g 6 r) 4294967295) := eqL_trans E ⟨fun _ _ => ⟨rfl, fun _ _ => ⟨rfl, fun _ _ => rfl⟩⟩, fun _ _ => ⟨rfl, rfl⟩⟩
  have h4 := hM.2.2.2.1
  have W1 : eqB (walkB (f 5) g (fun _ => 0) (fun _ => 0) (fun _ => 0) (fun _ => 0)) (WALK (f 5) g 4294967295) := (walk_congr E hL h4).1
  have W2 : eqB (walkB (f 5) g (fun _ => 0) (fun _ => 0) (fun _ => 0) (fun _ => 0)) (WALK (f 5) (upA g 6 r) 4294967295) := (walk_congr E2 hL h4).1
  unfold Walked
  rw [h5, h19]
  exact ⟨LayA_congr (g' := upA g 6 r) ⟨⟨rfl, rfl⟩, fun _ _ => rfl, fun _ _ => rfl⟩ h7 hW.1, hW.2.1, eqB_trans hW.2.2 (eqB_trans (eqB_sym W1) W2)⟩
theorem tape_rel {q q' : Nat → Nat} {n v : Nat} (h : ∀ j, j < n → q j = sb (q' j)) : ∀ j, j < n + 4 → tapeC4 q n v j = sb (tape4 q' n v j) := fun j hj => by
  unfold tapeC4 tape4
  by_cases e3 : j = n + 3
  · subst e3; rw [upN_s, upN_s]
  · rw [upN_n e3, upN_n e3]
    by_cases e2 : j = n + 2
    · subst e2; rw [upN_s, upN_s]
    · rw [upN_n e2, upN_n e2]
      by_cases e1 : j = n + 1
      · subst e1; rw [upN_s, upN_s]
      · rw [upN_n e1, upN_n e1]
        by_cases e0 : j = n
        · subst e0; rw [upN_s, upN_s]
        · rw [upN_n e0, upN_n e0]; exact h j (by omega)
theorem tape20_rel {q q' : Nat → Nat} {n a b c d e : Nat} (h : ∀ j, j < n → q j = sb (q' j)) : ∀ j, j < n + 20 → tapeC20 q n a b c d e j = sb (tape20 q' n a b c d e j) := tape_rel (n := n + 16) (tape_rel (n := n + 12) (tape_rel (n := n + 8) (tape_rel (n := n + 4) (tape_rel h))))
abbrev fitB (v : Nat) : Prop := v < 128 ∨ (4294967168 ≤ v ∧ v < 4294967296)
theorem fit_up {q : Nat → Nat} {k v : Nat} (h : ∀ i, fitB (q i)) (hv : fitB v) : ∀ i, fitB (upN q k v i) := fun i => by
  by_cases e : i = k
  · rw [e, upN_s]; exact hv
  · rw [upN_n e]; exact h i
theorem fit_4 {q : Nat → Nat} {n v : Nat} (h : ∀ i, fitB (q i)) : ∀ i, fitB (tapeC4 q n v i) := fit_up (fit_up (fit_up (fit_up h (sb_fit (Nat.mod_lt _ (by decide)))) (sb_fit (Nat.mod_lt _ (by decide)))) (sb_fit (Nat.mod_lt _ (by decide)))) (sb_fit (Nat.mod_lt _ (by decide)))
theorem lt_4 {q : Nat → Nat} {n v : Nat} (h : ∀ i, q i < 256) : ∀ i, tape4 q n v i < 256 := up_lt (up_lt (up_lt (up_lt h (Nat.mod_lt _ (by decide))) (Nat.mod_lt _ (by decide))) (Nat.mod_lt _ (by decide))) (Nat.mod_lt _ (by decide))
theorem feed_call {L : Nat} {f : Nat → Nat} {g : Nat → Nat → Nat} {mf : Nat → Nat} {mg : Nat → Nat → Nat} {mt : Nat → Nat} {a b c d e : Nat} (hX : XInv L f g) (hr : XR f g mf mg) (hI : MInv mf mg mt) (h : f 0 + 20 ≤ 200) : XInv L (upN f 0 (f 0 + 20)) (upA g 1 (tapeC20 (g 1) (f 0) a b c d e)) ∧ XR (upN f 0 (f 0 + 20)) (upA g 1 (tapeC20 (g 1) (f 0) a b c d e)) (upN mf 7 (mf 7 + 20)) (upA mg 6 (tape20 (mg 6) (mf 7) a b c d e)) ∧ MInv (upN mf 7 (mf 7 + 20)) (upA mg 6 (tape20 (mg 6) (mf 7) a b c d e)) mt := by
  have e0 : f 0 = mf 7 := hr.1.1
  obtain ⟨⟨⟨a0, a1, a2, a3, a4, a5⟩, b1, c1, d1, i1, f1⟩, t⟩ := hX
  refine ⟨⟨⟨⟨h, a1, a2, a3, a4, a5⟩, b1, fun x h2 h24 h20 j => ?_, d1, i1, fit_4 (fit_4 (fit_4 (fit_4 (fit_4 f1))))⟩, t⟩, ?_, ?_⟩
  · rw [upA_n (by omega)]; exact c1 x h2 h24 h20 j
  · obtain ⟨⟨r0, r1, r2, r3, r4⟩, r5, r6, r7, r8⟩ := hr
    refine ⟨⟨by show f 0 + 20 = mf 7 + 20; rw [r0], ?_, r2, r3, r4⟩, r5, r6, r7, r8⟩
    rw [← e0]
    exact tape20_rel r1
  · obtain ⟨hM, hW⟩ := hI
    refine ⟨?_, fun q => Walked_6 hM (hW q) rfl rfl⟩
    obtain ⟨m1, m2, m3, m4, m5, m6, m7, m8, m9, m10, m11, m12⟩ := hM
    refine ⟨m1, fun x hx => ?_, m3, m4, m5, by show mf 7 + 20 ≤ 200; omega, lt_4 (lt_4 (lt_4 (lt_4 (lt_4 m7)))), m8, m9, m10, m11, m12⟩
    rw [upA_n (by omega)]; exact m2 x hx
theorem end_call {L : Nat} {f : Nat → Nat} {g : Nat → Nat → Nat} {mf : Nat → Nat} {mg : Nat → Nat → Nat} {mt : Nat → Nat} {v : Nat} (hX : XInv L f g) (hr : XR f g mf mg) (hI : MInv mf mg mt) (h : v ≤ f 0) : XInv L (upN f 0 v) g ∧ XR (upN f 0 v) g (upN mf 7 v) mg ∧ MInv (upN mf 7 v) mg mt := by
  have e0 : f 0 = mf 7 := hr.1.1
  obtain ⟨⟨⟨a0, a1, a2, a3, a4, a5⟩, b1, c1, d1, i1, f1⟩, t⟩ := hX
  obtain ⟨⟨r0, r1, r2, r3, r4⟩, r5, r6, r7, r8⟩ := hr
  obtain ⟨⟨m1, m2, m3, m4, m5, m6, m7, m8, m9, m10, m11, m12⟩, hW⟩ := hI
  refine ⟨⟨⟨⟨Nat.le_trans h a0, a1, a2, a3, a4, a5⟩, b1, c1, d1, i1, f1⟩, t⟩, ⟨⟨rfl, fun j hj => r1 j (Nat.lt_of_lt_of_le hj h), r2, r3, r4⟩, r5, r6, r7, r8⟩, ⟨m1, m2, m3, m4, m5, Nat.le_trans h (e0 ▸ m6), m7, m8, m9, m10, m11, m12⟩, hW⟩
theorem falls_call {L : Nat} {f : Nat → Nat} {g : Nat → Nat → Nat} {mf : Nat → Nat} {mg : Nat → Nat → Nat} {mt : Nat → Nat} {v : Nat} (hX : XInv L f g) (hr : XR f g mf mg) (hI : MInv mf mg mt) (h : v < 2) : XInv L (upN (upN f 1 0) 9 v) g ∧ XR (upN (upN f 1 0) 9 v) g (upN (upN mf 5 v) 20 0) mg ∧ MInv (upN (upN mf 5 v) 20 0) mg mt := by
  obtain ⟨⟨⟨a0, a1, a2, a3, a4, a5⟩, b1, c1, d1, i1, f1⟩, t⟩ := hX
  obtain ⟨⟨r0, r1, r2, r3, r4⟩, r5, r6, r7, r8⟩ := hr
  obtain ⟨⟨m1, m2, m3, m4, m5, m6, m7, m8, m9, m10, m11, m12⟩, hW⟩ := hI
  refine ⟨⟨⟨⟨a0, Nat.zero_lt_two, a2, a3, a4, h⟩, b1, c1, d1, i1, f1⟩, fun q => absurd rfl q⟩, ⟨⟨r0, r1, r2, r3, rfl⟩, r5, r6, r7, r8⟩, ⟨m1, m2, h, m4, m5, m6, m7, m8, m9, Nat.zero_lt_two, m11, m12⟩, fun q => absurd rfl q⟩

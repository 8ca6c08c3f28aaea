/-! PURE: the answers of the class, and the reference's -/
theorem BInv_X {L : Nat} {f : Nat → Nat} {g : Nat → Nat → Nat} (hX : XBase L f g) : BInv (GX f g) (BX f g) := by
  unfold BX
  exact (walk_congr (g' := GX f g) (t' := fun _ => 0) (p' := fun _ => 0) (s' := fun _ => 0) (q' := fun _ => 0) ⟨fun _ _ => ⟨rfl, fun _ _ => ⟨rfl, fun _ _ => rfl⟩⟩, fun _ _ => ⟨rfl, rfl⟩⟩ (okL_GX hX) hX.2.2.2.1.1).2
theorem first_X {L : Nat} {f : Nat → Nat} {g : Nat → Nat → Nat} {mf : Nat → Nat} {mg : Nat → Nat → Nat} {mt : Nat → Nat} {en pa pb : Nat} (hX : XBase L f g) (hr : XR f g mf mg) (hM : MBase mf mg) (hW : Walked mf mg mt) (hq : askOK f en pa pb) : firstC en pa pb (f 10) (f 11) (fun i => enc ((BX f g).2.1 i)) (BX f g).1 = missN (mf 5) mg (mf 19) mt en pa pb := by
  have eb := eqB_W hX hr hW
  have bi := BInv_X hX
  have x7 := hX.2.1.1
  have y7 := hX.2.1.2.1
  rw [mis_bar]
  refine Eq.trans ?_ (bar_congr (b' := (mf 19, mt, mg 8, mg 9, mg 10)) (eqL_W hX hr hM hW) (okL_GX hX) (fun i hi => (bi.2 i hi).1) eb)
  refine first_bar (okL_GX hX) bi (fun _ _ => rfl) rfl rfl (fun e => ?_) (fun e => ?_)
  · have := hq.1 e
    refine ⟨⟨by omega, by omega⟩, ?_, ?_⟩
    · rw [if_neg (fun z => absurd z.1 (by decide))]
    · rw [if_neg (fun z => absurd z.1 (by decide))]
  · have := hq.2 e
    exact ⟨⟨rfl, rfl⟩, by omega, by omega⟩
theorem missN_or (mf : Nat) (g : Nat → Nat → Nat) (n : Nat) (t : Nat → Nat) (en pa pb : Nat) : missN mf g n t en pa pb = 4294967295 ∨ missN mf g n t en pa pb < n := by
  rw [mis_bar]; exact barN_or _ _ _ _ _ _ _ _
theorem miss_eq {L : Nat} {f : Nat → Nat} {g : Nat → Nat → Nat} {mf : Nat → Nat} {mg : Nat → Nat → Nat} {mt : Nat → Nat} {en pa pb : Nat} (hX : XBase L f g) (hr : XR f g mf mg) (hM : MBase mf mg) (hW : Walked mf mg mt) (hq : askOK f en pa pb) : missC f g en pa pb = (if mf 19 ≤ 12000 then (if 2147483648 ≤ missN (mf 5) mg (mf 19) mt en pa pb then 4294967295 else findR (mf 5) mg en pa pb 16 0) else 4294967294) := by
  have eb : (BX f g).1 = mf 19 := (eqB_W hX hr hW).1
  unfold missC
  rw [first_X hX hr hM hW hq, eb, scan_find hX hr hq 16 0 (by decide)]
  by_cases c : mf 19 ≤ 12000
  · rw [if_pos c, if_pos c]
    rcases missN_or (mf 5) mg (mf 19) mt en pa pb with o | o
    · rw [if_pos o, if_pos (by rw [o]; decide)]
    · rw [if_neg (by omega), if_neg (by omega)]
  · rw [if_neg c, if_neg c]
theorem endP_congr {mf : Nat} {g g' : Nat → Nat → Nat} {wt x : Nat} (hE : eqL g g') (hL : okL g) (hx : wfM g x) : endP mf g wt x = endP mf g' wt x := by
  unfold endP
  rw [decide_eq_decide.mpr (end_congr (mf := mf) hE hL hx), decide_eq_decide.mpr (good_congr (mf := mf) hE hL hx)]
theorem ends_eq {L : Nat} {f : Nat → Nat} {g : Nat → Nat → Nat} {mf : Nat → Nat} {mg : Nat → Nat → Nat} {mt : Nat → Nat} {wt en ge be mo : Nat} (hX : XBase L f g) (hr : XR f g mf mg) (hM : MBase mf mg) (hW : Walked mf mg mt) (hw : wt ≤ 3) (hI : (BX f g).1 ≤ 12000 → endsI (f 9) (GX f g) (BX f g) (BX f g).1 en ge be) (ho : (BX f g).1 ≤ 12000 → wt = 3 → mo = (BX f g).2.2.2.2 ((BX f g).1 - 1)) : endsC (BX f g) wt en ge be mo = endsM (mf 5) mg (mf 19, mt, mg 8, mg 9, mg 10) wt := by
  have eb := eqB_W hX hr hW
  have bi := BInv_X hX
  have e9 : f 9 = mf 5 := hr.1.2.2.2.2
  have e1 : (BX f g).1 = mf 19 := eb.1
  have p0 : 0 < mf 19 := walked_pos hM hW
  unfold endsC endsM
  simp only
  rw [e1]
  rw [e1] at hI ho
  by_cases c : mf 19 ≤ 12000
  · rw [if_pos c, if_pos c]
    obtain ⟨i0, i1, i2⟩ := hI c
    have K : ∀ w, cntN (fun j => endP (f 9) (GX f g) w ((BX f g).2.1 j)) (mf 19) = cntN (fun j => endP (mf 5) mg w (mt j)) (mf 19) := fun w => cnt_congr _ (fun j hj => by
      have hj : j < (BX f g).1 := by rw [e1]; exact hj
      rw [endP_congr (eqL_W hX hr hM hW) (okL_GX hX) (bi.2 j hj).1, e9, (eb.2 j hj).1])
    rcases (show wt = 0 ∨ wt = 1 ∨ wt = 2 ∨ wt = 3 by omega) with rfl | rfl | rfl | rfl
    · rw [if_pos rfl, if_neg (by decide), i0, K]
    · rw [if_neg (by decide), if_pos rfl, if_neg (by decide), i1, K]
    · rw [if_neg (by decide), if_neg (by decide), if_pos rfl, if_neg (by decide), i2, K]
    · rw [if_neg (by decide), if_neg (by decide), if_neg (by decide), if_pos rfl, ho c rfl]
      have hj : mf 19 - 1 < (BX f g).1 := by rw [e1]; omega
      exact (eb.2 _ hj).2.2.2
  · rw [if_neg c, if_neg c]

/-! THE CLAIM OUT OF ONE WALK OF THE LAW'S BODY. Your part is whole_start (and what it stands on); all else here is the same for every law, but numbers. -/
def R_law : String := "FarStoreLaw"
def lw_P (b : Addr) (xs : List Int32) (args : Array Value) (s : State) : Prop := args = #[.ref b] ∧ s.IntsAt b xs ∧ xs.length ≤ 3072 ∧ (Jvm.Cond.and given_1 narrow_1).before args s = true
def lw_Q (_ : Array Value) (s : State) (o : Outcome) (t : State) : Prop := o = .returned (some (.int 1)) ∧ Framed s o t [] 600000 7302250
def lw_Z (below : List Frame) (a : Array Value) (s : State) : State → Prop := fun t => ∃ o, t.status = .running ∧ Ended t below o ∧ lw_Q a s o t
/-- the law's own end, with 1 on the stack, nothing written that was there before, its room as the claim has it -/
theorem lw_ret {p : Program} {l : Launch} {e : Env} {s : State} {m : MethodId} {below : List Frame} {meth : Method} {c : Code} {b : Nat} (hx : p.tables.exec = Jvm.exec) (hb : c.code = code) (hr : meth.sig.returnType = ret) (hlocks : meth.locks = false) {pc : Nat} {H : Heap} {ls : Array Slot} (hdg : decode code pc = .ok (.ireturn, 1)) : W p l e room_1 s m #[Value.ref b] below meth c H [] 600000 7302250 (lw_Z below #[Value.ref b] s) (F0 m pc ls [.int 1]) := by
  intro T hT X
  obtain ⟨fs, hret, hrun, hended, hW, hframe⟩ := X.leave (v := some (.int 1)) (hlocks := hlocks) (fun h => by rw [hr] at h; cases h)
  have hmeth' : T.vm.method? m = some meth := X.method'
  refine ⟨T.setFrames fs, ?_, .returned (some (.int 1)), hrun, hended, rfl, ⟨_, rfl⟩, hW, hframe⟩
  jvm_step X.here [X.here.top, hx, hb, hdg, hmeth', hr, ret, narrow_b1]
  (try refine ⟨rfl, ?_⟩); (try refine ⟨rfl, ?_⟩)
  first | (intro acts; rw [hret _ acts rfl rfl rfl]) | rw [hret _ _ rfl rfl rfl]
  exact Steps.refl _
/-- what holds at the law's entry: the machine, the code, the tables' words (any of lw_tbl by 'hts w (by decide +kernel)'), the script of L ints xs at the cell b, what the Statement gives of the start (any of its parts by flat_of_before) -/
def lw_At (p : Program) (s : State) (m : MethodId) (meth : Method) (c : Code) (b L : Nat) (xs : Nat → Int32) : Prop :=
  p.tables.exec = Jvm.exec ∧ c.code = code ∧ meth.sig.returnType = ret ∧ c.maxLocals = 4 ∧ s.vm.findClass R_law = some m.cls ∧ (∀ w ∈ lw_tbl, w.before #[Value.ref b] s = true) ∧ va_X b L xs s s.heap ∧ b < s.heap.size ∧ meth.locks = false ∧ (Jvm.Cond.and given_1 narrow_1).before #[Value.ref b] s = true
theorem law_le {L i : Nat} (hL : L ≤ 3072) (hi : i ≤ 3072) : Int32.ofNat L - nI 6 < nI i ↔ L < i + 6 := by
  rw [fa_lt, Int32.toInt_sub, show (Int32.ofNat L).toInt = (L : Int) from nI_toInt (show L < 2 ^ 31 by omega), nI_toInt (show 6 < 2 ^ 31 by omega), nI_toInt (show i < 2 ^ 31 by omega)]
  simp only [Int.bmod_def]
  omega
set_option maxHeartbeats 4000000 in
set_option maxRecDepth 100000 in
/-- the law's loop, from its head -/
theorem law_loop {p : Program} {l : Launch} {e : Env} {s : State} {m : MethodId} {below : List Frame} {meth : Method} {c : Code} {b L : Nat} {xs : Nat → Int32} {ak : Nat} {adK adV : Nat → Nat} {D : va_G} {ma : Nat → Nat} {mk : Nat → ClassId} {ad0 : Nat} (C : lawC p s m c b L xs ak adK adV) (hr9 : meth.sig.returnType = ret) (hlocks : meth.locks = false) :
    ∀ (N n : Nat) (u : XSt) (v : MSt) (H : Heap) (locs : List Loc) (cells slots : Nat), L < 6 * n + N → 6 * n ≤ L → lawI n u v → u.1 0 = ad0 → lawR u.2.2.1 cells slots → lawH D s u ma mk v H locs → ∀ ls : Array Slot, lv_has ls 4 [(0, .ref b), (1, .ref ad0), (2, .ref (ma 0)), (3, .int (nI (6 * n)))] → W p l e room_1 s m #[Value.ref b] below meth c H locs cells slots (lw_Z below #[Value.ref b] s) (F0 m 18 ls []) := by
  obtain ⟨SF, hX, hbl, h3, hZ⟩ := id C
  obtain ⟨hx, hb, hml, hown, hts⟩ := id SF
  intro N
  induction N with
  | zero => intro n u v H locs cells slots h1 h2; exact absurd h1 (by omega)
  | succ N ih =>
    intro n u v H locs cells slots hN hn h ha hR hH ls hl
    obtain ⟨ad, ka, Lx, f, g⟩ := u
    obtain ⟨mf, mg, mt⟩ := v
    have ha : ad 0 = ad0 := ha
    subst ha
    have hR : lawR Lx cells slots := hR
    have hS := hH.2.2.2
    refine lv_iload_n hx hb dL_law_18 rfl (lv_at hl 3 rfl) ?_
    refine lv_aload_n hx hb dL_law_19 rfl (lv_at hl 0 rfl) ?_
    refine va_slen hx hb hX hbl (Nat.not_le.mpr hbl) hS dL_law_20 ?_
    refine lv_bipush (v := nI 6) hx hb dL_law_21 (by decide) ?_
    refine lv_isub hx hb dL_law_23 ?_
    refine lv_icmp_gt (tgt := 572) hx hb dL_law_24 (by decide) (fun q => ?_) (fun q => ?_)
    · obtain ⟨hR1, hR2, -⟩ := hR
      refine lv_iconst (v := 1) hx hb dL_law_572 (by decide) ?_
      refine va_forget (fun q hq => hS.2.2 q hq) ?_
      refine W.widen (k := 600000) (n := 7302250) (by omega) (by omega) ?_
      exact lw_ret hx hb hr9 hlocks dL_law_573
    · have hi : 6 * n + 5 < L := by
        have : ¬ L < 6 * n + 6 := fun z => q ((law_le h3 (by omega)).mpr z)
        omega
      have K : lawK p l e s m b below meth c D (lw_Z below #[Value.ref b] s) ma mk n (6 * n) (ad 0) := by
        intro u' v' H' locs' cells' slots' hI' ha' hR' hH' ls' hl'
        refine lv_iinc (v := nI (6 * (n + 1))) (lv' := [(3, .int (nI (6 * (n + 1)))), (0, .ref b), (1, .ref (ad 0)), (2, .ref (ma 0))]) hx hb dL_law_566 hl' (k := 3) rfl (nI_add (6 * n) 6) (by decide) rfl (fun ls hl => ?_)
        refine lv_goto (tgt := 18) hx hb dL_law_569 (by decide) ?_
        exact ih (n + 1) u' v' H' locs' cells' slots' (by omega) (by omega) hI' ha' hR' hH' ls (lv_sub hl [1, 2, 3, 0] rfl)
      refine lv_aload_n hx hb dL_law_27 rfl (lv_at hl 0 rfl) ?_
      refine lv_iload_n hx hb dL_law_28 rfl (lv_at hl 3 rfl) ?_
      refine va_sld hx hb hX hbl (Nat.not_le.mpr hbl) hS (vp_in_nI (show 6 * n < L by omega) (by omega)) dL_law_29 ?_
      refine lv_topE (nI (aN (xs (nI (6 * n)).toNatClampNeg))) (aN_eq _) ?_
      refine lv_bipush (v := nI 15) hx hb dL_law_30 (by decide) ?_
      refine lv_iand hx hb dL_law_32 ?_
      refine lv_topE (nI (aN (xs (nI (6 * n)).toNatClampNeg) % 16)) (fa_mask _ 4) ?_
      have hk : aN (xs (nI (6 * n)).toNatClampNeg) % 16 < 16 := Nat.mod_lt _ (by decide)
      generalize aN (xs (nI (6 * n)).toNatClampNeg) % 16 = k at hk ⊢
      rcases (show k = 0 ∨ k = 1 ∨ k = 2 ∨ k = 3 ∨ k = 4 ∨ k = 5 ∨ k = 6 ∨ k = 7 ∨ k = 8 ∨ k = 9 ∨ k = 10 ∨ k = 11 ∨ k = 12 ∨ k = 13 ∨ k = 14 ∨ k = 15 from by omega) with rfl | rfl | rfl | rfl | rfl | rfl | rfl | rfl | rfl | rfl | rfl | rfl | rfl | rfl | rfl | rfl
      · refine lv_tableIn (off := 71) (tgt := 104) hx hb dL_law_33 (by decide) (by decide) (by decide +kernel) (by decide) ?_
        exact law_feed C h hR hi (by omega) hH hl K
      · refine lv_tableIn (off := 134) (tgt := 167) hx hb dL_law_33 (by decide) (by decide) (by decide +kernel) (by decide) ?_
        exact law_end C h hR hi (by omega) hH hl K
      · refine lv_tableIn (off := 157) (tgt := 190) hx hb dL_law_33 (by decide) (by decide) (by decide +kernel) (by decide) ?_
        exact law_program C h hR hi (by omega) hH hl K
      · refine lv_tableIn (off := 180) (tgt := 213) hx hb dL_law_33 (by decide) (by decide) (by decide +kernel) (by decide) ?_
        exact law_fault C h hR hi (by omega) hH hl K
      · refine lv_tableIn (off := 203) (tgt := 236) hx hb dL_law_33 (by decide) (by decide) (by decide +kernel) (by decide) ?_
        exact law_word C h hR hi (by omega) hH hl K
      · refine lv_tableIn (off := 246) (tgt := 279) hx hb dL_law_33 (by decide) (by decide) (by decide +kernel) (by decide) ?_
        exact law_falls C h hR hi (by omega) hH hl K
      · refine lv_tableIn (off := 283) (tgt := 316) hx hb dL_law_33 (by decide) (by decide) (by decide +kernel) (by decide) ?_
        exact law_walk C h hR hi (by omega) hH hl K
      · refine lv_tableIn (off := 296) (tgt := 329) hx hb dL_law_33 (by decide) (by decide) (by decide +kernel) (by decide) ?_
        exact law_ends C h hR hi (by omega) hH hl K
      · refine lv_tableIn (off := 319) (tgt := 352) hx hb dL_law_33 (by decide) (by decide) (by decide +kernel) (by decide) ?_
        exact law_both C h hR hi (by omega) hH hl K
      · refine lv_tableIn (off := 352) (tgt := 385) hx hb dL_law_33 (by decide) (by decide) (by decide +kernel) (by decide) ?_
        exact law_outcome C h hR hi (by omega) hH hl K
      · refine lv_tableIn (off := 385) (tgt := 418) hx hb dL_law_33 (by decide) (by decide) (by decide +kernel) (by decide) ?_
        exact law_step C h hR hi (by omega) hH hl K
      · refine lv_tableIn (off := 408) (tgt := 441) hx hb dL_law_33 (by decide) (by decide) (by decide +kernel) (by decide) ?_
        exact law_missing C h hR hi (by omega) hH hl K
      · refine lv_tableIn (off := 467) (tgt := 500) hx hb dL_law_33 (by decide) (by decide) (by decide +kernel) (by decide) ?_
        exact law_statement C h hR hi (by omega) hH hl K
      · refine lv_tableIn (off := 510) (tgt := 543) hx hb dL_law_33 (by decide) (by decide) (by decide +kernel) (by decide) ?_
        exact law_about C h hR hi (by omega) hH hl K
      · refine lv_tableOut (tgt := 566) hx hb dL_law_33 (Or.inr (by decide)) (by decide) ?_
        exact K _ _ _ _ _ _ (lawI_up h) rfl hR hH _ hl
      · refine lv_tableOut (tgt := 566) hx hb dL_law_33 (Or.inr (by decide)) (by decide) ?_
        exact K _ _ _ _ _ _ (lawI_up h) rfl hR hH _ hl

def cntN (P : Nat → Bool) : Nat → Nat
  | 0 => 0
  | n + 1 => cntN P n + (if P n = true then 1 else 0)
theorem cntN_le (P : Nat → Bool) (n : Nat) : cntN P n ≤ n := by
  induction n with
  | zero => exact Nat.le_refl 0
  | succ n ih => rw [cntN]; split <;> omega
theorem cnt_t {P : Nat → Bool} {i : Nat} (h : P i = true) : cntN P i + 1 = cntN P (i + 1) := by rw [cntN, if_pos h]
theorem cnt_f {P : Nat → Bool} {i : Nat} (h : P i = false) : cntN P i + 0 = cntN P (i + 1) := by rw [cntN, if_neg (by rw [h]; decide)]
def endP (mf : Nat) (g : Nat → Nat → Nat) (wt x : Nat) : Bool := decide (isEndM mf g x) && (if wt = 0 then true else if wt = 1 then decide (isGoodM mf g x) else decide (¬ bitsN x 44 2 = 0))
theorem endP_f {mf : Nat} {g : Nat → Nat → Nat} {wt x : Nat} (h : ¬ isEndM mf g x) : endP mf g wt x = false := by unfold endP; rw [decide_eq_false h]; rfl
theorem endP_0 {mf : Nat} {g : Nat → Nat → Nat} {wt x : Nat} (h : isEndM mf g x) (h0 : wt = 0) : endP mf g wt x = true := by unfold endP; rw [decide_eq_true h, if_pos h0]; rfl
theorem endP_1 {mf : Nat} {g : Nat → Nat → Nat} {wt x : Nat} (h : isEndM mf g x) (h0 : ¬ wt = 0) (h1 : wt = 1) (hg : isGoodM mf g x) : endP mf g wt x = true := by unfold endP; rw [decide_eq_true h, if_neg h0, if_pos h1, decide_eq_true hg]; rfl
theorem endP_1f {mf : Nat} {g : Nat → Nat → Nat} {wt x : Nat} (h0 : ¬ wt = 0) (h1 : wt = 1) (hg : ¬ isGoodM mf g x) : endP mf g wt x = false := by unfold endP; rw [if_neg h0, if_pos h1, decide_eq_false hg, Bool.and_false]
theorem endP_2 {mf : Nat} {g : Nat → Nat → Nat} {wt x : Nat} (h : isEndM mf g x) (h0 : ¬ wt = 0) (h1 : ¬ wt = 1) (hg : ¬ bitsN x 44 2 = 0) : endP mf g wt x = true := by unfold endP; rw [decide_eq_true h, if_neg h0, if_neg h1, decide_eq_true hg]; rfl
theorem endP_2f {mf : Nat} {g : Nat → Nat → Nat} {wt x : Nat} (h0 : ¬ wt = 0) (h1 : ¬ wt = 1) (hg : bitsN x 44 2 = 0) : endP mf g wt x = false := by unfold endP; rw [if_neg h0, if_neg h1, decide_eq_false (p := ¬ bitsN x 44 2 = 0) (fun q => q hg), Bool.and_false]
def endsM (mf : Nat) (g : Nat → Nat → Nat) (b : BT) (wt : Nat) : Nat := if b.1 ≤ 12000 then (if wt = 3 then b.2.2.2.2 (b.1 - 1) else cntN (fun i => endP mf g wt (b.2.1 i)) b.1) else 4294967294
theorem ins_pos {b : BT} {x fr k : Nat} (h : 0 < b.1 ∨ b.1 = 0) : 0 < (insB b x fr k).1 := by
  unfold insB
  split
  · rename_i e
    obtain ⟨i, hi, -⟩ := hasB_iff.mp e
    omega
  · split
    · exact Nat.succ_pos _
    · omega
theorem row_mono {mf : Nat} {g : Nat → Nat → Nat} {i : Nat} : ∀ (n k : Nat) (b : BT), b.1 ≤ (rowF mf g i n k b).1 := by
  intro n
  induction n with
  | zero => intro k b; exact Nat.le_refl _
  | succ n ih =>
    intro k b
    refine Nat.le_trans ?_ (ih (k + 1) _)
    unfold stepB
    split
    · exact Nat.le_refl _
    · exact ins_mono.1
theorem run_mono {mf : Nat} {g : Nat → Nat → Nat} : ∀ (n i : Nat) (b : BT), b.1 ≤ (runB mf g n b i).1 := by
  intro n
  induction n with
  | zero => intro i b; exact Nat.le_refl _
  | succ n ih =>
    intro i b
    rw [runB]
    split
    · exact Nat.le_refl _
    · split
      · exact Nat.le_refl _
      · exact Nat.le_trans (row_mono 10 0 b) (ih _ _)
theorem WALK_pos (mf : Nat) (g : Nat → Nat → Nat) (fe : Nat) : 0 < (WALK mf g fe).1 := Nat.lt_of_lt_of_le (ins_pos (Or.inr rfl)) (run_mono _ _ _)
theorem walked_pos {f : Nat → Nat} {g : Nat → Nat → Nat} {t : Nat → Nat} (_ : MBase f g) (h : Walked f g t) : 0 < f 19 := by
  have := h.2.2.1
  simp only at this
  rw [this]; exact WALK_pos _ _ _
/-- what a fence must bar: the first place, or none -/
def barN (mf : Nat) (g : Nat → Nat → Nat) (n : Nat) (t : Nat → Nat) (fe en pa pb : Nat) : Nat := if en = 0 then findN (fun i => decide (bitsN (t i) 16 3 = (if fe / 8 = 0 ∧ fe % 8 ≤ pa then pa + 1 else pa) ∧ bitsN (t i) 19 3 = (if fe / 8 = 1 ∧ fe % 8 ≤ pb then pb + 1 else pb))) n else findN (fun i => endM mf g pa pb (t i)) n
set_option maxHeartbeats 4000000 in
set_option maxRecDepth 100000 in
theorem c_X5_ends (l : Launch) (D : va_G) (ad : Nat → Nat) (ka : Nat → ClassId) (f : Nat → Nat) (g : Nat → Nat → Nat) (t : Nat → Nat) (sz : Nat) (wt : Nat) (hI : MInv f g t) (hw9 : wt < 4294967296) : Met l yX5_ends (.code yX5_ends cX5_ends 6 (some .int) :: wsL_law) ({ frames := 7, cells := 0, slots := 0, locals := 171 }) (va_Pc [.ref (ad 0), .int (nI wt)] (PW D (mW ad ka f g t) (mT ka) sz)) (va_Qi (fun (r : Int32) (u : MSt) => (¬ wt ≤ 3 → r = nI 4294967295 ∧ u = (f, g, t)) ∧ (wt ≤ 3 → sameM f u.1 g u.2.1 ∧ MBase u.1 u.2.1 ∧ Walked u.1 u.2.1 u.2.2 ∧ u.1 20 ≠ 0 ∧ r = nI (endsM (u.1 5) u.2.1 (u.1 19, u.2.2, u.2.1 8, u.2.1 9, u.2.1 10) wt))) (QW D (fun u : MSt => mW ad ka u.1 u.2.1 u.2.2) (fun _ => mT ka) (va_A (mW ad ka f g t) sz)) (va_A (mW ad ka f g t) sz)) 0 0 (va_A (mW ad ka f g t) sz) := by
  refine Met.ofW (cc := cX5_ends) (maxL := 6) (ret := (some .int)) (by decide) rfl ?_
  intro p e s m args below meth c s₁ B hml hv
  obtain ⟨rfl, hsz, hP, hK, hD0⟩ := hv
  have hx := B.exec
  have hb := B.bytes
  have hr := B.returns
  have hts := atoms_spec (ws := .code yX5_ends cX5_ends 6 (some .int) :: wsL_law) B.pre
  have hU : ∀ w ∈ wsL_law, w.before _ s = true := fun w h => hts w (List.mem_cons_of_mem _ h)
  have hown : s.vm.findClass RX5 = some m.cls := findClass_of_methodNamed B.named
  have hlocks := B.notSynchronized
  subst hsz
  have hD := hD0.self (sz := s.heap.size)
  generalize hAe : va_A (mW ad ka f g t) s.heap.size = Ar at hD ⊢
  have hA : ∀ q : Nat, s.heap.size ≤ q → Ar q := fun q h => by rw [← hAe]; exact Or.inr h
  have hS : va_S Ar s.heap s.heap [] := va_S.rf
  have hP : va_P D vwCl [(ad 0, .inr (5, [.ref (ad 1), .ref (ad 2), .ref (ad 3), .ref (ad 4), .ref (ad 5), .int (nI (f 5)), .ref (ad 6), .int (nI (f 7)), .int (nI (f 8)), .int (nI (f 9)), .int (nI (f 10)), .int (nI (f 11)), .int (nI (f 12)), .int (nI (f 13)), .ref (ad 7), .ref (ad 8), .ref (ad 9), .ref (ad 10), .ref (ad 11), .int (nI (f 19)), .int (nI (f 20)), .int (nI (f 21)), .ref (ad 12)])), (ad 1, .inl (ka 1, 5, .inl (nA (g 1)))), (ad 2, .inl (ka 2, 40, .inl (nA (g 2)))), (ad 3, .inl (ka 3, 160, .inl (nA (g 3)))), (ad 4, .inl (ka 4, 4, .inl (nA (g 4)))), (ad 5, .inl (ka 5, 4, .inl (nA (g 5)))), (ad 6, .inl (ka 6, 200, .inl (nA (g 6)))), (ad 7, .inl (ka 7, 12001, .inr (.inl (lA t)))), (ad 8, .inl (ka 8, 12001, .inl (nA (g 8)))), (ad 9, .inl (ka 9, 12001, .inl (nA (g 9)))), (ad 10, .inl (ka 10, 12001, .inl (nA (g 10)))), (ad 11, .inl (ka 11, 32768, .inl (nA (g 11)))), (ad 12, .inl (ka 12, 64, .inl (nA (g 12))))] s.heap := hP
  have hD : va_D Ar [(ad 0, .inr (5, [.ref (ad 1), .ref (ad 2), .ref (ad 3), .ref (ad 4), .ref (ad 5), .int (nI (f 5)), .ref (ad 6), .int (nI (f 7)), .int (nI (f 8)), .int (nI (f 9)), .int (nI (f 10)), .int (nI (f 11)), .int (nI (f 12)), .int (nI (f 13)), .ref (ad 7), .ref (ad 8), .ref (ad 9), .ref (ad 10), .ref (ad 11), .int (nI (f 19)), .int (nI (f 20)), .int (nI (f 21)), .ref (ad 12)])), (ad 1, .inl (ka 1, 5, .inl (nA (g 1)))), (ad 2, .inl (ka 2, 40, .inl (nA (g 2)))), (ad 3, .inl (ka 3, 160, .inl (nA (g 3)))), (ad 4, .inl (ka 4, 4, .inl (nA (g 4)))), (ad 5, .inl (ka 5, 4, .inl (nA (g 5)))), (ad 6, .inl (ka 6, 200, .inl (nA (g 6)))), (ad 7, .inl (ka 7, 12001, .inr (.inl (lA t)))), (ad 8, .inl (ka 8, 12001, .inl (nA (g 8)))), (ad 9, .inl (ka 9, 12001, .inl (nA (g 9)))), (ad 10, .inl (ka 10, 12001, .inl (nA (g 10)))), (ad 11, .inl (ka 11, 32768, .inl (nA (g 11)))), (ad 12, .inl (ka 12, 64, .inl (nA (g 12))))] := hD
  generalize hQ : MQ _ _ _ _ _ _ _ = Q
  have hl := lv_entry ([.ref (ad 0), .int (nI wt)]) (n := 6) (Nat.le_of_ble_eq_true rfl)
  rw [lg_entry_eq]
  generalize (lg_sl ([.ref (ad 0), .int (nI wt)]) ++ List.replicate (6 - (lg_sl ([.ref (ad 0), .int (nI wt)])).length) Slot.unset).toArray = ls at hl ⊢
  have hl : lv_has ls 6 [(0, .ref (ad 0)), (1, .int (nI wt))] := hl
  refine lv_iload_n hx hb dX5_ends_0 rfl (lv_at hl 1 rfl) ?_
  refine lv_iconst (v := nI 0) hx hb dX5_ends_1 (by decide) ?_
  refine lv_iconst (v := nI 3) hx hb dX5_ends_2 (by decide) ?_
  refine cSi (As := [.int (nI wt), .int (nI 0), .int (nI 3)]) (rest := []) ⟨hx, hb, hml, hown, hts⟩ (c_X5_isIn l  wt 0 3 (by omega) (by omega) (by omega)) (va_cwS 3 hts (gS mU_116 mU_117 mU_6 mU_118) rfl rfl rfl (by decide +kernel) ⟨Nat.le_of_ble_eq_true rfl, Nat.le_of_ble_eq_true rfl⟩) fbU (fun _ _ _ => trivial) rfl hl.1 rfl (Nat.le_of_ble_eq_true rfl) dX5_ends_3 ⟨Nat.zero_le _, Nat.zero_le _⟩ ?_
  refine lv_if_ne (tgt := 11) hx hb dX5_ends_6 (by decide) (fun c6_1 => ?_) (fun c6_1 => ?_)
  · have c6_1 : 0 ≤ wt ∧ wt ≤ 3 := bP_t c6_1
    refine lv_aload_n hx hb dX5_ends_11 rfl (lv_at hl 0 rfl) ?_
    refine kVi (As := []) (rest := []) (wr := []) ⟨hx, hb, hml, hown, hts⟩ (c_X5_isWalked l D ad ka f g t s.heap.size  (show MInv f g t from hI)) (cwV 0 hts (gV mU_468 mU_469 mU_470 mU_6 mU_471) rfl rfl rfl (by decide +kernel) ⟨Nat.le_of_ble_eq_true rfl, Nat.le_of_ble_eq_true rfl⟩) (va_recv hK hP (ci := 5) (q0 := 0) rfl rfl) hP hK hD hS hA [0, 1, 2, 3, 4, 5, 6, 7, 8, 9, 10, 11, 12] [] [0, 1, 2, 3, 4, 5, 6, 7, 8, 9, 10, 11] [] rfl rfl rfl rfl (by decide) rfl rfl rfl hl.1 rfl (Nat.le_of_ble_eq_true rfl) dX5_ends_12 ⟨by decide, by decide⟩ (fun r_3 u H locs hw hP hD hK hS => ?_)
    obtain ⟨f2, g2, t2⟩ := u
    obtain ⟨hr2, hsm2, hMB2, hWk2, h202⟩ := hw
    subst hr2
    have hsm2 : sameM f f2 g g2 := hsm2
    have hMB2 : MBase f2 g2 := hMB2
    have hWk2 : Walked f2 g2 t2 := hWk2
    have h202 : f2 20 ≠ 0 := h202
    have hP : va_P D vwCl [(ad 0, .inr (5, [.ref (ad 1), .ref (ad 2), .ref (ad 3), .ref (ad 4), .ref (ad 5), .int (nI (f2 5)), .ref (ad 6), .int (nI (f2 7)), .int (nI (f2 8)), .int (nI (f2 9)), .int (nI (f2 10)), .int (nI (f2 11)), .int (nI (f2 12)), .int (nI (f2 13)), .ref (ad 7), .ref (ad 8), .ref (ad 9), .ref (ad 10), .ref (ad 11), .int (nI (f2 19)), .int (nI (f2 20)), .int (nI (f2 21)), .ref (ad 12)])), (ad 1, .inl (ka 1, 5, .inl (nA (g2 1)))), (ad 2, .inl (ka 2, 40, .inl (nA (g2 2)))), (ad 3, .inl (ka 3, 160, .inl (nA (g2 3)))), (ad 4, .inl (ka 4, 4, .inl (nA (g2 4)))), (ad 5, .inl (ka 5, 4, .inl (nA (g2 5)))), (ad 6, .inl (ka 6, 200, .inl (nA (g2 6)))), (ad 7, .inl (ka 7, 12001, .inr (.inl (lA t2)))), (ad 8, .inl (ka 8, 12001, .inl (nA (g2 8)))), (ad 9, .inl (ka 9, 12001, .inl (nA (g2 9)))), (ad 10, .inl (ka 10, 12001, .inl (nA (g2 10)))), (ad 11, .inl (ka 11, 32768, .inl (nA (g2 11)))), (ad 12, .inl (ka 12, 64, .inl (nA (g2 12))))] H := hP
    have hD : va_D Ar [(ad 0, .inr (5, [.ref (ad 1), .ref (ad 2), .ref (ad 3), .ref (ad 4), .ref (ad 5), .int (nI (f2 5)), .ref (ad 6), .int (nI (f2 7)), .int (nI (f2 8)), .int (nI (f2 9)), .int (nI (f2 10)), .int (nI (f2 11)), .int (nI (f2 12)), .int (nI (f2 13)), .ref (ad 7), .ref (ad 8), .ref (ad 9), .ref (ad 10), .ref (ad 11), .int (nI (f2 19)), .int (nI (f2 20)), .int (nI (f2 21)), .ref (ad 12)])), (ad 1, .inl (ka 1, 5, .inl (nA (g2 1)))), (ad 2, .inl (ka 2, 40, .inl (nA (g2 2)))), (ad 3, .inl (ka 3, 160, .inl (nA (g2 3)))), (ad 4, .inl (ka 4, 4, .inl (nA (g2 4)))), (ad 5, .inl (ka 5, 4, .inl (nA (g2 5)))), (ad 6, .inl (ka 6, 200, .inl (nA (g2 6)))), (ad 7, .inl (ka 7, 12001, .inr (.inl (lA t2)))), (ad 8, .inl (ka 8, 12001, .inl (nA (g2 8)))), (ad 9, .inl (ka 9, 12001, .inl (nA (g2 9)))), (ad 10, .inl (ka 10, 12001, .inl (nA (g2 10)))), (ad 11, .inl (ka 11, 32768, .inl (nA (g2 11)))), (ad 12, .inl (ka 12, 64, .inl (nA (g2 12))))] := hD
    have hK : va_K D vwCl (mT ka) s := hK.sub [0, 1, 2, 3, 4, 5, 6, 7, 8, 9, 10, 11] rfl
    refine lv_if_ne (tgt := 21) hx hb dX5_ends_15 (by decide) (fun c15_4 => ?_) (fun c15_4 => ?_)
    · have c15_4 : f2 19 ≤ 12000 := bP_t c15_4
      have h12 := hWk2.2.1.1
      simp only at h12
      have hpos := walked_pos hMB2 hWk2
      refine lv_iload_n hx hb dX5_ends_21 rfl (lv_at hl 1 rfl) ?_
      refine lv_iconst (v := nI 3) hx hb dX5_ends_22 (by decide) ?_
      refine lv_icmp_ne (tgt := 38) hx hb dX5_ends_23 (by decide) (fun c23_5 => ?_) (fun c23_5 => ?_)
      · have c23_5 : ¬ (wt = 3) := fun h9 => c23_5 ((nI_eqG (a := wt) (b := 3) (by omega) (by omega)).mpr h9)
        refine lv_iconst (v := nI 0) hx hb dX5_ends_38 (by decide) ?_
        refine lv_istore_n (lv' := [(2, .int (nI 0)), (0, .ref (ad 0)), (1, .int (nI wt))]) hx hb dX5_ends_39 rfl hl (by decide) rfl (fun ls hl => ?_)
        refine lv_iconst (v := nI 0) hx hb dX5_ends_40 (by decide) ?_
        refine lv_istore_n (lv' := [(3, .int (nI 0)), (2, .int (nI 0)), (0, .ref (ad 0)), (1, .int (nI wt))]) hx hb dX5_ends_41 rfl hl (by decide) rfl (fun ls hl => ?_)
        have L42_53 : ∀ (n : Nat) (i : Nat), (i ≤ f2 19) → (f2 19 - i) < n → ∀ (H : Heap) (locs : List Loc), va_P D vwCl [(ad 0, .inr (5, [.ref (ad 1), .ref (ad 2), .ref (ad 3), .ref (ad 4), .ref (ad 5), .int (nI (f2 5)), .ref (ad 6), .int (nI (f2 7)), .int (nI (f2 8)), .int (nI (f2 9)), .int (nI (f2 10)), .int (nI (f2 11)), .int (nI (f2 12)), .int (nI (f2 13)), .ref (ad 7), .ref (ad 8), .ref (ad 9), .ref (ad 10), .ref (ad 11), .int (nI (f2 19)), .int (nI (f2 20)), .int (nI (f2 21)), .ref (ad 12)])), (ad 1, .inl (ka 1, 5, .inl (nA (g2 1)))), (ad 2, .inl (ka 2, 40, .inl (nA (g2 2)))), (ad 3, .inl (ka 3, 160, .inl (nA (g2 3)))), (ad 4, .inl (ka 4, 4, .inl (nA (g2 4)))), (ad 5, .inl (ka 5, 4, .inl (nA (g2 5)))), (ad 6, .inl (ka 6, 200, .inl (nA (g2 6)))), (ad 7, .inl (ka 7, 12001, .inr (.inl (lA t2)))), (ad 8, .inl (ka 8, 12001, .inl (nA (g2 8)))), (ad 9, .inl (ka 9, 12001, .inl (nA (g2 9)))), (ad 10, .inl (ka 10, 12001, .inl (nA (g2 10)))), (ad 11, .inl (ka 11, 32768, .inl (nA (g2 11)))), (ad 12, .inl (ka 12, 64, .inl (nA (g2 12))))] H → va_D Ar [(ad 0, .inr (5, [.ref (ad 1), .ref (ad 2), .ref (ad 3), .ref (ad 4), .ref (ad 5), .int (nI (f2 5)), .ref (ad 6), .int (nI (f2 7)), .int (nI (f2 8)), .int (nI (f2 9)), .int (nI (f2 10)), .int (nI (f2 11)), .int (nI (f2 12)), .int (nI (f2 13)), .ref (ad 7), .ref (ad 8), .ref (ad 9), .ref (ad 10), .ref (ad 11), .int (nI (f2 19)), .int (nI (f2 20)), .int (nI (f2 21)), .ref (ad 12)])), (ad 1, .inl (ka 1, 5, .inl (nA (g2 1)))), (ad 2, .inl (ka 2, 40, .inl (nA (g2 2)))), (ad 3, .inl (ka 3, 160, .inl (nA (g2 3)))), (ad 4, .inl (ka 4, 4, .inl (nA (g2 4)))), (ad 5, .inl (ka 5, 4, .inl (nA (g2 5)))), (ad 6, .inl (ka 6, 200, .inl (nA (g2 6)))), (ad 7, .inl (ka 7, 12001, .inr (.inl (lA t2)))), (ad 8, .inl (ka 8, 12001, .inl (nA (g2 8)))), (ad 9, .inl (ka 9, 12001, .inl (nA (g2 9)))), (ad 10, .inl (ka 10, 12001, .inl (nA (g2 10)))), (ad 11, .inl (ka 11, 32768, .inl (nA (g2 11)))), (ad 12, .inl (ka 12, 64, .inl (nA (g2 12))))] → va_S Ar s.heap H locs → ∀ ls : Array Slot, lv_has ls 6 [(0, .ref (ad 0)), (1, .int (nI wt)), (2, .int (nI (cntN (fun i => endP (f2 5) g2 wt (t2 i)) i))), (3, .int (nI i))] → W p l e ({ frames := 7, cells := 0, slots := 0, locals := 171 } : Room) s m (([.ref (ad 0), .int (nI wt)] : List Value).toArray) below meth c H locs 0 0 Q (F0 m 42 ls []) := by
          intro n42
          induction n42 with
          | zero => intro i hi hm42; exact absurd hm42 (Nat.not_lt_zero _)
          | succ n42 ih42 =>
            intro i hi hm42 H locs hP hD hS ls hl
            refine lv_iload_n hx hb dX5_ends_42 rfl (lv_at hl 3 rfl) ?_
            refine lv_aload_n hx hb dX5_ends_43 rfl (lv_at hl 0 rfl) ?_
            refine va_get (D := D) (ci := 5) (v := .int (nI (f2 19))) (C := RX5) (T := TX5) (N := 23) hx hb hU iX5 hown hK hP 0 rfl rfl 19 (by decide) (hU _ mU_467) (fun _ h9 => h9) rfl dX5_ends_44 ?_
            refine lv_icmp_ge (tgt := 113) hx hb dX5_ends_47 (by decide) (fun c47_6 => ?_) (fun c47_6 => ?_)
            · have c47_6 : f2 19 ≤ i := (nI_leI (a := f2 19) (b := i) (by omega) (by omega)).mp c47_6
              refine lv_iload_n hx hb dX5_ends_113 rfl (lv_at hl 2 rfl) ?_
              subst hQ
              exact rwi (f2, g2, t2) hx hb hr hlocks (⟨fun h9 => absurd (by omega) h9, fun _ => ⟨hsm2, hMB2, hWk2, h202, by rw [endsM, if_pos c15_4, if_neg c23_5, show i = f2 19 by omega]⟩⟩) hP hK hD hS dX5_ends_114
            · have c47_6 : ¬ (f2 19 ≤ i) := fun h9 => c47_6 ((nI_leI (a := f2 19) (b := i) (by omega) (by omega)).mpr h9)
              have hti := (hWk2.2.1.2 i (by omega)).1
              simp only at hti
              have htl := hti.1
              refine lv_aload_n hx hb dX5_ends_50 rfl (lv_at hl 0 rfl) ?_
              refine va_get (D := D) (ci := 5) (v := .ref (ad 7)) (C := RX5) (T := TX5) (N := 23) hx hb hU iX5 hown hK hP 0 rfl rfl 14 (by decide) (hU _ mU_83) (fun _ h9 => h9) rfl dX5_ends_51 ?_
              refine lv_iload_n hx hb dX5_ends_54 rfl (lv_at hl 3 rfl) ?_
              refine n_lald hx hb hK hP 7 6 rfl rfl (i := i) (by omega) (by decide) dX5_ends_55 ?_
              refine lv_lstore (lv' := [(4, .long (lN (t2 i))), (0, .ref (ad 0)), (1, .int (nI wt)), (2, .int (nI (cntN (fun i => endP (f2 5) g2 wt (t2 i)) i))), (3, .int (nI i))]) hx hb dX5_ends_56 hl (by decide) rfl (fun ls hl => ?_)
              refine lv_iload_n hx hb dX5_ends_58 rfl (lv_at hl 3 rfl) ?_
              refine lv_aload_n hx hb dX5_ends_59 rfl (lv_at hl 1 rfl) ?_
              refine lv_lload hx hb dX5_ends_60 (lv_at hl 0 rfl) ?_
              refine cVi (As := [.long (lN (t2 i))]) (rest := [.int (nI (cntN (fun i => endP (f2 5) g2 wt (t2 i)) i))]) ⟨hx, hb, hml, hown, hts⟩ (c_X5_isEnd l D ad ka f2 g2 t2 (t2 i) (show ∀ a, a < 6 → ∀ i, g2 a i < 2147483648 from hMB2.2.1) (show okL g2 from hWk2.okL hMB2) (show wfM g2 (t2 i) from hti) (show (f2 5) < 2 from hMB2.2.2.1)) (cwV 1 hts (gV mU_547 mU_548 mU_549 mU_6 mU_550) rfl rfl rfl (by decide +kernel) ⟨Nat.le_of_ble_eq_true rfl, Nat.le_of_ble_eq_true rfl⟩) fbR (va_recv hK hP (ci := 5) (q0 := 0) rfl rfl) (PR.of hP hK) rfl hl.1 rfl (Nat.le_of_ble_eq_true rfl) dX5_ends_62 ⟨Nat.zero_le _, Nat.zero_le _⟩ ?_
              refine lv_if_eq (tgt := 104) hx hb dX5_ends_65 (by decide) (fun c65_7 => ?_) (fun c65_7 => ?_)
              · have c65_7 : ¬ (isEndM ((f2 5)) g2 (t2 i)) := bP_f c65_7
                refine lv_iconst (v := nI 0) hx hb dX5_ends_104 (by decide) ?_
                have hcl := cntN_le (fun i => endP (f2 5) g2 wt (t2 i)) i
                refine lv_iadd hx hb dX5_ends_105 ?_
                refine lv_topE (nI (cntN (fun i => endP (f2 5) g2 wt (t2 i)) (i + 1))) ((nI_add _ _).trans (congrArg nI (cnt_f (endP_f c65_7)))) ?_
                refine lv_istore_n (lv' := [(2, .int (nI (cntN (fun i => endP (f2 5) g2 wt (t2 i)) (i + 1)))), (4, .long (lN (t2 i))), (0, .ref (ad 0)), (1, .int (nI wt)), (3, .int (nI i))]) hx hb dX5_ends_106 rfl hl (by decide) rfl (fun ls hl => ?_)
                refine lv_iinc (v := nI (i + 1)) (lv' := [(3, .int (nI (i + 1))), (2, .int (nI (cntN (fun i => endP (f2 5) g2 wt (t2 i)) (i + 1)))), (4, .long (lN (t2 i))), (0, .ref (ad 0)), (1, .int (nI wt))]) hx hb dX5_ends_107 hl (k := 4) rfl (by rw [show Int32.ofInt 1 = nI 1 from by decide, nI_add]) (by decide) rfl (fun ls hl => ?_)
                refine lv_goto (tgt := 42) hx hb dX5_ends_110 (by decide) ?_
                exact ih42 (i + 1) (by omega) (by omega) _ _ hP hD hS _ (lv_sub hl [3, 4, 1, 0] rfl)
              · have c65_7 : isEndM ((f2 5)) g2 (t2 i) := bP_t c65_7
                refine lv_iload_n hx hb dX5_ends_68 rfl (lv_at hl 2 rfl) ?_
                refine lv_if_eq (tgt := 100) hx hb dX5_ends_69 (by decide) (fun c69_8 => ?_) (fun c69_8 => ?_)
                · have c69_8 : wt = 0 := (nI_eqG (a := wt) (b := 0) (by omega) (by omega)).mp c69_8
                  refine lv_iconst (v := nI 1) hx hb dX5_ends_100 (by decide) ?_
                  refine lv_goto (tgt := 105) hx hb dX5_ends_101 (by decide) ?_
                  have hcl := cntN_le (fun i => endP (f2 5) g2 wt (t2 i)) i
                  refine lv_iadd hx hb dX5_ends_105 ?_
                  refine lv_topE (nI (cntN (fun i => endP (f2 5) g2 wt (t2 i)) (i + 1))) ((nI_add _ _).trans (congrArg nI (cnt_t (endP_0 c65_7 c69_8)))) ?_
                  refine lv_istore_n (lv' := [(2, .int (nI (cntN (fun i => endP (f2 5) g2 wt (t2 i)) (i + 1)))), (4, .long (lN (t2 i))), (0, .ref (ad 0)), (1, .int (nI wt)), (3, .int (nI i))]) hx hb dX5_ends_106 rfl hl (by decide) rfl (fun ls hl => ?_)
                  refine lv_iinc (v := nI (i + 1)) (lv' := [(3, .int (nI (i + 1))), (2, .int (nI (cntN (fun i => endP (f2 5) g2 wt (t2 i)) (i + 1)))), (4, .long (lN (t2 i))), (0, .ref (ad 0)), (1, .int (nI wt))]) hx hb dX5_ends_107 hl (k := 4) rfl (by rw [show Int32.ofInt 1 = nI 1 from by decide, nI_add]) (by decide) rfl (fun ls hl => ?_)
                  refine lv_goto (tgt := 42) hx hb dX5_ends_110 (by decide) ?_
                  exact ih42 (i + 1) (by omega) (by omega) _ _ hP hD hS _ (lv_sub hl [3, 4, 1, 0] rfl)
                · have c69_8 : ¬ (wt = 0) := fun h9 => c69_8 ((nI_eqG (a := wt) (b := 0) (by omega) (by omega)).mpr h9)
                  refine lv_iload_n hx hb dX5_ends_72 rfl (lv_at hl 2 rfl) ?_
                  refine lv_iconst (v := nI 1) hx hb dX5_ends_73 (by decide) ?_
                  refine lv_icmp_ne (tgt := 89) hx hb dX5_ends_74 (by decide) (fun c74_9 => ?_) (fun c74_9 => ?_)
                  · have c74_9 : ¬ (wt = 1) := fun h9 => c74_9 ((nI_eqG (a := wt) (b := 1) (by omega) (by omega)).mpr h9)
                    refine lv_lload hx hb dX5_ends_89 (lv_at hl 0 rfl) ?_
                    refine lv_bipush (v := nI 44) hx hb dX5_ends_91 (by decide) ?_
                    refine lv_iconst (v := nI 2) hx hb dX5_ends_93 (by decide) ?_
                    refine cSi (As := [.long (lN (t2 i)), .int (nI 44), .int (nI 2)]) (rest := [.int (nI (cntN (fun i => endP (f2 5) g2 wt (t2 i)) i))]) ⟨hx, hb, hml, hown, hts⟩ (c_X5_bits l  (t2 i) 44 2 (by omega) (by omega) (by omega)) (va_cwS 3 hts (gS mU_503 mU_504 mU_6 mU_505) rfl rfl rfl (by decide +kernel) ⟨Nat.le_of_ble_eq_true rfl, Nat.le_of_ble_eq_true rfl⟩) fbU (fun _ _ _ => trivial) rfl hl.1 rfl (Nat.le_of_ble_eq_true rfl) dX5_ends_94 ⟨Nat.zero_le _, Nat.zero_le _⟩ ?_
                    have hf_10 : bitsN (t2 i) 44 2 < 2 ^ 2 := bitsN_lt _ _ _
                    refine lv_if_eq (tgt := 104) hx hb dX5_ends_97 (by decide) (fun c97_11 => ?_) (fun c97_11 => ?_)
                    · have c97_11 : bitsN (t2 i) 44 2 = 0 := (nI_eqG (a := bitsN (t2 i) 44 2) (b := 0) (by omega) (by omega)).mp c97_11
                      refine lv_iconst (v := nI 0) hx hb dX5_ends_104 (by decide) ?_
                      have hcl := cntN_le (fun i => endP (f2 5) g2 wt (t2 i)) i
                      refine lv_iadd hx hb dX5_ends_105 ?_
                      refine lv_topE (nI (cntN (fun i => endP (f2 5) g2 wt (t2 i)) (i + 1))) ((nI_add _ _).trans (congrArg nI (cnt_f (endP_2f c69_8 c74_9 c97_11)))) ?_
                      refine lv_istore_n (lv' := [(2, .int (nI (cntN (fun i => endP (f2 5) g2 wt (t2 i)) (i + 1)))), (4, .long (lN (t2 i))), (0, .ref (ad 0)), (1, .int (nI wt)), (3, .int (nI i))]) hx hb dX5_ends_106 rfl hl (by decide) rfl (fun ls hl => ?_)
                      refine lv_iinc (v := nI (i + 1)) (lv' := [(3, .int (nI (i + 1))), (2, .int (nI (cntN (fun i => endP (f2 5) g2 wt (t2 i)) (i + 1)))), (4, .long (lN (t2 i))), (0, .ref (ad 0)), (1, .int (nI wt))]) hx hb dX5_ends_107 hl (k := 4) rfl (by rw [show Int32.ofInt 1 = nI 1 from by decide, nI_add]) (by decide) rfl (fun ls hl => ?_)
                      refine lv_goto (tgt := 42) hx hb dX5_ends_110 (by decide) ?_
                      exact ih42 (i + 1) (by omega) (by omega) _ _ hP hD hS _ (lv_sub hl [3, 4, 1, 0] rfl)
                    · have c97_11 : ¬ (bitsN (t2 i) 44 2 = 0) := fun h9 => c97_11 ((nI_eqG (a := bitsN (t2 i) 44 2) (b := 0) (by omega) (by omega)).mpr h9)
                      refine lv_iconst (v := nI 1) hx hb dX5_ends_100 (by decide) ?_
                      refine lv_goto (tgt := 105) hx hb dX5_ends_101 (by decide) ?_
                      have hcl := cntN_le (fun i => endP (f2 5) g2 wt (t2 i)) i
                      refine lv_iadd hx hb dX5_ends_105 ?_
                      refine lv_topE (nI (cntN (fun i => endP (f2 5) g2 wt (t2 i)) (i + 1))) ((nI_add _ _).trans (congrArg nI (cnt_t (endP_2 c65_7 c69_8 c74_9 c97_11)))) ?_
                      refine lv_istore_n (lv' := [(2, .int (nI (cntN (fun i => endP (f2 5) g2 wt (t2 i)) (i + 1)))), (4, .long (lN (t2 i))), (0, .ref (ad 0)), (1, .int (nI wt)), (3, .int (nI i))]) hx hb dX5_ends_106 rfl hl (by decide) rfl (fun ls hl => ?_)
                      refine lv_iinc (v := nI (i + 1)) (lv' := [(3, .int (nI (i + 1))), (2, .int (nI (cntN (fun i => endP (f2 5) g2 wt (t2 i)) (i + 1)))), (4, .long (lN (t2 i))), (0, .ref (ad 0)), (1, .int (nI wt))]) hx hb dX5_ends_107 hl (k := 4) rfl (by rw [show Int32.ofInt 1 = nI 1 from by decide, nI_add]) (by decide) rfl (fun ls hl => ?_)
                      refine lv_goto (tgt := 42) hx hb dX5_ends_110 (by decide) ?_
                      exact ih42 (i + 1) (by omega) (by omega) _ _ hP hD hS _ (lv_sub hl [3, 4, 1, 0] rfl)
                  · have c74_9 : wt = 1 := (nI_eqG (a := wt) (b := 1) (by omega) (by omega)).mp c74_9
                    refine lv_aload_n hx hb dX5_ends_77 rfl (lv_at hl 1 rfl) ?_
                    refine lv_lload hx hb dX5_ends_78 (lv_at hl 0 rfl) ?_
                    refine cVi (As := [.long (lN (t2 i))]) (rest := [.int (nI (cntN (fun i => endP (f2 5) g2 wt (t2 i)) i))]) ⟨hx, hb, hml, hown, hts⟩ (c_X5_isGood l D ad ka f2 g2 t2 (t2 i) (show ∀ a, a < 6 → ∀ i, g2 a i < 2147483648 from hMB2.2.1) (show okL g2 from hWk2.okL hMB2) (show wfM g2 (t2 i) from hti) (show (f2 5) < 2 from hMB2.2.2.1)) (cwV 1 hts (gV mU_551 mU_552 mU_553 mU_6 mU_554) rfl rfl rfl (by decide +kernel) ⟨Nat.le_of_ble_eq_true rfl, Nat.le_of_ble_eq_true rfl⟩) fbR (va_recv hK hP (ci := 5) (q0 := 0) rfl rfl) (PR.of hP hK) rfl hl.1 rfl (Nat.le_of_ble_eq_true rfl) dX5_ends_80 ⟨Nat.zero_le _, Nat.zero_le _⟩ ?_
                    refine lv_if_eq (tgt := 104) hx hb dX5_ends_83 (by decide) (fun c83_12 => ?_) (fun c83_12 => ?_)
                    · have c83_12 : ¬ (isGoodM ((f2 5)) g2 (t2 i)) := bP_f c83_12
                      refine lv_iconst (v := nI 0) hx hb dX5_ends_104 (by decide) ?_
                      have hcl := cntN_le (fun i => endP (f2 5) g2 wt (t2 i)) i
                      refine lv_iadd hx hb dX5_ends_105 ?_
                      refine lv_topE (nI (cntN (fun i => endP (f2 5) g2 wt (t2 i)) (i + 1))) ((nI_add _ _).trans (congrArg nI (cnt_f (endP_1f c69_8 c74_9 c83_12)))) ?_
                      refine lv_istore_n (lv' := [(2, .int (nI (cntN (fun i => endP (f2 5) g2 wt (t2 i)) (i + 1)))), (4, .long (lN (t2 i))), (0, .ref (ad 0)), (1, .int (nI wt)), (3, .int (nI i))]) hx hb dX5_ends_106 rfl hl (by decide) rfl (fun ls hl => ?_)
                      refine lv_iinc (v := nI (i + 1)) (lv' := [(3, .int (nI (i + 1))), (2, .int (nI (cntN (fun i => endP (f2 5) g2 wt (t2 i)) (i + 1)))), (4, .long (lN (t2 i))), (0, .ref (ad 0)), (1, .int (nI wt))]) hx hb dX5_ends_107 hl (k := 4) rfl (by rw [show Int32.ofInt 1 = nI 1 from by decide, nI_add]) (by decide) rfl (fun ls hl => ?_)
                      refine lv_goto (tgt := 42) hx hb dX5_ends_110 (by decide) ?_
                      exact ih42 (i + 1) (by omega) (by omega) _ _ hP hD hS _ (lv_sub hl [3, 4, 1, 0] rfl)
                    · have c83_12 : isGoodM ((f2 5)) g2 (t2 i) := bP_t c83_12
                      refine lv_goto (tgt := 100) hx hb dX5_ends_86 (by decide) ?_
                      refine lv_iconst (v := nI 1) hx hb dX5_ends_100 (by decide) ?_
                      refine lv_goto (tgt := 105) hx hb dX5_ends_101 (by decide) ?_
                      have hcl := cntN_le (fun i => endP (f2 5) g2 wt (t2 i)) i
                      refine lv_iadd hx hb dX5_ends_105 ?_
                      refine lv_topE (nI (cntN (fun i => endP (f2 5) g2 wt (t2 i)) (i + 1))) ((nI_add _ _).trans (congrArg nI (cnt_t (endP_1 c65_7 c69_8 c74_9 c83_12)))) ?_
                      refine lv_istore_n (lv' := [(2, .int (nI (cntN (fun i => endP (f2 5) g2 wt (t2 i)) (i + 1)))), (4, .long (lN (t2 i))), (0, .ref (ad 0)), (1, .int (nI wt)), (3, .int (nI i))]) hx hb dX5_ends_106 rfl hl (by decide) rfl (fun ls hl => ?_)
                      refine lv_iinc (v := nI (i + 1)) (lv' := [(3, .int (nI (i + 1))), (2, .int (nI (cntN (fun i => endP (f2 5) g2 wt (t2 i)) (i + 1)))), (4, .long (lN (t2 i))), (0, .ref (ad 0)), (1, .int (nI wt))]) hx hb dX5_ends_107 hl (k := 4) rfl (by rw [show Int32.ofInt 1 = nI 1 from by decide, nI_add]) (by decide) rfl (fun ls hl => ?_)
                      refine lv_goto (tgt := 42) hx hb dX5_ends_110 (by decide) ?_
                      exact ih42 (i + 1) (by omega) (by omega) _ _ hP hD hS _ (lv_sub hl [3, 4, 1, 0] rfl)
        exact L42_53 ((f2 19 - 0) + 1) 0 (Nat.zero_le _) (Nat.lt_succ_self _) _ _ hP hD hS _ (lv_sub hl [2, 3, 1, 0] rfl)
      · have c23_5 : wt = 3 := (nI_eqG (a := wt) (b := 3) (by omega) (by omega)).mp c23_5
        refine lv_aload_n hx hb dX5_ends_26 rfl (lv_at hl 0 rfl) ?_
        refine va_get (D := D) (ci := 5) (v := .ref (ad 10)) (C := RX5) (T := TX5) (N := 23) hx hb hU iX5 hown hK hP 0 rfl rfl 17 (by decide) (hU _ mU_87) (fun _ h9 => h9) rfl dX5_ends_27 ?_
        refine lv_aload_n hx hb dX5_ends_30 rfl (lv_at hl 0 rfl) ?_
        refine va_get (D := D) (ci := 5) (v := .int (nI (f2 19))) (C := RX5) (T := TX5) (N := 23) hx hb hU iX5 hown hK hP 0 rfl rfl 19 (by decide) (hU _ mU_467) (fun _ h9 => h9) rfl dX5_ends_31 ?_
        refine lv_iconst (v := nI 1) hx hb dX5_ends_34 (by decide) ?_
        refine lv_isub hx hb dX5_ends_35 ?_
        refine lv_topE (nI ((f2 19) - 1)) (pk_sub (by omega)) ?_
        refine n_sald hx hb hK hP 10 9 rfl rfl (i := (f2 19) - 1) (by omega) (by decide) dX5_ends_36 ?_
        subst hQ
        exact rwi (f2, g2, t2) hx hb hr hlocks (⟨fun h9 => absurd (by omega) h9, fun _ => ⟨hsm2, hMB2, hWk2, h202, by rw [endsM, if_pos c15_4, if_pos c23_5]⟩⟩) hP hK hD hS dX5_ends_37
    · have c15_4 : ¬ (f2 19 ≤ 12000) := bP_f c15_4
      refine lv_bipush (v := nI 4294967294) hx hb dX5_ends_18 (by decide) ?_
      subst hQ
      exact rwi (f2, g2, t2) hx hb hr hlocks (⟨fun h9 => absurd (by omega) h9, fun _ => ⟨hsm2, hMB2, hWk2, h202, by rw [endsM, if_neg c15_4]⟩⟩) hP hK hD hS dX5_ends_20
  · have c6_1 : ¬ (0 ≤ wt ∧ wt ≤ 3) := bP_f c6_1
    refine lv_iconst (v := nI 4294967295) hx hb dX5_ends_9 (by decide) ?_
    subst hQ
    exact rwi (f, g, t) hx hb hr hlocks (⟨fun _ => ⟨rfl, rfl⟩, fun h9 => absurd h9 (by omega)⟩) hP hK hD hS dX5_ends_10

set_option maxHeartbeats 4000000 in
set_option maxRecDepth 100000 in
theorem c_X5_isBarred (l : Launch) (D : va_G) (ad : Nat → Nat) (ka : Nat → ClassId) (f : Nat → Nat) (g : Nat → Nat → Nat) (t : Nat → Nat) (fe : Nat) (en : Nat) (pa : Nat) (pb : Nat) (hg : ∀ a, a < 6 → ∀ i, g a i < 2147483648) (hL : okL g) (hf5 : f 5 < 2) (ht : ∀ i, i < f 19 → wfM g (t i)) (hst : f 19 ≤ 12001) (hfe : fe < 16) (hen : en < 2) (hab : (en = 0 → pa < 8 ∧ pb < 8 ∧ (if fe / 8 = 0 ∧ fe % 8 ≤ pa then pa + 1 else pa) < 8 ∧ (if fe / 8 = 1 ∧ fe % 8 ≤ pb then pb + 1 else pb) < 8) ∧ (¬ en = 0 → pa < 256 ∧ pb < 16)) : Met l yX5_isBarred (.code yX5_isBarred cX5_isBarred 5 (some .boolean) :: wsL_law) ({ frames := 8, cells := 0, slots := 0, locals := 195 }) (va_Pc [.ref (ad 0), .int (nI fe), .int (nI en), .int (nI pa), .int (nI pb)] (PR D (mW ad ka f g t) (mT ka))) (QrI (bP (2147483648 ≤ barN (f 5) g (f 19) t fe en pa pb))) 0 0 (fun _ => False) := by
  refine Met.ofW (cc := cX5_isBarred) (maxL := 5) (ret := (some .boolean)) (by decide) rfl ?_
  intro p e s m args below meth c s₁ B hml hv
  obtain ⟨rfl, hP, hK⟩ := hv
  have hx := B.exec
  have hb := B.bytes
  have hr := B.returns
  have hts := atoms_spec (ws := .code yX5_isBarred cX5_isBarred 5 (some .boolean) :: wsL_law) B.pre
  have hU : ∀ w ∈ wsL_law, w.before _ s = true := fun w h => hts w (List.mem_cons_of_mem _ h)
  have hown : s.vm.findClass RX5 = some m.cls := findClass_of_methodNamed B.named
  have hlocks := B.notSynchronized
  generalize hQ : MQ _ _ _ _ _ _ _ = Q
  have hl := lv_entry ([.ref (ad 0), .int (nI fe), .int (nI en), .int (nI pa), .int (nI pb)]) (n := 5) (Nat.le_of_ble_eq_true rfl)
  rw [lg_entry_eq]
  generalize (lg_sl ([.ref (ad 0), .int (nI fe), .int (nI en), .int (nI pa), .int (nI pb)]) ++ List.replicate (5 - (lg_sl ([.ref (ad 0), .int (nI fe), .int (nI en), .int (nI pa), .int (nI pb)])).length) Slot.unset).toArray = ls at hl ⊢
  have hl : lv_has ls 5 [(0, .ref (ad 0)), (1, .int (nI fe)), (2, .int (nI en)), (3, .int (nI pa)), (4, .int (nI pb))] := hl
  refine lv_iload_n hx hb dX5_isBarred_0 rfl (lv_at hl 2 rfl) ?_
  refine lv_if_eq (tgt := 14) hx hb dX5_isBarred_1 (by decide) (fun c1_1 => ?_) (fun c1_1 => ?_)
  · have c1_1 : en = 0 := (nI_eqG (a := en) (b := 0) (by omega) (by omega)).mp c1_1
    have hq := hab.1 c1_1
    refine lv_aload_n hx hb dX5_isBarred_14 rfl (lv_at hl 0 rfl) ?_
    refine lv_iload_n hx hb dX5_isBarred_15 rfl (lv_at hl 3 rfl) ?_
    refine lv_iconst (v := nI 0) hx hb dX5_isBarred_16 (by decide) ?_
    refine lv_iload_n hx hb dX5_isBarred_17 rfl (lv_at hl 1 rfl) ?_
    refine cSi (As := [.int (nI pa), .int (nI 0), .int (nI fe)]) (rest := [.ref (ad 0)]) ⟨hx, hb, hml, hown, hts⟩ (c_X5_moved l  pa 0 fe (by omega) (by omega) (by omega)) (va_cwS 3 hts (gS mU_656 mU_657 mU_6 mU_658) rfl rfl rfl (by decide +kernel) ⟨Nat.le_of_ble_eq_true rfl, Nat.le_of_ble_eq_true rfl⟩) fbU (fun _ _ _ => trivial) rfl hl.1 rfl (Nat.le_of_ble_eq_true rfl) dX5_isBarred_18 ⟨Nat.zero_le _, Nat.zero_le _⟩ ?_
    refine lv_iload hx hb dX5_isBarred_21 (lv_at hl 4 rfl) ?_
    refine lv_iconst (v := nI 1) hx hb dX5_isBarred_23 (by decide) ?_
    refine lv_iload_n hx hb dX5_isBarred_24 rfl (lv_at hl 1 rfl) ?_
    refine cSi (As := [.int (nI pb), .int (nI 1), .int (nI fe)]) (rest := [.int (nI (if fe / 8 = 0 ∧ fe % 8 ≤ pa then pa + 1 else pa)), .ref (ad 0)]) ⟨hx, hb, hml, hown, hts⟩ (c_X5_moved l  pb 1 fe (by omega) (by omega) (by omega)) (va_cwS 3 hts (gS mU_656 mU_657 mU_6 mU_658) rfl rfl rfl (by decide +kernel) ⟨Nat.le_of_ble_eq_true rfl, Nat.le_of_ble_eq_true rfl⟩) fbU (fun _ _ _ => trivial) rfl hl.1 rfl (Nat.le_of_ble_eq_true rfl) dX5_isBarred_25 ⟨Nat.zero_le _, Nat.zero_le _⟩ ?_
    refine cVi (As := [.int (nI (if fe / 8 = 0 ∧ fe % 8 ≤ pa then pa + 1 else pa)), .int (nI (if fe / 8 = 1 ∧ fe % 8 ≤ pb then pb + 1 else pb))]) (rest := []) ⟨hx, hb, hml, hown, hts⟩ (c_X5_findBoth l D ad ka f g t (if fe / 8 = 0 ∧ fe % 8 ≤ pa then pa + 1 else pa) (if fe / 8 = 1 ∧ fe % 8 ≤ pb then pb + 1 else pb) (hg) (ht) (hst) (by omega) (by omega)) (cwV 2 hts (gV mU_592 mU_593 mU_594 mU_6 mU_595) rfl rfl rfl (by decide +kernel) ⟨Nat.le_of_ble_eq_true rfl, Nat.le_of_ble_eq_true rfl⟩) fbR (va_recv hK hP (ci := 5) (q0 := 0) rfl rfl) (PR.of hP hK) rfl hl.1 rfl (Nat.le_of_ble_eq_true rfl) dX5_isBarred_28 ⟨Nat.zero_le _, Nat.zero_le _⟩ ?_
    have hor := findN_or ((fun i => decide (bitsN (t i) 16 3 = (if fe / 8 = 0 ∧ fe % 8 ≤ pa then pa + 1 else pa) ∧ bitsN (t i) 19 3 = (if fe / 8 = 1 ∧ fe % 8 ≤ pb then pb + 1 else pb)))) (f 19)
    have hbn : barN (f 5) g (f 19) t fe en pa pb = findN (fun i => decide (bitsN (t i) 16 3 = (if fe / 8 = 0 ∧ fe % 8 ≤ pa then pa + 1 else pa) ∧ bitsN (t i) 19 3 = (if fe / 8 = 1 ∧ fe % 8 ≤ pb then pb + 1 else pb))) (f 19) := by rw [barN, if_pos c1_1]
    refine lv_if_ge (tgt := 38) hx hb dX5_isBarred_31 (by decide) (fun c31_2 => ?_) (fun c31_2 => ?_)
    · have c31_2 : findN (fun i => decide (bitsN (t i) 16 3 = (if fe / 8 = 0 ∧ fe % 8 ≤ pa then pa + 1 else pa) ∧ bitsN (t i) 19 3 = (if fe / 8 = 1 ∧ fe % 8 ≤ pb then pb + 1 else pb))) (f 19) < 2147483648 := (nI_ge0 (a := findN (fun i => decide (bitsN (t i) 16 3 = (if fe / 8 = 0 ∧ fe % 8 ≤ pa then pa + 1 else pa) ∧ bitsN (t i) 19 3 = (if fe / 8 = 1 ∧ fe % 8 ≤ pb then pb + 1 else pb))) (f 19)) (by omega)).mp c31_2
      refine lv_iconst (v := nI 0) hx hb dX5_isBarred_38 (by decide) ?_
      subst hQ
      exact rtz hx hb hr hlocks rfl rfl (bP_0 (by rw [hbn]; omega)) dX5_isBarred_39
    · have c31_2 : ¬ (findN (fun i => decide (bitsN (t i) 16 3 = (if fe / 8 = 0 ∧ fe % 8 ≤ pa then pa + 1 else pa) ∧ bitsN (t i) 19 3 = (if fe / 8 = 1 ∧ fe % 8 ≤ pb then pb + 1 else pb))) (f 19) < 2147483648) := fun h9 => c31_2 ((nI_ge0 (a := findN (fun i => decide (bitsN (t i) 16 3 = (if fe / 8 = 0 ∧ fe % 8 ≤ pa then pa + 1 else pa) ∧ bitsN (t i) 19 3 = (if fe / 8 = 1 ∧ fe % 8 ≤ pb then pb + 1 else pb))) (f 19)) (by omega)).mpr h9)
      refine lv_iconst (v := nI 1) hx hb dX5_isBarred_34 (by decide) ?_
      refine lv_goto (tgt := 39) hx hb dX5_isBarred_35 (by decide) ?_
      subst hQ
      exact rtz hx hb hr hlocks rfl rfl (bP_1 (by rw [hbn]; omega)) dX5_isBarred_39
  · have c1_1 : ¬ (en = 0) := fun h9 => c1_1 ((nI_eqG (a := en) (b := 0) (by omega) (by omega)).mpr h9)
    have hq := hab.2 c1_1
    refine lv_aload_n hx hb dX5_isBarred_4 rfl (lv_at hl 0 rfl) ?_
    refine lv_iload_n hx hb dX5_isBarred_5 rfl (lv_at hl 3 rfl) ?_
    refine lv_iload hx hb dX5_isBarred_6 (lv_at hl 4 rfl) ?_
    refine cVi (As := [.int (nI pa), .int (nI pb)]) (rest := []) ⟨hx, hb, hml, hown, hts⟩ (c_X5_findEnd l D ad ka f g t pa pb (hg) (hL) (hf5) (ht) (hst) (by omega) (by omega)) (cwV 2 hts (gV mU_615 mU_616 mU_617 mU_6 mU_618) rfl rfl rfl (by decide +kernel) ⟨Nat.le_of_ble_eq_true rfl, Nat.le_of_ble_eq_true rfl⟩) fbR (va_recv hK hP (ci := 5) (q0 := 0) rfl rfl) (PR.of hP hK) rfl hl.1 rfl (Nat.le_of_ble_eq_true rfl) dX5_isBarred_8 ⟨Nat.zero_le _, Nat.zero_le _⟩ ?_
    refine lv_goto (tgt := 31) hx hb dX5_isBarred_11 (by decide) ?_
    have hor := findN_or ((fun i => endM (f 5) g pa pb (t i))) (f 19)
    have hbn : barN (f 5) g (f 19) t fe en pa pb = findN (fun i => endM (f 5) g pa pb (t i)) (f 19) := by rw [barN, if_neg c1_1]
    refine lv_if_ge (tgt := 38) hx hb dX5_isBarred_31 (by decide) (fun c31_3 => ?_) (fun c31_3 => ?_)
    · have c31_3 : findN (fun i => endM (f 5) g pa pb (t i)) (f 19) < 2147483648 := (nI_ge0 (a := findN (fun i => endM (f 5) g pa pb (t i)) (f 19)) (by omega)).mp c31_3
      refine lv_iconst (v := nI 0) hx hb dX5_isBarred_38 (by decide) ?_
      subst hQ
      exact rtz hx hb hr hlocks rfl rfl (bP_0 (by rw [hbn]; omega)) dX5_isBarred_39
    · have c31_3 : ¬ (findN (fun i => endM (f 5) g pa pb (t i)) (f 19) < 2147483648) := fun h9 => c31_3 ((nI_ge0 (a := findN (fun i => endM (f 5) g pa pb (t i)) (f 19)) (by omega)).mpr h9)
      refine lv_iconst (v := nI 1) hx hb dX5_isBarred_34 (by decide) ?_
      refine lv_goto (tgt := 39) hx hb dX5_isBarred_35 (by decide) ?_
      subst hQ
      exact rtz hx hb hr hlocks rfl rfl (bP_1 (by rw [hbn]; omega)) dX5_isBarred_39

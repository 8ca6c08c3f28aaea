theorem z_up {tb : Nat → Nat} {k : Nat} (h : ∀ p, p < k → tb p = 0) : ∀ p, p < k + 1 → upN tb k 0 p = 0 := fun p hp => by
  by_cases e : p = k
  · rw [e, upN_s]
  · rw [upN_n e]; exact h p (by omega)
theorem upA_n {g : Nat → Nat → Nat} {k a : Nat} {h : Nat → Nat} (e : a ≠ k) : upA g k h a = g a := by simp [upA, e]
theorem hgB {g : Nat → Nat → Nat} {a8 a9 a10 a11 : Nat → Nat} (hg : ∀ a, a < 6 → ∀ i, g a i < 2147483648) : ∀ a, a < 6 → ∀ i, upA (upA (upA (upA g 8 a8) 9 a9) 10 a10) 11 a11 a i < 2147483648 := fun a ha i => by
  rw [upA_n (by omega), upA_n (by omega), upA_n (by omega), upA_n (by omega)]
  exact hg a ha i
theorem step_some {mf : Nat} {g : Nat → Nat → Nat} {x k : Nat} (hL : okL g) (hx : wfM g x) (hk : k < 10) (h : ¬ eO (stepM mf g x k) < lN 0) : ∃ y, stepM mf g x k = some y := by
  cases e : stepM mf g x k with
  | none => exact absurd ((step_lt hL hx hk).mpr e) h
  | some y => exact ⟨y, rfl⟩
theorem stepB_some {mf : Nat} {g : Nat → Nat → Nat} {b : BT} {i k y : Nat} (h : stepM mf g (b.2.1 i) k = some y) : stepB mf g b i k = insB b y i k := by unfold stepB; rw [h]
theorem stepB_none {mf : Nat} {g : Nat → Nat → Nat} {b : BT} {i k : Nat} (h : stepM mf g (b.2.1 i) k = none) : stepB mf g b i k = b := by unfold stepB; rw [h]
theorem row_step {mf : Nat} {g : Nat → Nat → Nat} {b b2 b3 : BT} {i k : Nat} (h : rowF mf g i (10 - k) k b2 = b) (hk : k < 10) (e : stepB mf g b2 i k = b3) : rowF mf g i (10 - (k + 1)) (k + 1) b3 = b := by
  rw [← h, show 10 - k = (10 - (k + 1)) + 1 by omega, rowF, e]
theorem run_step {mf : Nat} {g : Nat → Nat → Nat} {b b2 b0 : BT} {i k : Nat} (h : runB mf g (12002 - i) b i = b0) (h1 : ¬ b.1 ≤ i) (h2 : ¬ 12000 < b.1) (h3 : i < 12002) (hr : rowF mf g i (10 - k) k b2 = rowF mf g i 10 0 b) (hk : 10 ≤ k) : runB mf g (12002 - (i + 1)) b2 (i + 1) = b0 := by
  rw [show 10 - k = 0 by omega, rowF] at hr
  rw [← h, show 12002 - i = (12002 - (i + 1)) + 1 by omega, runB, if_neg h1, if_neg h2, hr]
theorem run_end1 {mf : Nat} {g : Nat → Nat → Nat} {b : BT} {n i : Nat} (h1 : b.1 ≤ i) : runB mf g n b i = b := by
  cases n with
  | zero => rfl
  | succ n => rw [runB, if_pos h1]
theorem run_end2 {mf : Nat} {g : Nat → Nat → Nat} {b : BT} {n i : Nat} (h1 : 12000 < b.1) : runB mf g n b i = b := by
  cases n with
  | zero => rfl
  | succ n =>
    rw [runB]
    split
    · rfl
    · first | rfl | rw [if_pos h1]
set_option maxHeartbeats 4000000 in
set_option maxRecDepth 100000 in
theorem c_X5_walkOn (l : Launch) (D : va_G) (ad : Nat → Nat) (ka : Nat → ClassId) (f : Nat → Nat) (g : Nat → Nat → Nat) (t : Nat → Nat) (sz : Nat)  (hg : ∀ a, a < 6 → ∀ i, g a i < 2147483648) (hL : okL g) (hf5 : f 5 < 2) (h4 : ∀ w, w < 4 → g 4 w < 4) : Met l yX5_walkOn (.code yX5_walkOn cX5_walkOn 7 none :: wsL_law) ({ frames := 5, cells := 0, slots := 0, locals := 125 }) (va_Pc [.ref (ad 0)] (PW D (mW ad ka f g t) (mT ka) sz)) (va_Qv (fun u : MSt => ∃ tb, tabI (walkB (f 5) g t (g 8) (g 9) (g 10)).1 (walkB (f 5) g t (g 8) (g 9) (g 10)).2.1 tb ∧ u = mB f g (walkB (f 5) g t (g 8) (g 9) (g 10)) tb) (QW D (fun u : MSt => mW ad ka u.1 u.2.1 u.2.2) (fun _ => mT ka) (va_A (mW ad ka f g t) sz)) (va_A (mW ad ka f g t) sz)) 0 0 (va_A (mW ad ka f g t) sz) := by
  refine Met.ofW (cc := cX5_walkOn) (maxL := 7) (ret := none) (by decide) rfl ?_
  intro p e s m args below meth c s₁ B hml hv
  obtain ⟨rfl, hsz, hP, hK, hD0⟩ := hv
  have hx := B.exec
  have hb := B.bytes
  have hr := B.returns
  have hts := atoms_spec (ws := .code yX5_walkOn cX5_walkOn 7 none :: wsL_law) B.pre
  have hU : ∀ w ∈ wsL_law, w.before _ s = true := fun w h => hts w (List.mem_cons_of_mem _ h)
  have hown : s.vm.findClass RX5 = some m.cls := findClass_of_methodNamed B.named
  have hlocks := B.notSynchronized
  subst hsz
  have hD := hD0.self (sz := s.heap.size)
  generalize hAe : va_A (mW ad ka f g t) s.heap.size = Ar at hD ⊢
  have hA : ∀ q : Nat, s.heap.size ≤ q → Ar q := fun q h => by rw [← hAe]; exact Or.inr h
  have hS : va_S Ar s.heap s.heap [] := va_S.rf
  have hP : va_P D vwCl [(ad 0, .inr (5, [.ref (ad 1), .ref (ad 2), .ref (ad 3), .ref (ad 4), .ref (ad 5), .int (nI (f 5)), .ref (ad 6), .int (nI (f 7)), .int (nI (f 8)), .int (nI (f 9)), .int (nI (f 10)), .int (nI (f 11)), .int (nI (f 12)), .int (nI (f 13)), .ref (ad 7), .ref (ad 8), .ref (ad 9), .ref (ad 10), .ref (ad 11), .int (nI (f 19)), .int (nI (f 20)), .int (nI (f 21)), .ref (ad 12)])), (ad 1, .inl (ka 1, 5, .inl (nA (g 1)))), (ad 2, .inl (ka 2, 40, .inl (nA (g 2)))), (ad 3, .inl (ka 3, 160, .inl (nA (g 3)))), (ad 4, .inl (ka 4, 4, .inl (nA (g 4)))), (ad 5, .inl (ka 5, 4, .inl (nA (g 5)))), (ad 6, .inl (ka 6, 200, .inl (nA (g 6)))), (ad 7, .inl (ka 7, 12001, .inr (.inl (lA t)))), (ad 8, .inl (ka 8, 12001, .inl (nA (g 8)))), (ad 9, .inl (ka 9, 12001, .inl (nA (g 9)))), (ad 10, .inl (ka 10, 12001, .inl (nA (g 10)))), (ad 11, .inl (ka 11, 32768, .inl (nA (g 11)))), (ad 12, .inl (ka 12, 64, .inl (nA (g 12))))] s.heap := hP
  have hD : va_D Ar [(ad 0, .inr (5, [.ref (ad 1), .ref (ad 2), .ref (ad 3), .ref (ad 4), .ref (ad 5), .int (nI (f 5)), .ref (ad 6), .int (nI (f 7)), .int (nI (f 8)), .int (nI (f 9)), .int (nI (f 10)), .int (nI (f 11)), .int (nI (f 12)), .int (nI (f 13)), .ref (ad 7), .ref (ad 8), .ref (ad 9), .ref (ad 10), .ref (ad 11), .int (nI (f 19)), .int (nI (f 20)), .int (nI (f 21)), .ref (ad 12)])), (ad 1, .inl (ka 1, 5, .inl (nA (g 1)))), (ad 2, .inl (ka 2, 40, .inl (nA (g 2)))), (ad 3, .inl (ka 3, 160, .inl (nA (g 3)))), (ad 4, .inl (ka 4, 4, .inl (nA (g 4)))), (ad 5, .inl (ka 5, 4, .inl (nA (g 5)))), (ad 6, .inl (ka 6, 200, .inl (nA (g 6)))), (ad 7, .inl (ka 7, 12001, .inr (.inl (lA t)))), (ad 8, .inl (ka 8, 12001, .inl (nA (g 8)))), (ad 9, .inl (ka 9, 12001, .inl (nA (g 9)))), (ad 10, .inl (ka 10, 12001, .inl (nA (g 10)))), (ad 11, .inl (ka 11, 32768, .inl (nA (g 11)))), (ad 12, .inl (ka 12, 64, .inl (nA (g 12))))] := hD
  generalize hQ : MQ _ _ _ _ _ _ _ = Q
  have hl := lv_entry ([.ref (ad 0)]) (n := 7) (Nat.le_of_ble_eq_true rfl)
  rw [lg_entry_eq]
  generalize (lg_sl ([.ref (ad 0)]) ++ List.replicate (7 - (lg_sl ([.ref (ad 0)])).length) Slot.unset).toArray = ls at hl ⊢
  have hl : lv_has ls 7 [(0, .ref (ad 0))] := hl
  refine lv_iconst (v := nI 0) hx hb dX5_walkOn_0 (by decide) ?_
  refine lv_istore_n (lv' := [(1, .int (nI 0)), (0, .ref (ad 0))]) hx hb dX5_walkOn_1 rfl hl (by decide) rfl (fun ls hl => ?_)
  have L2_24 : ∀ (n : Nat) (k : Nat) (tb : Nat → Nat), (k ≤ 32768) → (∀ p, p < k → tb p = 0) → (32768 - k) < n → ∀ (H : Heap) (locs : List Loc), va_P D vwCl [(ad 0, .inr (5, [.ref (ad 1), .ref (ad 2), .ref (ad 3), .ref (ad 4), .ref (ad 5), .int (nI (f 5)), .ref (ad 6), .int (nI (f 7)), .int (nI (f 8)), .int (nI (f 9)), .int (nI (f 10)), .int (nI (f 11)), .int (nI (f 12)), .int (nI (f 13)), .ref (ad 7), .ref (ad 8), .ref (ad 9), .ref (ad 10), .ref (ad 11), .int (nI (f 19)), .int (nI (f 20)), .int (nI (f 21)), .ref (ad 12)])), (ad 1, .inl (ka 1, 5, .inl (nA (g 1)))), (ad 2, .inl (ka 2, 40, .inl (nA (g 2)))), (ad 3, .inl (ka 3, 160, .inl (nA (g 3)))), (ad 4, .inl (ka 4, 4, .inl (nA (g 4)))), (ad 5, .inl (ka 5, 4, .inl (nA (g 5)))), (ad 6, .inl (ka 6, 200, .inl (nA (g 6)))), (ad 7, .inl (ka 7, 12001, .inr (.inl (lA t)))), (ad 8, .inl (ka 8, 12001, .inl (nA (g 8)))), (ad 9, .inl (ka 9, 12001, .inl (nA (g 9)))), (ad 10, .inl (ka 10, 12001, .inl (nA (g 10)))), (ad 11, .inl (ka 11, 32768, .inl (nA tb))), (ad 12, .inl (ka 12, 64, .inl (nA (g 12))))] H → va_D Ar [(ad 0, .inr (5, [.ref (ad 1), .ref (ad 2), .ref (ad 3), .ref (ad 4), .ref (ad 5), .int (nI (f 5)), .ref (ad 6), .int (nI (f 7)), .int (nI (f 8)), .int (nI (f 9)), .int (nI (f 10)), .int (nI (f 11)), .int (nI (f 12)), .int (nI (f 13)), .ref (ad 7), .ref (ad 8), .ref (ad 9), .ref (ad 10), .ref (ad 11), .int (nI (f 19)), .int (nI (f 20)), .int (nI (f 21)), .ref (ad 12)])), (ad 1, .inl (ka 1, 5, .inl (nA (g 1)))), (ad 2, .inl (ka 2, 40, .inl (nA (g 2)))), (ad 3, .inl (ka 3, 160, .inl (nA (g 3)))), (ad 4, .inl (ka 4, 4, .inl (nA (g 4)))), (ad 5, .inl (ka 5, 4, .inl (nA (g 5)))), (ad 6, .inl (ka 6, 200, .inl (nA (g 6)))), (ad 7, .inl (ka 7, 12001, .inr (.inl (lA t)))), (ad 8, .inl (ka 8, 12001, .inl (nA (g 8)))), (ad 9, .inl (ka 9, 12001, .inl (nA (g 9)))), (ad 10, .inl (ka 10, 12001, .inl (nA (g 10)))), (ad 11, .inl (ka 11, 32768, .inl (nA tb))), (ad 12, .inl (ka 12, 64, .inl (nA (g 12))))] → va_S Ar s.heap H locs → ∀ ls : Array Slot, lv_has ls 7 [(0, .ref (ad 0)), (1, .int (nI k))] → W p l e ({ frames := 5, cells := 0, slots := 0, locals := 125 } : Room) s m (([.ref (ad 0)] : List Value).toArray) below meth c H locs 0 0 Q (F0 m 2 ls []) := by
    intro n2
    induction n2 with
    | zero => intro k tb hk hz hm2; exact absurd hm2 (Nat.not_lt_zero _)
    | succ n2 ih2 =>
      intro k tb hk hz hm2 H locs hP hD hS ls hl
      refine lv_iload_n hx hb dX5_walkOn_2 rfl (lv_at hl 1 rfl) ?_
      refine lv_ldc (v := nI 32768) hx hb hown (hU _ mU_88) dX5_walkOn_3 ?_
      refine lv_icmp_ge (tgt := 21) hx hb dX5_walkOn_5 (by decide) (fun c5_1 => ?_) (fun c5_1 => ?_)
      · have c5_1 : 32768 ≤ k := (nI_leI (a := 32768) (b := k) (by omega) (by omega)).mp c5_1
        have htab0 : tabI 0 t tb := tab_0 (fun p hp => hz p (by omega))
        refine lv_aload_n hx hb dX5_walkOn_21 rfl (lv_at hl 0 rfl) ?_
        refine lv_iconst (v := nI 0) hx hb dX5_walkOn_22 (by decide) ?_
        refine va_put (D := D) (ci := 5) (v := .int (nI 0)) (ty := .int) (C := RX5) (T := TX5) (N := 23) hx hb hU iX5 tyX5 tyX5_ok nmX5 hown hK hP hD hS 0 rfl rfl 19 (by decide) (hU _ mU_467) (fun _ h9 => h9) rfl (by decide +kernel) rfl rfl (Nat.le_of_ble_eq_true rfl) dX5_walkOn_23 (fun H locs hP hD hS => ?_)
        have hP : va_P D vwCl [(ad 0, .inr (5, [.ref (ad 1), .ref (ad 2), .ref (ad 3), .ref (ad 4), .ref (ad 5), .int (nI (f 5)), .ref (ad 6), .int (nI (f 7)), .int (nI (f 8)), .int (nI (f 9)), .int (nI (f 10)), .int (nI (f 11)), .int (nI (f 12)), .int (nI (f 13)), .ref (ad 7), .ref (ad 8), .ref (ad 9), .ref (ad 10), .ref (ad 11), .int (nI 0), .int (nI (f 20)), .int (nI (f 21)), .ref (ad 12)])), (ad 1, .inl (ka 1, 5, .inl (nA (g 1)))), (ad 2, .inl (ka 2, 40, .inl (nA (g 2)))), (ad 3, .inl (ka 3, 160, .inl (nA (g 3)))), (ad 4, .inl (ka 4, 4, .inl (nA (g 4)))), (ad 5, .inl (ka 5, 4, .inl (nA (g 5)))), (ad 6, .inl (ka 6, 200, .inl (nA (g 6)))), (ad 7, .inl (ka 7, 12001, .inr (.inl (lA t)))), (ad 8, .inl (ka 8, 12001, .inl (nA (g 8)))), (ad 9, .inl (ka 9, 12001, .inl (nA (g 9)))), (ad 10, .inl (ka 10, 12001, .inl (nA (g 10)))), (ad 11, .inl (ka 11, 32768, .inl (nA tb))), (ad 12, .inl (ka 12, 64, .inl (nA (g 12))))] H := hP
        have hD : va_D Ar [(ad 0, .inr (5, [.ref (ad 1), .ref (ad 2), .ref (ad 3), .ref (ad 4), .ref (ad 5), .int (nI (f 5)), .ref (ad 6), .int (nI (f 7)), .int (nI (f 8)), .int (nI (f 9)), .int (nI (f 10)), .int (nI (f 11)), .int (nI (f 12)), .int (nI (f 13)), .ref (ad 7), .ref (ad 8), .ref (ad 9), .ref (ad 10), .ref (ad 11), .int (nI 0), .int (nI (f 20)), .int (nI (f 21)), .ref (ad 12)])), (ad 1, .inl (ka 1, 5, .inl (nA (g 1)))), (ad 2, .inl (ka 2, 40, .inl (nA (g 2)))), (ad 3, .inl (ka 3, 160, .inl (nA (g 3)))), (ad 4, .inl (ka 4, 4, .inl (nA (g 4)))), (ad 5, .inl (ka 5, 4, .inl (nA (g 5)))), (ad 6, .inl (ka 6, 200, .inl (nA (g 6)))), (ad 7, .inl (ka 7, 12001, .inr (.inl (lA t)))), (ad 8, .inl (ka 8, 12001, .inl (nA (g 8)))), (ad 9, .inl (ka 9, 12001, .inl (nA (g 9)))), (ad 10, .inl (ka 10, 12001, .inl (nA (g 10)))), (ad 11, .inl (ka 11, 32768, .inl (nA tb))), (ad 12, .inl (ka 12, 64, .inl (nA (g 12))))] := hD
        refine lv_lconst (v := lN 0) hx hb dX5_walkOn_26 rfl ?_
        refine lv_lstore_n (lv' := [(1, .long (lN 0)), (0, .ref (ad 0))]) hx hb dX5_walkOn_27 rfl hl (by decide) rfl (fun ls hl => ?_)
        refine lv_iconst (v := nI 0) hx hb dX5_walkOn_28 (by decide) ?_
        refine lv_istore_n (lv' := [(3, .int (nI 0)), (1, .long (lN 0)), (0, .ref (ad 0))]) hx hb dX5_walkOn_29 rfl hl (by decide) rfl (fun ls hl => ?_)
        refine lv_iload_n hx hb dX5_walkOn_30 rfl (lv_at hl 0 rfl) ?_
        refine lv_iconst (v := nI 4) hx hb dX5_walkOn_31 (by decide) ?_
        refine lv_icmp_ge (tgt := 56) hx hb dX5_walkOn_32 (by decide) (fun c32_2 => absurd c32_2 (by decide)) (fun c32_2 => ?_)
        refine lv_lload_n hx hb dX5_walkOn_35 rfl (lv_at hl 1 rfl) ?_
        refine lv_iconst (v := nI 2) hx hb dX5_walkOn_36 (by decide) ?_
        refine lv_iload_n hx hb dX5_walkOn_37 rfl (lv_at hl 0 rfl) ?_
        refine lv_imul hx hb dX5_walkOn_38 ?_
        refine lv_topE (nI 0) (pk_mul _ _) ?_
        refine lv_iconst (v := nI 2) hx hb dX5_walkOn_39 (by decide) ?_
        refine lv_aload_n hx hb dX5_walkOn_40 rfl (lv_at hl 2 rfl) ?_
        refine va_get (D := D) (ci := 5) (v := .ref (ad 4)) (C := RX5) (T := TX5) (N := 23) hx hb hU iX5 hown hK hP 0 rfl rfl 3 (by decide) (hU _ mU_78) (fun _ h9 => h9) rfl dX5_walkOn_41 ?_
        refine lv_iload_n hx hb dX5_walkOn_44 rfl (lv_at hl 0 rfl) ?_
        refine n_iald hx hb hK hP 4 3 rfl rfl (i := 0) (by omega) (by decide) dX5_walkOn_45 ?_
        have hw0 : g 4 0 < 4 := h4 0 (by decide)
        refine cSl (As := [.long (lN 0), .int (nI 0), .int (nI 2), .int (nI ((g 4) 0))]) (rest := []) ⟨hx, hb, hml, hown, hts⟩ (c_X5_with l  0 0 2 ((g 4) 0) (by omega) (by omega) (by omega) (by omega)) (va_cwS 4 hts (gS mU_480 mU_481 mU_6 mU_482) rfl rfl rfl (by decide +kernel) ⟨Nat.le_of_ble_eq_true rfl, Nat.le_of_ble_eq_true rfl⟩) fbU (fun _ _ _ => trivial) rfl hl.1 rfl (Nat.le_of_ble_eq_true rfl) dX5_walkOn_46 ⟨Nat.zero_le _, Nat.zero_le _⟩ ?_
        have hf_3 : withN 0 0 2 ((g 4) 0) < 2 ^ 48 := withN_lt (by omega) (by omega) (by omega)
        refine lv_lstore_n (lv' := [(1, .long (lN (withN 0 0 2 ((g 4) 0)))), (3, .int (nI 0)), (0, .ref (ad 0))]) hx hb dX5_walkOn_49 rfl hl (by decide) rfl (fun ls hl => ?_)
        refine lv_iinc (v := nI 1) (lv' := [(3, .int (nI 1)), (1, .long (lN (withN 0 0 2 ((g 4) 0)))), (0, .ref (ad 0))]) hx hb dX5_walkOn_50 hl (k := 1) rfl (by decide) (by decide) rfl (fun ls hl => ?_)
        refine lv_goto (tgt := 30) hx hb dX5_walkOn_53 (by decide) ?_
        refine lv_iload_n hx hb dX5_walkOn_30 rfl (lv_at hl 0 rfl) ?_
        refine lv_iconst (v := nI 4) hx hb dX5_walkOn_31 (by decide) ?_
        refine lv_icmp_ge (tgt := 56) hx hb dX5_walkOn_32 (by decide) (fun c32_4 => absurd c32_4 (by decide)) (fun c32_4 => ?_)
        refine lv_lload_n hx hb dX5_walkOn_35 rfl (lv_at hl 1 rfl) ?_
        refine lv_iconst (v := nI 2) hx hb dX5_walkOn_36 (by decide) ?_
        refine lv_iload_n hx hb dX5_walkOn_37 rfl (lv_at hl 0 rfl) ?_
        refine lv_imul hx hb dX5_walkOn_38 ?_
        refine lv_topE (nI 2) (pk_mul _ _) ?_
        refine lv_iconst (v := nI 2) hx hb dX5_walkOn_39 (by decide) ?_
        refine lv_aload_n hx hb dX5_walkOn_40 rfl (lv_at hl 2 rfl) ?_
        refine va_get (D := D) (ci := 5) (v := .ref (ad 4)) (C := RX5) (T := TX5) (N := 23) hx hb hU iX5 hown hK hP 0 rfl rfl 3 (by decide) (hU _ mU_78) (fun _ h9 => h9) rfl dX5_walkOn_41 ?_
        refine lv_iload_n hx hb dX5_walkOn_44 rfl (lv_at hl 0 rfl) ?_
        refine n_iald hx hb hK hP 4 3 rfl rfl (i := 1) (by omega) (by decide) dX5_walkOn_45 ?_
        have hw1 : g 4 1 < 4 := h4 1 (by decide)
        refine cSl (As := [.long (lN (withN 0 0 2 ((g 4) 0))), .int (nI 2), .int (nI 2), .int (nI ((g 4) 1))]) (rest := []) ⟨hx, hb, hml, hown, hts⟩ (c_X5_with l  (withN 0 0 2 ((g 4) 0)) 2 2 ((g 4) 1) (by omega) (by omega) (by omega) (by omega)) (va_cwS 4 hts (gS mU_480 mU_481 mU_6 mU_482) rfl rfl rfl (by decide +kernel) ⟨Nat.le_of_ble_eq_true rfl, Nat.le_of_ble_eq_true rfl⟩) fbU (fun _ _ _ => trivial) rfl hl.1 rfl (Nat.le_of_ble_eq_true rfl) dX5_walkOn_46 ⟨Nat.zero_le _, Nat.zero_le _⟩ ?_
        have hf_5 : withN (withN 0 0 2 ((g 4) 0)) 2 2 ((g 4) 1) < 2 ^ 48 := withN_lt (by omega) (by omega) (by omega)
        refine lv_lstore_n (lv' := [(1, .long (lN (withN (withN 0 0 2 ((g 4) 0)) 2 2 ((g 4) 1)))), (3, .int (nI 1)), (0, .ref (ad 0))]) hx hb dX5_walkOn_49 rfl hl (by decide) rfl (fun ls hl => ?_)
        refine lv_iinc (v := nI 2) (lv' := [(3, .int (nI 2)), (1, .long (lN (withN (withN 0 0 2 ((g 4) 0)) 2 2 ((g 4) 1)))), (0, .ref (ad 0))]) hx hb dX5_walkOn_50 hl (k := 1) rfl (by decide) (by decide) rfl (fun ls hl => ?_)
        refine lv_goto (tgt := 30) hx hb dX5_walkOn_53 (by decide) ?_
        refine lv_iload_n hx hb dX5_walkOn_30 rfl (lv_at hl 0 rfl) ?_
        refine lv_iconst (v := nI 4) hx hb dX5_walkOn_31 (by decide) ?_
        refine lv_icmp_ge (tgt := 56) hx hb dX5_walkOn_32 (by decide) (fun c32_6 => absurd c32_6 (by decide)) (fun c32_6 => ?_)
        refine lv_lload_n hx hb dX5_walkOn_35 rfl (lv_at hl 1 rfl) ?_
        refine lv_iconst (v := nI 2) hx hb dX5_walkOn_36 (by decide) ?_
        refine lv_iload_n hx hb dX5_walkOn_37 rfl (lv_at hl 0 rfl) ?_
        refine lv_imul hx hb dX5_walkOn_38 ?_
        refine lv_topE (nI 4) (pk_mul _ _) ?_
        refine lv_iconst (v := nI 2) hx hb dX5_walkOn_39 (by decide) ?_
        refine lv_aload_n hx hb dX5_walkOn_40 rfl (lv_at hl 2 rfl) ?_
        refine va_get (D := D) (ci := 5) (v := .ref (ad 4)) (C := RX5) (T := TX5) (N := 23) hx hb hU iX5 hown hK hP 0 rfl rfl 3 (by decide) (hU _ mU_78) (fun _ h9 => h9) rfl dX5_walkOn_41 ?_
        refine lv_iload_n hx hb dX5_walkOn_44 rfl (lv_at hl 0 rfl) ?_
        refine n_iald hx hb hK hP 4 3 rfl rfl (i := 2) (by omega) (by decide) dX5_walkOn_45 ?_
        have hw2 : g 4 2 < 4 := h4 2 (by decide)
        refine cSl (As := [.long (lN (withN (withN 0 0 2 ((g 4) 0)) 2 2 ((g 4) 1))), .int (nI 4), .int (nI 2), .int (nI ((g 4) 2))]) (rest := []) ⟨hx, hb, hml, hown, hts⟩ (c_X5_with l  (withN (withN 0 0 2 ((g 4) 0)) 2 2 ((g 4) 1)) 4 2 ((g 4) 2) (by omega) (by omega) (by omega) (by omega)) (va_cwS 4 hts (gS mU_480 mU_481 mU_6 mU_482) rfl rfl rfl (by decide +kernel) ⟨Nat.le_of_ble_eq_true rfl, Nat.le_of_ble_eq_true rfl⟩) fbU (fun _ _ _ => trivial) rfl hl.1 rfl (Nat.le_of_ble_eq_true rfl) dX5_walkOn_46 ⟨Nat.zero_le _, Nat.zero_le _⟩ ?_
        have hf_7 : withN (withN (withN 0 0 2 ((g 4) 0)) 2 2 ((g 4) 1)) 4 2 ((g 4) 2) < 2 ^ 48 := withN_lt (by omega) (by omega) (by omega)
        refine lv_lstore_n (lv' := [(1, .long (lN (withN (withN (withN 0 0 2 ((g 4) 0)) 2 2 ((g 4) 1)) 4 2 ((g 4) 2)))), (3, .int (nI 2)), (0, .ref (ad 0))]) hx hb dX5_walkOn_49 rfl hl (by decide) rfl (fun ls hl => ?_)
        refine lv_iinc (v := nI 3) (lv' := [(3, .int (nI 3)), (1, .long (lN (withN (withN (withN 0 0 2 ((g 4) 0)) 2 2 ((g 4) 1)) 4 2 ((g 4) 2)))), (0, .ref (ad 0))]) hx hb dX5_walkOn_50 hl (k := 1) rfl (by decide) (by decide) rfl (fun ls hl => ?_)
        refine lv_goto (tgt := 30) hx hb dX5_walkOn_53 (by decide) ?_
        refine lv_iload_n hx hb dX5_walkOn_30 rfl (lv_at hl 0 rfl) ?_
        refine lv_iconst (v := nI 4) hx hb dX5_walkOn_31 (by decide) ?_
        refine lv_icmp_ge (tgt := 56) hx hb dX5_walkOn_32 (by decide) (fun c32_8 => absurd c32_8 (by decide)) (fun c32_8 => ?_)
        refine lv_lload_n hx hb dX5_walkOn_35 rfl (lv_at hl 1 rfl) ?_
        refine lv_iconst (v := nI 2) hx hb dX5_walkOn_36 (by decide) ?_
        refine lv_iload_n hx hb dX5_walkOn_37 rfl (lv_at hl 0 rfl) ?_
        refine lv_imul hx hb dX5_walkOn_38 ?_
        refine lv_topE (nI 6) (pk_mul _ _) ?_
        refine lv_iconst (v := nI 2) hx hb dX5_walkOn_39 (by decide) ?_
        refine lv_aload_n hx hb dX5_walkOn_40 rfl (lv_at hl 2 rfl) ?_
        refine va_get (D := D) (ci := 5) (v := .ref (ad 4)) (C := RX5) (T := TX5) (N := 23) hx hb hU iX5 hown hK hP 0 rfl rfl 3 (by decide) (hU _ mU_78) (fun _ h9 => h9) rfl dX5_walkOn_41 ?_
        refine lv_iload_n hx hb dX5_walkOn_44 rfl (lv_at hl 0 rfl) ?_
        refine n_iald hx hb hK hP 4 3 rfl rfl (i := 3) (by omega) (by decide) dX5_walkOn_45 ?_
        have hw3 : g 4 3 < 4 := h4 3 (by decide)
        refine cSl (As := [.long (lN (withN (withN (withN 0 0 2 ((g 4) 0)) 2 2 ((g 4) 1)) 4 2 ((g 4) 2))), .int (nI 6), .int (nI 2), .int (nI ((g 4) 3))]) (rest := []) ⟨hx, hb, hml, hown, hts⟩ (c_X5_with l  (withN (withN (withN 0 0 2 ((g 4) 0)) 2 2 ((g 4) 1)) 4 2 ((g 4) 2)) 6 2 ((g 4) 3) (by omega) (by omega) (by omega) (by omega)) (va_cwS 4 hts (gS mU_480 mU_481 mU_6 mU_482) rfl rfl rfl (by decide +kernel) ⟨Nat.le_of_ble_eq_true rfl, Nat.le_of_ble_eq_true rfl⟩) fbU (fun _ _ _ => trivial) rfl hl.1 rfl (Nat.le_of_ble_eq_true rfl) dX5_walkOn_46 ⟨Nat.zero_le _, Nat.zero_le _⟩ ?_
        have hf_9 : withN (withN (withN (withN 0 0 2 ((g 4) 0)) 2 2 ((g 4) 1)) 4 2 ((g 4) 2)) 6 2 ((g 4) 3) < 2 ^ 48 := withN_lt (by omega) (by omega) (by omega)
        refine lv_lstore_n (lv' := [(1, .long (lN (withN (withN (withN (withN 0 0 2 ((g 4) 0)) 2 2 ((g 4) 1)) 4 2 ((g 4) 2)) 6 2 ((g 4) 3)))), (3, .int (nI 3)), (0, .ref (ad 0))]) hx hb dX5_walkOn_49 rfl hl (by decide) rfl (fun ls hl => ?_)
        refine lv_iinc (v := nI 4) (lv' := [(3, .int (nI 4)), (1, .long (lN (withN (withN (withN (withN 0 0 2 ((g 4) 0)) 2 2 ((g 4) 1)) 4 2 ((g 4) 2)) 6 2 ((g 4) 3)))), (0, .ref (ad 0))]) hx hb dX5_walkOn_50 hl (k := 1) rfl (by decide) (by decide) rfl (fun ls hl => ?_)
        refine lv_goto (tgt := 30) hx hb dX5_walkOn_53 (by decide) ?_
        refine lv_iload_n hx hb dX5_walkOn_30 rfl (lv_at hl 0 rfl) ?_
        refine lv_iconst (v := nI 4) hx hb dX5_walkOn_31 (by decide) ?_
        refine lv_icmp_ge (tgt := 56) hx hb dX5_walkOn_32 (by decide) (fun c32_10 => ?_) (fun c32_10 => absurd (by decide) c32_10)
        refine lv_aload_n hx hb dX5_walkOn_56 rfl (lv_at hl 2 rfl) ?_
        refine lv_lload_n hx hb dX5_walkOn_57 rfl (lv_at hl 1 rfl) ?_
        refine lv_iconst (v := nI 4294967295) hx hb dX5_walkOn_58 (by decide) ?_
        refine lv_iconst (v := nI 0) hx hb dX5_walkOn_59 (by decide) ?_
        refine kVv (As := [.long (lN (withN (withN (withN (withN 0 0 2 ((g 4) 0)) 2 2 ((g 4) 1)) 4 2 ((g 4) 2)) 6 2 ((g 4) 3))), .int (nI 4294967295), .int (nI 0)]) (rest := []) (wr := []) ⟨hx, hb, hml, hown, hts⟩ (c_X5_come l D ad ka (upN (f) 19 (0)) (upA (g) 11 (tb)) t H.size (withN (withN (withN (withN 0 0 2 ((g 4) 0)) 2 2 ((g 4) 1)) 4 2 ((g 4) 2)) 6 2 ((g 4) 3)) 4294967295 0 (show (withN (withN (withN (withN 0 0 2 (((g 4)) 0)) 2 2 (((g 4)) 1)) 4 2 (((g 4)) 2)) 6 2 (((g 4)) 3)) < 2 ^ 48 from by omega) (show 4294967295 = 4294967295 ∨ 4294967295 < 0 from by omega) (show 0 < 10 from by omega) (show 0 ≤ 12001 from by omega) (show tabI (0) t (tb) from htab0) (show ∀ i, i < 0 → t i < 2 ^ 48 from fun i hi => absurd hi (Nat.not_lt_zero i)) (show ∀ i, i < 0 → (g 10) i ≤ 12000 from fun i hi => absurd hi (Nat.not_lt_zero i))) (cwV 3 hts (gV mU_484 mU_485 mU_486 mU_6 mU_487) rfl rfl rfl (by decide +kernel) ⟨Nat.le_of_ble_eq_true rfl, Nat.le_of_ble_eq_true rfl⟩) (va_recv hK hP (ci := 5) (q0 := 0) rfl rfl) hP hK hD hS hA [0, 1, 2, 3, 4, 5, 6, 7, 8, 9, 10, 11, 12] [] [0, 1, 2, 3, 4, 5, 6, 7, 8, 9, 10, 11] [] rfl rfl rfl rfl (by decide) rfl rfl rfl hl.1 rfl (Nat.le_of_ble_eq_true rfl) dX5_walkOn_60 ⟨by decide, by decide⟩ (fun u H locs hw hP hD hK hS => ?_)
        obtain ⟨tb11, htab11, hu⟩ := hw
        subst hu
        have htab11 : tabI (insB (0, t, g 8, g 9, g 10) (withN (withN (withN (withN 0 0 2 ((g 4) 0)) 2 2 ((g 4) 1)) 4 2 ((g 4) 2)) 6 2 ((g 4) 3)) 4294967295 0).1 (insB (0, t, g 8, g 9, g 10) (withN (withN (withN (withN 0 0 2 ((g 4) 0)) 2 2 ((g 4) 1)) 4 2 ((g 4) 2)) 6 2 ((g 4) 3)) 4294967295 0).2.1 tb11 := htab11
        have hP : va_P D vwCl [(ad 0, .inr (5, [.ref (ad 1), .ref (ad 2), .ref (ad 3), .ref (ad 4), .ref (ad 5), .int (nI (f 5)), .ref (ad 6), .int (nI (f 7)), .int (nI (f 8)), .int (nI (f 9)), .int (nI (f 10)), .int (nI (f 11)), .int (nI (f 12)), .int (nI (f 13)), .ref (ad 7), .ref (ad 8), .ref (ad 9), .ref (ad 10), .ref (ad 11), .int (nI ((insB (0, t, g 8, g 9, g 10) (withN (withN (withN (withN 0 0 2 ((g 4) 0)) 2 2 ((g 4) 1)) 4 2 ((g 4) 2)) 6 2 ((g 4) 3)) 4294967295 0).1)), .int (nI (f 20)), .int (nI (f 21)), .ref (ad 12)])), (ad 1, .inl (ka 1, 5, .inl (nA (g 1)))), (ad 2, .inl (ka 2, 40, .inl (nA (g 2)))), (ad 3, .inl (ka 3, 160, .inl (nA (g 3)))), (ad 4, .inl (ka 4, 4, .inl (nA (g 4)))), (ad 5, .inl (ka 5, 4, .inl (nA (g 5)))), (ad 6, .inl (ka 6, 200, .inl (nA (g 6)))), (ad 7, .inl (ka 7, 12001, .inr (.inl (lA ((insB (0, t, g 8, g 9, g 10) (withN (withN (withN (withN 0 0 2 ((g 4) 0)) 2 2 ((g 4) 1)) 4 2 ((g 4) 2)) 6 2 ((g 4) 3)) 4294967295 0).2.1))))), (ad 8, .inl (ka 8, 12001, .inl (nA ((insB (0, t, g 8, g 9, g 10) (withN (withN (withN (withN 0 0 2 ((g 4) 0)) 2 2 ((g 4) 1)) 4 2 ((g 4) 2)) 6 2 ((g 4) 3)) 4294967295 0).2.2.1)))), (ad 9, .inl (ka 9, 12001, .inl (nA ((insB (0, t, g 8, g 9, g 10) (withN (withN (withN (withN 0 0 2 ((g 4) 0)) 2 2 ((g 4) 1)) 4 2 ((g 4) 2)) 6 2 ((g 4) 3)) 4294967295 0).2.2.2.1)))), (ad 10, .inl (ka 10, 12001, .inl (nA ((insB (0, t, g 8, g 9, g 10) (withN (withN (withN (withN 0 0 2 ((g 4) 0)) 2 2 ((g 4) 1)) 4 2 ((g 4) 2)) 6 2 ((g 4) 3)) 4294967295 0).2.2.2.2)))), (ad 11, .inl (ka 11, 32768, .inl (nA tb11))), (ad 12, .inl (ka 12, 64, .inl (nA (g 12))))] H := hP
        have hD : va_D Ar [(ad 0, .inr (5, [.ref (ad 1), .ref (ad 2), .ref (ad 3), .ref (ad 4), .ref (ad 5), .int (nI (f 5)), .ref (ad 6), .int (nI (f 7)), .int (nI (f 8)), .int (nI (f 9)), .int (nI (f 10)), .int (nI (f 11)), .int (nI (f 12)), .int (nI (f 13)), .ref (ad 7), .ref (ad 8), .ref (ad 9), .ref (ad 10), .ref (ad 11), .int (nI ((insB (0, t, g 8, g 9, g 10) (withN (withN (withN (withN 0 0 2 ((g 4) 0)) 2 2 ((g 4) 1)) 4 2 ((g 4) 2)) 6 2 ((g 4) 3)) 4294967295 0).1)), .int (nI (f 20)), .int (nI (f 21)), .ref (ad 12)])), (ad 1, .inl (ka 1, 5, .inl (nA (g 1)))), (ad 2, .inl (ka 2, 40, .inl (nA (g 2)))), (ad 3, .inl (ka 3, 160, .inl (nA (g 3)))), (ad 4, .inl (ka 4, 4, .inl (nA (g 4)))), (ad 5, .inl (ka 5, 4, .inl (nA (g 5)))), (ad 6, .inl (ka 6, 200, .inl (nA (g 6)))), (ad 7, .inl (ka 7, 12001, .inr (.inl (lA ((insB (0, t, g 8, g 9, g 10) (withN (withN (withN (withN 0 0 2 ((g 4) 0)) 2 2 ((g 4) 1)) 4 2 ((g 4) 2)) 6 2 ((g 4) 3)) 4294967295 0).2.1))))), (ad 8, .inl (ka 8, 12001, .inl (nA ((insB (0, t, g 8, g 9, g 10) (withN (withN (withN (withN 0 0 2 ((g 4) 0)) 2 2 ((g 4) 1)) 4 2 ((g 4) 2)) 6 2 ((g 4) 3)) 4294967295 0).2.2.1)))), (ad 9, .inl (ka 9, 12001, .inl (nA ((insB (0, t, g 8, g 9, g 10) (withN (withN (withN (withN 0 0 2 ((g 4) 0)) 2 2 ((g 4) 1)) 4 2 ((g 4) 2)) 6 2 ((g 4) 3)) 4294967295 0).2.2.2.1)))), (ad 10, .inl (ka 10, 12001, .inl (nA ((insB (0, t, g 8, g 9, g 10) (withN (withN (withN (withN 0 0 2 ((g 4) 0)) 2 2 ((g 4) 1)) 4 2 ((g 4) 2)) 6 2 ((g 4) 3)) 4294967295 0).2.2.2.2)))), (ad 11, .inl (ka 11, 32768, .inl (nA tb11))), (ad 12, .inl (ka 12, 64, .inl (nA (g 12))))] := hD
        have hK : va_K D vwCl (mT ka) s := hK.sub [0, 1, 2, 3, 4, 5, 6, 7, 8, 9, 10, 11] rfl
        refine lv_iconst (v := nI 0) hx hb dX5_walkOn_63 (by decide) ?_
        refine lv_istore_n (lv' := [(3, .int (nI 0)), (1, .long (lN (withN (withN (withN (withN 0 0 2 ((g 4) 0)) 2 2 ((g 4) 1)) 4 2 ((g 4) 2)) 6 2 ((g 4) 3)))), (0, .ref (ad 0))]) hx hb dX5_walkOn_64 rfl hl (by decide) rfl (fun ls hl => ?_)
        have L65_136 : ∀ (n : Nat) (i : Nat) (b : BT) (tb : Nat → Nat), (BInv g b) → (i ≤ b.1) → (tabI b.1 b.2.1 tb) → (runB (f 5) g (12002 - i) b i = walkB (f 5) g t (g 8) (g 9) (g 10)) → (12002 - i) < n → ∀ (H : Heap) (locs : List Loc), va_P D vwCl [(ad 0, .inr (5, [.ref (ad 1), .ref (ad 2), .ref (ad 3), .ref (ad 4), .ref (ad 5), .int (nI (f 5)), .ref (ad 6), .int (nI (f 7)), .int (nI (f 8)), .int (nI (f 9)), .int (nI (f 10)), .int (nI (f 11)), .int (nI (f 12)), .int (nI (f 13)), .ref (ad 7), .ref (ad 8), .ref (ad 9), .ref (ad 10), .ref (ad 11), .int (nI b.1), .int (nI (f 20)), .int (nI (f 21)), .ref (ad 12)])), (ad 1, .inl (ka 1, 5, .inl (nA (g 1)))), (ad 2, .inl (ka 2, 40, .inl (nA (g 2)))), (ad 3, .inl (ka 3, 160, .inl (nA (g 3)))), (ad 4, .inl (ka 4, 4, .inl (nA (g 4)))), (ad 5, .inl (ka 5, 4, .inl (nA (g 5)))), (ad 6, .inl (ka 6, 200, .inl (nA (g 6)))), (ad 7, .inl (ka 7, 12001, .inr (.inl (lA b.2.1)))), (ad 8, .inl (ka 8, 12001, .inl (nA b.2.2.1))), (ad 9, .inl (ka 9, 12001, .inl (nA b.2.2.2.1))), (ad 10, .inl (ka 10, 12001, .inl (nA b.2.2.2.2))), (ad 11, .inl (ka 11, 32768, .inl (nA tb))), (ad 12, .inl (ka 12, 64, .inl (nA (g 12))))] H → va_D Ar [(ad 0, .inr (5, [.ref (ad 1), .ref (ad 2), .ref (ad 3), .ref (ad 4), .ref (ad 5), .int (nI (f 5)), .ref (ad 6), .int (nI (f 7)), .int (nI (f 8)), .int (nI (f 9)), .int (nI (f 10)), .int (nI (f 11)), .int (nI (f 12)), .int (nI (f 13)), .ref (ad 7), .ref (ad 8), .ref (ad 9), .ref (ad 10), .ref (ad 11), .int (nI b.1), .int (nI (f 20)), .int (nI (f 21)), .ref (ad 12)])), (ad 1, .inl (ka 1, 5, .inl (nA (g 1)))), (ad 2, .inl (ka 2, 40, .inl (nA (g 2)))), (ad 3, .inl (ka 3, 160, .inl (nA (g 3)))), (ad 4, .inl (ka 4, 4, .inl (nA (g 4)))), (ad 5, .inl (ka 5, 4, .inl (nA (g 5)))), (ad 6, .inl (ka 6, 200, .inl (nA (g 6)))), (ad 7, .inl (ka 7, 12001, .inr (.inl (lA b.2.1)))), (ad 8, .inl (ka 8, 12001, .inl (nA b.2.2.1))), (ad 9, .inl (ka 9, 12001, .inl (nA b.2.2.2.1))), (ad 10, .inl (ka 10, 12001, .inl (nA b.2.2.2.2))), (ad 11, .inl (ka 11, 32768, .inl (nA tb))), (ad 12, .inl (ka 12, 64, .inl (nA (g 12))))] → va_S Ar s.heap H locs → ∀ ls : Array Slot, lv_has ls 7 [(0, .ref (ad 0)), (3, .int (nI i))] → W p l e ({ frames := 5, cells := 0, slots := 0, locals := 125 } : Room) s m (([.ref (ad 0)] : List Value).toArray) below meth c H locs 0 0 Q (F0 m 65 ls []) := by
          intro n65
          induction n65 with
          | zero => intro i b tb hB hi htab hrun hm65; exact absurd hm65 (Nat.not_lt_zero _)
          | succ n65 ih65 =>
            intro i b tb hB hi htab hrun hm65 H locs hP hD hS ls hl
            have h12b := hB.1
            refine lv_iload_n hx hb dX5_walkOn_65 rfl (lv_at hl 1 rfl) ?_
            refine lv_aload_n hx hb dX5_walkOn_66 rfl (lv_at hl 0 rfl) ?_
            refine va_get (D := D) (ci := 5) (v := .int (nI b.1)) (C := RX5) (T := TX5) (N := 23) hx hb hU iX5 hown hK hP 0 rfl rfl 19 (by decide) (hU _ mU_467) (fun _ h9 => h9) rfl dX5_walkOn_67 ?_
            refine lv_icmp_ge (tgt := 135) hx hb dX5_walkOn_70 (by decide) (fun c70_13 => ?_) (fun c70_13 => ?_)
            · have c70_13 : b.1 ≤ i := (nI_leI (a := b.1) (b := i) (by omega) (by omega)).mp c70_13
              subst hQ
              exact rwv (mB f g b tb) hx hb hr hlocks (by rw [← hrun, run_end1 c70_13]; exact ⟨_, htab, rfl⟩) hP hK hD hS dX5_walkOn_135
            · have c70_13 : ¬ (b.1 ≤ i) := fun h9 => c70_13 ((nI_leI (a := b.1) (b := i) (by omega) (by omega)).mpr h9)
              refine lv_aload_n hx hb dX5_walkOn_73 rfl (lv_at hl 0 rfl) ?_
              refine va_get (D := D) (ci := 5) (v := .int (nI b.1)) (C := RX5) (T := TX5) (N := 23) hx hb hU iX5 hown hK hP 0 rfl rfl 19 (by decide) (hU _ mU_467) (fun _ h9 => h9) rfl dX5_walkOn_74 ?_
              refine lv_sipush (v := nI 12000) hx hb dX5_walkOn_77 (by decide) ?_
              refine lv_icmp_gt (tgt := 135) hx hb dX5_walkOn_80 (by decide) (fun c80_14 => ?_) (fun c80_14 => ?_)
              · have c80_14 : 12000 < b.1 := (nI_ltI (a := 12000) (b := b.1) (by omega) (by omega)).mp c80_14
                subst hQ
                exact rwv (mB f g b tb) hx hb hr hlocks (by rw [← hrun, run_end2 c80_14]; exact ⟨_, htab, rfl⟩) hP hK hD hS dX5_walkOn_135
              · have c80_14 : ¬ (12000 < b.1) := fun h9 => c80_14 ((nI_ltI (a := 12000) (b := b.1) (by omega) (by omega)).mpr h9)
                refine lv_iconst (v := nI 0) hx hb dX5_walkOn_83 (by decide) ?_
                refine lv_istore (lv' := [(4, .int (nI 0)), (0, .ref (ad 0)), (3, .int (nI i))]) hx hb dX5_walkOn_84 hl (by decide) rfl (fun ls hl => ?_)
                have L86_161 : ∀ (n : Nat) (k : Nat) (b2 : BT) (tb2 : Nat → Nat), (k ≤ 10) → (BInv g b2) → (b.1 ≤ b2.1) → (tabI b2.1 b2.2.1 tb2) → (rowF (f 5) g i (10 - k) k b2 = rowF (f 5) g i 10 0 b) → (10 - k) < n → ∀ (H : Heap) (locs : List Loc), va_P D vwCl [(ad 0, .inr (5, [.ref (ad 1), .ref (ad 2), .ref (ad 3), .ref (ad 4), .ref (ad 5), .int (nI (f 5)), .ref (ad 6), .int (nI (f 7)), .int (nI (f 8)), .int (nI (f 9)), .int (nI (f 10)), .int (nI (f 11)), .int (nI (f 12)), .int (nI (f 13)), .ref (ad 7), .ref (ad 8), .ref (ad 9), .ref (ad 10), .ref (ad 11), .int (nI b2.1), .int (nI (f 20)), .int (nI (f 21)), .ref (ad 12)])), (ad 1, .inl (ka 1, 5, .inl (nA (g 1)))), (ad 2, .inl (ka 2, 40, .inl (nA (g 2)))), (ad 3, .inl (ka 3, 160, .inl (nA (g 3)))), (ad 4, .inl (ka 4, 4, .inl (nA (g 4)))), (ad 5, .inl (ka 5, 4, .inl (nA (g 5)))), (ad 6, .inl (ka 6, 200, .inl (nA (g 6)))), (ad 7, .inl (ka 7, 12001, .inr (.inl (lA b2.2.1)))), (ad 8, .inl (ka 8, 12001, .inl (nA b2.2.2.1))), (ad 9, .inl (ka 9, 12001, .inl (nA b2.2.2.2.1))), (ad 10, .inl (ka 10, 12001, .inl (nA b2.2.2.2.2))), (ad 11, .inl (ka 11, 32768, .inl (nA tb2))), (ad 12, .inl (ka 12, 64, .inl (nA (g 12))))] H → va_D Ar [(ad 0, .inr (5, [.ref (ad 1), .ref (ad 2), .ref (ad 3), .ref (ad 4), .ref (ad 5), .int (nI (f 5)), .ref (ad 6), .int (nI (f 7)), .int (nI (f 8)), .int (nI (f 9)), .int (nI (f 10)), .int (nI (f 11)), .int (nI (f 12)), .int (nI (f 13)), .ref (ad 7), .ref (ad 8), .ref (ad 9), .ref (ad 10), .ref (ad 11), .int (nI b2.1), .int (nI (f 20)), .int (nI (f 21)), .ref (ad 12)])), (ad 1, .inl (ka 1, 5, .inl (nA (g 1)))), (ad 2, .inl (ka 2, 40, .inl (nA (g 2)))), (ad 3, .inl (ka 3, 160, .inl (nA (g 3)))), (ad 4, .inl (ka 4, 4, .inl (nA (g 4)))), (ad 5, .inl (ka 5, 4, .inl (nA (g 5)))), (ad 6, .inl (ka 6, 200, .inl (nA (g 6)))), (ad 7, .inl (ka 7, 12001, .inr (.inl (lA b2.2.1)))), (ad 8, .inl (ka 8, 12001, .inl (nA b2.2.2.1))), (ad 9, .inl (ka 9, 12001, .inl (nA b2.2.2.2.1))), (ad 10, .inl (ka 10, 12001, .inl (nA b2.2.2.2.2))), (ad 11, .inl (ka 11, 32768, .inl (nA tb2))), (ad 12, .inl (ka 12, 64, .inl (nA (g 12))))] → va_S Ar s.heap H locs → ∀ ls : Array Slot, lv_has ls 7 [(0, .ref (ad 0)), (3, .int (nI i)), (4, .int (nI k))] → W p l e ({ frames := 5, cells := 0, slots := 0, locals := 125 } : Room) s m (([.ref (ad 0)] : List Value).toArray) below meth c H locs 0 0 Q (F0 m 86 ls []) := by
                  intro n86
                  induction n86 with
                  | zero => intro k b2 tb2 hk hB2 hmo htab2 hrow hm86; exact absurd hm86 (Nat.not_lt_zero _)
                  | succ n86 ih86 =>
                    intro k b2 tb2 hk hB2 hmo htab2 hrow hm86 H locs hP hD hS ls hl
                    refine lv_iload hx hb dX5_walkOn_86 (lv_at hl 2 rfl) ?_
                    refine lv_bipush (v := nI 10) hx hb dX5_walkOn_88 (by decide) ?_
                    refine lv_icmp_ge (tgt := 129) hx hb dX5_walkOn_90 (by decide) (fun c90_15 => ?_) (fun c90_15 => ?_)
                    · have c90_15 : 10 ≤ k := (nI_leI (a := 10) (b := k) (by omega) (by omega)).mp c90_15
                      refine lv_iinc (v := nI (i + 1)) (lv' := [(3, .int (nI (i + 1))), (0, .ref (ad 0)), (4, .int (nI k))]) hx hb dX5_walkOn_129 hl (k := 1) rfl (by rw [show Int32.ofInt 1 = nI 1 from by decide, nI_add]) (by decide) rfl (fun ls hl => ?_)
                      refine lv_goto (tgt := 65) hx hb dX5_walkOn_132 (by decide) ?_
                      exact ih65 (i + 1) b2 tb2 (hB2) (by omega) (htab2) (run_step hrun c70_13 c80_14 (by omega) hrow (by omega)) (by omega) _ _ hP hD hS _ (lv_sub hl [1, 0] rfl)
                    · have c90_15 : ¬ (10 ≤ k) := fun h9 => c90_15 ((nI_leI (a := 10) (b := k) (by omega) (by omega)).mpr h9)
                      have h12 := hB2.1
                      refine lv_aload_n hx hb dX5_walkOn_93 rfl (lv_at hl 0 rfl) ?_
                      refine lv_aload_n hx hb dX5_walkOn_94 rfl (lv_at hl 0 rfl) ?_
                      refine va_get (D := D) (ci := 5) (v := .ref (ad 7)) (C := RX5) (T := TX5) (N := 23) hx hb hU iX5 hown hK hP 0 rfl rfl 14 (by decide) (hU _ mU_83) (fun _ h9 => h9) rfl dX5_walkOn_95 ?_
                      refine lv_iload_n hx hb dX5_walkOn_98 rfl (lv_at hl 1 rfl) ?_
                      refine n_lald hx hb hK hP 7 6 rfl rfl (i := i) (by omega) (by decide) dX5_walkOn_99 ?_
                      refine lv_iload hx hb dX5_walkOn_100 (lv_at hl 2 rfl) ?_
                      refine cVl (As := [.long (lN (b2.2.1 i)), .int (nI k)]) (rest := []) ⟨hx, hb, hml, hown, hts⟩ (c_X5_stepOf l D ad ka (upN (f) 19 (b2.1)) (upA (upA (upA (upA (g) 8 (b2.2.2.1)) 9 (b2.2.2.2.1)) 10 (b2.2.2.2.2)) 11 (tb2)) b2.2.1 (b2.2.1 i) k (show ∀ a, a < 6 → ∀ i, (upA (upA (upA (upA (g) 8 (b2.2.2.1)) 9 (b2.2.2.2.1)) 10 (b2.2.2.2.2)) 11 (tb2)) a i < 2147483648 from hgB hg) (show okL (upA (upA (upA (upA (g) 8 (b2.2.2.1)) 9 (b2.2.2.2.1)) 10 (b2.2.2.2.2)) 11 (tb2)) from hL) (show wfM (upA (upA (upA (upA (g) 8 (b2.2.2.1)) 9 (b2.2.2.2.1)) 10 (b2.2.2.2.2)) 11 (tb2)) (b2.2.1 i) from (hB2.2 i (by omega)).1) (show (f 5) < 2 from hf5) (show k < 10 from by omega)) (cwV 2 hts (gV mU_492 mU_493 mU_494 mU_6 mU_495) rfl rfl rfl (by decide +kernel) ⟨Nat.le_of_ble_eq_true rfl, Nat.le_of_ble_eq_true rfl⟩) fbR (va_recv hK hP (ci := 5) (q0 := 0) rfl rfl) (PR.of hP hK) rfl hl.1 rfl (Nat.le_of_ble_eq_true rfl) dX5_walkOn_102 ⟨Nat.zero_le _, Nat.zero_le _⟩ ?_
                      refine lv_topEl (eO (stepM (f 5) g (b2.2.1 i) k)) (rfl) ?_
                      refine lv_lstore (lv' := [(5, .long (eO (stepM (f 5) g (b2.2.1 i) k))), (0, .ref (ad 0)), (3, .int (nI i)), (4, .int (nI k))]) hx hb dX5_walkOn_105 hl (by decide) rfl (fun ls hl => ?_)
                      refine lv_lload hx hb dX5_walkOn_107 (lv_at hl 0 rfl) ?_
                      refine lv_lconst (v := lN 0) hx hb dX5_walkOn_109 rfl ?_
                      refine W.lcmp hx hb dX5_walkOn_110 ?_
                      refine lv_if_lt (tgt := 123) hx hb dX5_walkOn_111 (by decide) (fun c111_16 => ?_) (fun c111_16 => ?_)
                      · have c111_16 : eO (stepM (f 5) g (b2.2.1 i) k) < lN 0 := (lg_cmp_lt _ _).mp c111_16
                        have hsB : stepB (f 5) g b2 i k = b2 := stepB_none ((step_lt hL (hB2.2 i (by omega)).1 (by omega)).mp c111_16)
                        refine lv_iinc (v := nI (k + 1)) (lv' := [(4, .int (nI (k + 1))), (5, .long (eO (stepM (f 5) g (b2.2.1 i) k))), (0, .ref (ad 0)), (3, .int (nI i))]) hx hb dX5_walkOn_123 hl (k := 3) rfl (by rw [show Int32.ofInt 1 = nI 1 from by decide, nI_add]) (by decide) rfl (fun ls hl => ?_)
                        refine lv_goto (tgt := 86) hx hb dX5_walkOn_126 (by decide) ?_
                        exact ih86 (k + 1) b2 tb2 (by omega) (hsB ▸ (BInv_step hL hB2 (by omega) (by omega)).1) (hmo) (htab2) (row_step hrow (by omega) hsB) (by omega) _ _ hP hD hS _ (lv_sub hl [2, 3, 0] rfl)
                      · have c111_16 : ¬ (eO (stepM (f 5) g (b2.2.1 i) k) < lN 0) := fun h9 => c111_16 ((lg_cmp_lt _ _).mpr h9)
                        obtain ⟨y, hy⟩ := step_some (g := g) hL (hB2.2 i (by omega)).1 (by omega) c111_16
                        have hl : lv_has ls 7 [(5, .long (lN y)), (0, .ref (ad 0)), (3, .int (nI i)), (4, .int (nI k))] := by rw [hy] at hl; exact hl
                        have hwy := wf_step hL (hB2.2 i (by omega)).1 (by omega) hy
                        have hy48 := hwy.1
                        have hsB : stepB (f 5) g b2 i k = insB b2 y i k := stepB_some hy
                        refine lv_aload_n hx hb dX5_walkOn_114 rfl (lv_at hl 1 rfl) ?_
                        refine lv_lload hx hb dX5_walkOn_115 (lv_at hl 0 rfl) ?_
                        refine lv_iload_n hx hb dX5_walkOn_117 rfl (lv_at hl 2 rfl) ?_
                        refine lv_iload hx hb dX5_walkOn_118 (lv_at hl 3 rfl) ?_
                        refine kVv (As := [.long (lN y), .int (nI i), .int (nI k)]) (rest := []) (wr := []) ⟨hx, hb, hml, hown, hts⟩ (c_X5_come l D ad ka (upN (f) 19 (b2.1)) (upA (upA (upA (upA (g) 8 (b2.2.2.1)) 9 (b2.2.2.2.1)) 10 (b2.2.2.2.2)) 11 (tb2)) b2.2.1 H.size y i k (show y < 2 ^ 48 from by omega) (show i = 4294967295 ∨ i < b2.1 from by omega) (show k < 10 from by omega) (show b2.1 ≤ 12001 from by omega) (show tabI (b2.1) b2.2.1 (tb2) from htab2) (show ∀ i, i < b2.1 → b2.2.1 i < 2 ^ 48 from fun j hj => (hB2.2 j hj).1.1) (show ∀ i, i < b2.1 → b2.2.2.2.2 i ≤ 12000 from fun j hj => by have q1 := (hB2.2 j hj).2.1; have q2 := phi_le hL (hB2.2 j hj).1; omega)) (cwV 3 hts (gV mU_484 mU_485 mU_486 mU_6 mU_487) rfl rfl rfl (by decide +kernel) ⟨Nat.le_of_ble_eq_true rfl, Nat.le_of_ble_eq_true rfl⟩) (va_recv hK hP (ci := 5) (q0 := 0) rfl rfl) hP hK hD hS hA [0, 1, 2, 3, 4, 5, 6, 7, 8, 9, 10, 11, 12] [] [0, 1, 2, 3, 4, 5, 6, 7, 8, 9, 10, 11] [] rfl rfl rfl rfl (by decide) rfl rfl rfl hl.1 rfl (Nat.le_of_ble_eq_true rfl) dX5_walkOn_120 ⟨by decide, by decide⟩ (fun u H locs hw hP hD hK hS => ?_)
                        obtain ⟨tb17, htab17, hu⟩ := hw
                        subst hu
                        have htab17 : tabI (insB b2 y i k).1 (insB b2 y i k).2.1 tb17 := htab17
                        have hP : va_P D vwCl [(ad 0, .inr (5, [.ref (ad 1), .ref (ad 2), .ref (ad 3), .ref (ad 4), .ref (ad 5), .int (nI (f 5)), .ref (ad 6), .int (nI (f 7)), .int (nI (f 8)), .int (nI (f 9)), .int (nI (f 10)), .int (nI (f 11)), .int (nI (f 12)), .int (nI (f 13)), .ref (ad 7), .ref (ad 8), .ref (ad 9), .ref (ad 10), .ref (ad 11), .int (nI ((insB b2 y i k).1)), .int (nI (f 20)), .int (nI (f 21)), .ref (ad 12)])), (ad 1, .inl (ka 1, 5, .inl (nA (g 1)))), (ad 2, .inl (ka 2, 40, .inl (nA (g 2)))), (ad 3, .inl (ka 3, 160, .inl (nA (g 3)))), (ad 4, .inl (ka 4, 4, .inl (nA (g 4)))), (ad 5, .inl (ka 5, 4, .inl (nA (g 5)))), (ad 6, .inl (ka 6, 200, .inl (nA (g 6)))), (ad 7, .inl (ka 7, 12001, .inr (.inl (lA ((insB b2 y i k).2.1))))), (ad 8, .inl (ka 8, 12001, .inl (nA ((insB b2 y i k).2.2.1)))), (ad 9, .inl (ka 9, 12001, .inl (nA ((insB b2 y i k).2.2.2.1)))), (ad 10, .inl (ka 10, 12001, .inl (nA ((insB b2 y i k).2.2.2.2)))), (ad 11, .inl (ka 11, 32768, .inl (nA tb17))), (ad 12, .inl (ka 12, 64, .inl (nA (g 12))))] H := hP
                        have hD : va_D Ar [(ad 0, .inr (5, [.ref (ad 1), .ref (ad 2), .ref (ad 3), .ref (ad 4), .ref (ad 5), .int (nI (f 5)), .ref (ad 6), .int (nI (f 7)), .int (nI (f 8)), .int (nI (f 9)), .int (nI (f 10)), .int (nI (f 11)), .int (nI (f 12)), .int (nI (f 13)), .ref (ad 7), .ref (ad 8), .ref (ad 9), .ref (ad 10), .ref (ad 11), .int (nI ((insB b2 y i k).1)), .int (nI (f 20)), .int (nI (f 21)), .ref (ad 12)])), (ad 1, .inl (ka 1, 5, .inl (nA (g 1)))), (ad 2, .inl (ka 2, 40, .inl (nA (g 2)))), (ad 3, .inl (ka 3, 160, .inl (nA (g 3)))), (ad 4, .inl (ka 4, 4, .inl (nA (g 4)))), (ad 5, .inl (ka 5, 4, .inl (nA (g 5)))), (ad 6, .inl (ka 6, 200, .inl (nA (g 6)))), (ad 7, .inl (ka 7, 12001, .inr (.inl (lA ((insB b2 y i k).2.1))))), (ad 8, .inl (ka 8, 12001, .inl (nA ((insB b2 y i k).2.2.1)))), (ad 9, .inl (ka 9, 12001, .inl (nA ((insB b2 y i k).2.2.2.1)))), (ad 10, .inl (ka 10, 12001, .inl (nA ((insB b2 y i k).2.2.2.2)))), (ad 11, .inl (ka 11, 32768, .inl (nA tb17))), (ad 12, .inl (ka 12, 64, .inl (nA (g 12))))] := hD
                        have hK : va_K D vwCl (mT ka) s := hK.sub [0, 1, 2, 3, 4, 5, 6, 7, 8, 9, 10, 11] rfl
                        refine lv_iinc (v := nI (k + 1)) (lv' := [(4, .int (nI (k + 1))), (5, .long (lN y)), (0, .ref (ad 0)), (3, .int (nI i))]) hx hb dX5_walkOn_123 hl (k := 3) rfl (by rw [show Int32.ofInt 1 = nI 1 from by decide, nI_add]) (by decide) rfl (fun ls hl => ?_)
                        refine lv_goto (tgt := 86) hx hb dX5_walkOn_126 (by decide) ?_
                        exact ih86 (k + 1) (insB b2 y i k) tb17 (by omega) (hsB ▸ (BInv_step hL hB2 (by omega) (by omega)).1) (Nat.le_trans hmo (hsB ▸ (BInv_step (mf := f 5) (k := k) (i := i) hL hB2 (by omega) (by omega)).2)) (htab17) (row_step hrow (by omega) hsB) (by omega) _ _ hP hD hS _ (lv_sub hl [2, 3, 0] rfl)
                exact L86_161 (10 + 1) 0 b tb (by omega) (hB) (Nat.le_refl _) (htab) (rfl) (Nat.lt_succ_self _) _ _ hP hD hS _ (lv_sub hl [1, 2, 0] rfl)
        exact L65_136 (12002 + 1) 0 (insB (0, t, g 8, g 9, g 10) (withN (withN (withN (withN 0 0 2 ((g 4) 0)) 2 2 ((g 4) 1)) 4 2 ((g 4) 2)) 6 2 ((g 4) 3)) 4294967295 0) tb11 (BInv_ins (BInv_0 _ _ _ _ _) (wf_beg h4).1 (by decide) (Or.inl ⟨rfl, (wf_beg (g := g) h4).2⟩)) (Nat.zero_le _) (htab11) (rfl) (Nat.lt_succ_self _) _ _ hP hD hS _ (lv_sub hl [2, 0] rfl)
      · have c5_1 : ¬ (32768 ≤ k) := fun h9 => c5_1 ((nI_leI (a := 32768) (b := k) (by omega) (by omega)).mpr h9)
        refine lv_aload_n hx hb dX5_walkOn_8 rfl (lv_at hl 0 rfl) ?_
        refine va_get (D := D) (ci := 5) (v := .ref (ad 11)) (C := RX5) (T := TX5) (N := 23) hx hb hU iX5 hown hK hP 0 rfl rfl 18 (by decide) (hU _ mU_89) (fun _ h9 => h9) rfl dX5_walkOn_9 ?_
        refine lv_iload_n hx hb dX5_walkOn_12 rfl (lv_at hl 1 rfl) ?_
        refine lv_iconst (v := nI 0) hx hb dX5_walkOn_13 (by decide) ?_
        refine n_iast hx hb hK hP hD hS 11 10 rfl rfl (i := k) (v := 0) (by omega) (by decide) dX5_walkOn_14 (fun H locs hP hD hS => ?_)
        have hP : va_P D vwCl [(ad 0, .inr (5, [.ref (ad 1), .ref (ad 2), .ref (ad 3), .ref (ad 4), .ref (ad 5), .int (nI (f 5)), .ref (ad 6), .int (nI (f 7)), .int (nI (f 8)), .int (nI (f 9)), .int (nI (f 10)), .int (nI (f 11)), .int (nI (f 12)), .int (nI (f 13)), .ref (ad 7), .ref (ad 8), .ref (ad 9), .ref (ad 10), .ref (ad 11), .int (nI (f 19)), .int (nI (f 20)), .int (nI (f 21)), .ref (ad 12)])), (ad 1, .inl (ka 1, 5, .inl (nA (g 1)))), (ad 2, .inl (ka 2, 40, .inl (nA (g 2)))), (ad 3, .inl (ka 3, 160, .inl (nA (g 3)))), (ad 4, .inl (ka 4, 4, .inl (nA (g 4)))), (ad 5, .inl (ka 5, 4, .inl (nA (g 5)))), (ad 6, .inl (ka 6, 200, .inl (nA (g 6)))), (ad 7, .inl (ka 7, 12001, .inr (.inl (lA t)))), (ad 8, .inl (ka 8, 12001, .inl (nA (g 8)))), (ad 9, .inl (ka 9, 12001, .inl (nA (g 9)))), (ad 10, .inl (ka 10, 12001, .inl (nA (g 10)))), (ad 11, .inl (ka 11, 32768, .inl (nA (upN tb k 0)))), (ad 12, .inl (ka 12, 64, .inl (nA (g 12))))] H := hP
        have hD : va_D Ar [(ad 0, .inr (5, [.ref (ad 1), .ref (ad 2), .ref (ad 3), .ref (ad 4), .ref (ad 5), .int (nI (f 5)), .ref (ad 6), .int (nI (f 7)), .int (nI (f 8)), .int (nI (f 9)), .int (nI (f 10)), .int (nI (f 11)), .int (nI (f 12)), .int (nI (f 13)), .ref (ad 7), .ref (ad 8), .ref (ad 9), .ref (ad 10), .ref (ad 11), .int (nI (f 19)), .int (nI (f 20)), .int (nI (f 21)), .ref (ad 12)])), (ad 1, .inl (ka 1, 5, .inl (nA (g 1)))), (ad 2, .inl (ka 2, 40, .inl (nA (g 2)))), (ad 3, .inl (ka 3, 160, .inl (nA (g 3)))), (ad 4, .inl (ka 4, 4, .inl (nA (g 4)))), (ad 5, .inl (ka 5, 4, .inl (nA (g 5)))), (ad 6, .inl (ka 6, 200, .inl (nA (g 6)))), (ad 7, .inl (ka 7, 12001, .inr (.inl (lA t)))), (ad 8, .inl (ka 8, 12001, .inl (nA (g 8)))), (ad 9, .inl (ka 9, 12001, .inl (nA (g 9)))), (ad 10, .inl (ka 10, 12001, .inl (nA (g 10)))), (ad 11, .inl (ka 11, 32768, .inl (nA (upN tb k 0)))), (ad 12, .inl (ka 12, 64, .inl (nA (g 12))))] := hD
        refine lv_iinc (v := nI (k + 1)) (lv' := [(1, .int (nI (k + 1))), (0, .ref (ad 0))]) hx hb dX5_walkOn_15 hl (k := 1) rfl (by rw [show Int32.ofInt 1 = nI 1 from by decide, nI_add]) (by decide) rfl (fun ls hl => ?_)
        refine lv_goto (tgt := 2) hx hb dX5_walkOn_18 (by decide) ?_
        exact ih2 (k + 1) (upN tb k 0) (by omega) (z_up hz) (by omega) _ _ hP hD hS _ (lv_sub hl [1, 0] rfl)
  exact L2_24 (32768 + 1) 0 (g 11) (by omega) (fun p hp => absurd hp (Nat.not_lt_zero p)) (Nat.lt_succ_self _) _ _ hP hD hS _ (lv_sub hl [1, 0] rfl)

/-- the d-th state ahead of a state -/
def anc (pa : Nat → Nat) : Nat → Nat → Nat
  | 0, i => i
  | d + 1, i => pa (anc pa d i)
def keepPost (f : Nat → Nat) (g : Nat → Nat → Nat) (t : Nat → Nat) (i : Nat) (r : Int32) (u : MSt) : Prop := (i = 4294967295 → r = nI 4294967295 ∧ u = (f, g, t)) ∧ (i < f 19 → r = nI (g 10 i) ∧ ∃ rw_ : Nat → Nat, u = (upN f 21 (g 10 i), upA g 12 rw_, t) ∧ (∀ k, k < g 10 i → rw_ k = g 9 (anc (g 8) (g 10 i - 1 - k) i)) ∧ ∀ k, rw_ k < 2147483648)
theorem keep_z {j : Nat} (hj : j < 2 ^ 31) (h : nI j - nI 1 < 0) : j = 0 := by
  rcases Nat.eq_zero_or_pos j with q | q
  · exact q
  · rw [pk_sub q, nI_lt0 (by omega)] at h; omega
theorem keep_p {j : Nat} (hj : j < 2 ^ 31) (h : ¬ nI j - nI 1 < 0) : 0 < j := by
  rcases Nat.eq_zero_or_pos j with q | q
  · subst q; exact absurd (by decide) h
  · exact q
theorem keep_x {pa : Nat → Nat} {L j x i : Nat} (h : x = anc pa (L - j) i) (hj : j ≤ L) (h0 : 0 < j) : pa x = anc pa (L - (j - 1)) i := by
  rw [show L - (j - 1) = (L - j) + 1 by omega, anc, ← h]
theorem keep_row {pa st rw_ : Nat → Nat} {L j x i : Nat} (h : ∀ k, j ≤ k → k < L → rw_ k = st (anc pa (L - 1 - k) i)) (hx : x = anc pa (L - j) i) (hj : j ≤ L) (h0 : 0 < j) : ∀ k, j - 1 ≤ k → k < L → upN rw_ (j - 1) (st x) k = st (anc pa (L - 1 - k) i) := fun k h1 h2 => by
  by_cases e : k = j - 1
  · subst e; rw [upN_s, hx, show L - 1 - (j - 1) = L - j by omega]
  · rw [upN_n e]; exact h k (by omega) h2
theorem findN_or (P : Nat → Bool) (n : Nat) : findN P n = 4294967295 ∨ findN P n < n := by
  unfold findN
  split
  · rename_i i e
    exact Or.inr (List.mem_range.mp (List.mem_of_find?_eq_some e))
  · exact Or.inl rfl
set_option maxHeartbeats 4000000 in
set_option maxRecDepth 100000 in
theorem c_X5_keep (l : Launch) (D : va_G) (ad : Nat → Nat) (ka : Nat → ClassId) (f : Nat → Nat) (g : Nat → Nat → Nat) (t : Nat → Nat) (sz : Nat) (i : Nat) (hL : okL g) (hB : BInv g (f 19, t, g 8, g 9, g 10)) (hi : i = 4294967295 ∨ i < f 19) (hrw : ∀ k, g 12 k < 2147483648) : Met l yX5_keep (.code yX5_keep cX5_keep 4 (some .int) :: wsL_law) ({ frames := 0, cells := 0, slots := 0, locals := 0 }) (va_Pc [.ref (ad 0), .int (nI i)] (PW D (mW ad ka f g t) (mT ka) sz)) (va_Qi (fun (r : Int32) (u : MSt) => keepPost f g t i r u) (QW D (fun u : MSt => mW ad ka u.1 u.2.1 u.2.2) (fun _ => mT ka) (va_A (mW ad ka f g t) sz)) (va_A (mW ad ka f g t) sz)) 0 0 (va_A (mW ad ka f g t) sz) := by
  refine Met.ofW (cc := cX5_keep) (maxL := 4) (ret := (some .int)) (by decide) rfl ?_
  intro p e s m args below meth c s₁ B hml hv
  obtain ⟨rfl, hsz, hP, hK, hD0⟩ := hv
  have hx := B.exec
  have hb := B.bytes
  have hr := B.returns
  have hts := atoms_spec (ws := .code yX5_keep cX5_keep 4 (some .int) :: wsL_law) B.pre
  have hU : ∀ w ∈ wsL_law, w.before _ s = true := fun w h => hts w (List.mem_cons_of_mem _ h)
  have hown : s.vm.findClass RX5 = some m.cls := findClass_of_methodNamed B.named
  have hlocks := B.notSynchronized
  subst hsz
  have hD := hD0.self (sz := s.heap.size)
  generalize hAe : va_A (mW ad ka f g t) s.heap.size = Ar at hD ⊢
  have hA : ∀ q : Nat, s.heap.size ≤ q → Ar q := fun q h => by rw [← hAe]; exact Or.inr h
  have hS : va_S Ar s.heap s.heap [] := va_S.rf
  have hP : va_P D vwCl [(ad 0, .inr (5, [.ref (ad 1), .ref (ad 2), .ref (ad 3), .ref (ad 4), .ref (ad 5), .int (nI (f 5)), .ref (ad 6), .int (nI (f 7)), .int (nI (f 8)), .int (nI (f 9)), .int (nI (f 10)), .int (nI (f 11)), .int (nI (f 12)), .int (nI (f 13)), .ref (ad 7), .ref (ad 8), .ref (ad 9), .ref (ad 10), .ref (ad 11), .int (nI (f 19)), .int (nI (f 20)), .int (nI (f 21)), .ref (ad 12)])), (ad 1, .inl (ka 1, 5, .inl (nA (g 1)))), (ad 2, .inl (ka 2, 40, .inl (nA (g 2)))), (ad 3, .inl (ka 3, 160, .inl (nA (g 3)))), (ad 4, .inl (ka 4, 4, .inl (nA (g 4)))), (ad 5, .inl (ka 5, 4, .inl (nA (g 5)))), (ad 6, .inl (ka 6, 200, .inl (nA (g 6)))), (ad 7, .inl (ka 7, 12001, .inr (.inl (lA t)))), (ad 8, .inl (ka 8, 12001, .inl (nA (g 8)))), (ad 9, .inl (ka 9, 12001, .inl (nA (g 9)))), (ad 10, .inl (ka 10, 12001, .inl (nA (g 10)))), (ad 11, .inl (ka 11, 32768, .inl (nA (g 11)))), (ad 12, .inl (ka 12, 64, .inl (nA (g 12))))] s.heap := hP
  have hD : va_D Ar [(ad 0, .inr (5, [.ref (ad 1), .ref (ad 2), .ref (ad 3), .ref (ad 4), .ref (ad 5), .int (nI (f 5)), .ref (ad 6), .int (nI (f 7)), .int (nI (f 8)), .int (nI (f 9)), .int (nI (f 10)), .int (nI (f 11)), .int (nI (f 12)), .int (nI (f 13)), .ref (ad 7), .ref (ad 8), .ref (ad 9), .ref (ad 10), .ref (ad 11), .int (nI (f 19)), .int (nI (f 20)), .int (nI (f 21)), .ref (ad 12)])), (ad 1, .inl (ka 1, 5, .inl (nA (g 1)))), (ad 2, .inl (ka 2, 40, .inl (nA (g 2)))), (ad 3, .inl (ka 3, 160, .inl (nA (g 3)))), (ad 4, .inl (ka 4, 4, .inl (nA (g 4)))), (ad 5, .inl (ka 5, 4, .inl (nA (g 5)))), (ad 6, .inl (ka 6, 200, .inl (nA (g 6)))), (ad 7, .inl (ka 7, 12001, .inr (.inl (lA t)))), (ad 8, .inl (ka 8, 12001, .inl (nA (g 8)))), (ad 9, .inl (ka 9, 12001, .inl (nA (g 9)))), (ad 10, .inl (ka 10, 12001, .inl (nA (g 10)))), (ad 11, .inl (ka 11, 32768, .inl (nA (g 11)))), (ad 12, .inl (ka 12, 64, .inl (nA (g 12))))] := hD
  generalize hQ : MQ _ _ _ _ _ _ _ = Q
  have hl := lv_entry ([.ref (ad 0), .int (nI i)]) (n := 4) (Nat.le_of_ble_eq_true rfl)
  rw [lg_entry_eq]
  generalize (lg_sl ([.ref (ad 0), .int (nI i)]) ++ List.replicate (4 - (lg_sl ([.ref (ad 0), .int (nI i)])).length) Slot.unset).toArray = ls at hl ⊢
  have hl : lv_has ls 4 [(0, .ref (ad 0)), (1, .int (nI i))] := hl
  have hb0 := hB.1
  simp only at hb0
  refine lv_iload_n hx hb dX5_keep_0 rfl (lv_at hl 1 rfl) ?_
  refine lv_if_ge (tgt := 6) hx hb dX5_keep_1 (by decide) (fun c1_1 => ?_) (fun c1_1 => ?_)
  · have c1_1 : i < 2147483648 := (nI_ge0 (a := i) (by omega)).mp c1_1
    have hin : i < f 19 := by omega
    have hbi := hB.1
    simp only at hbi
    have hwi := hB.2 i hin
    simp only at hwi
    have hph := phi_le hL hwi.1
    have hfi : g 10 i ≤ 29 := by omega
    refine lv_aload_n hx hb dX5_keep_6 rfl (lv_at hl 0 rfl) ?_
    refine lv_aload_n hx hb dX5_keep_7 rfl (lv_at hl 0 rfl) ?_
    refine va_get (D := D) (ci := 5) (v := .ref (ad 10)) (C := RX5) (T := TX5) (N := 23) hx hb hU iX5 hown hK hP 0 rfl rfl 17 (by decide) (hU _ mU_87) (fun _ h9 => h9) rfl dX5_keep_8 ?_
    refine lv_iload_n hx hb dX5_keep_11 rfl (lv_at hl 1 rfl) ?_
    refine n_sald hx hb hK hP 10 9 rfl rfl (i := i) (by omega) (by decide) dX5_keep_12 ?_
    refine va_put (D := D) (ci := 5) (v := .int (nI ((g 10) i))) (ty := .int) (C := RX5) (T := TX5) (N := 23) hx hb hU iX5 tyX5 tyX5_ok nmX5 hown hK hP hD hS 0 rfl rfl 21 (by decide) (hU _ mU_600) (fun _ h9 => h9) rfl (by decide +kernel) rfl rfl (Nat.le_of_ble_eq_true rfl) dX5_keep_13 (fun H locs hP hD hS => ?_)
    have hP : va_P D vwCl [(ad 0, .inr (5, [.ref (ad 1), .ref (ad 2), .ref (ad 3), .ref (ad 4), .ref (ad 5), .int (nI (f 5)), .ref (ad 6), .int (nI (f 7)), .int (nI (f 8)), .int (nI (f 9)), .int (nI (f 10)), .int (nI (f 11)), .int (nI (f 12)), .int (nI (f 13)), .ref (ad 7), .ref (ad 8), .ref (ad 9), .ref (ad 10), .ref (ad 11), .int (nI (f 19)), .int (nI (f 20)), .int (nI ((g 10) i)), .ref (ad 12)])), (ad 1, .inl (ka 1, 5, .inl (nA (g 1)))), (ad 2, .inl (ka 2, 40, .inl (nA (g 2)))), (ad 3, .inl (ka 3, 160, .inl (nA (g 3)))), (ad 4, .inl (ka 4, 4, .inl (nA (g 4)))), (ad 5, .inl (ka 5, 4, .inl (nA (g 5)))), (ad 6, .inl (ka 6, 200, .inl (nA (g 6)))), (ad 7, .inl (ka 7, 12001, .inr (.inl (lA t)))), (ad 8, .inl (ka 8, 12001, .inl (nA (g 8)))), (ad 9, .inl (ka 9, 12001, .inl (nA (g 9)))), (ad 10, .inl (ka 10, 12001, .inl (nA (g 10)))), (ad 11, .inl (ka 11, 32768, .inl (nA (g 11)))), (ad 12, .inl (ka 12, 64, .inl (nA (g 12))))] H := hP
    have hD : va_D Ar [(ad 0, .inr (5, [.ref (ad 1), .ref (ad 2), .ref (ad 3), .ref (ad 4), .ref (ad 5), .int (nI (f 5)), .ref (ad 6), .int (nI (f 7)), .int (nI (f 8)), .int (nI (f 9)), .int (nI (f 10)), .int (nI (f 11)), .int (nI (f 12)), .int (nI (f 13)), .ref (ad 7), .ref (ad 8), .ref (ad 9), .ref (ad 10), .ref (ad 11), .int (nI (f 19)), .int (nI (f 20)), .int (nI ((g 10) i)), .ref (ad 12)])), (ad 1, .inl (ka 1, 5, .inl (nA (g 1)))), (ad 2, .inl (ka 2, 40, .inl (nA (g 2)))), (ad 3, .inl (ka 3, 160, .inl (nA (g 3)))), (ad 4, .inl (ka 4, 4, .inl (nA (g 4)))), (ad 5, .inl (ka 5, 4, .inl (nA (g 5)))), (ad 6, .inl (ka 6, 200, .inl (nA (g 6)))), (ad 7, .inl (ka 7, 12001, .inr (.inl (lA t)))), (ad 8, .inl (ka 8, 12001, .inl (nA (g 8)))), (ad 9, .inl (ka 9, 12001, .inl (nA (g 9)))), (ad 10, .inl (ka 10, 12001, .inl (nA (g 10)))), (ad 11, .inl (ka 11, 32768, .inl (nA (g 11)))), (ad 12, .inl (ka 12, 64, .inl (nA (g 12))))] := hD
    refine lv_iload_n hx hb dX5_keep_16 rfl (lv_at hl 1 rfl) ?_
    refine lv_istore_n (lv' := [(2, .int (nI i)), (0, .ref (ad 0)), (1, .int (nI i))]) hx hb dX5_keep_17 rfl hl (by decide) rfl (fun ls hl => ?_)
    refine lv_aload_n hx hb dX5_keep_18 rfl (lv_at hl 1 rfl) ?_
    refine va_get (D := D) (ci := 5) (v := .int (nI ((g 10) i))) (C := RX5) (T := TX5) (N := 23) hx hb hU iX5 hown hK hP 0 rfl rfl 21 (by decide) (hU _ mU_600) (fun _ h9 => h9) rfl dX5_keep_19 ?_
    refine lv_iconst (v := nI 1) hx hb dX5_keep_22 (by decide) ?_
    refine lv_isub hx hb dX5_keep_23 ?_
    refine lv_istore_n (lv' := [(3, .int ((nI ((g 10) i)) - (nI 1))), (2, .int (nI i)), (0, .ref (ad 0)), (1, .int (nI i))]) hx hb dX5_keep_24 rfl hl (by decide) rfl (fun ls hl => ?_)
    have L25_49 : ∀ (n : Nat) (j : Nat) (x : Nat) (rw_ : Nat → Nat), (j ≤ g 10 i) → (x = anc (g 8) (g 10 i - j) i) → (x < f 19) → (g 10 x = j) → (∀ k, j ≤ k → k < g 10 i → rw_ k = g 9 (anc (g 8) (g 10 i - 1 - k) i)) → (∀ k, rw_ k < 2147483648) → j < n → ∀ (H : Heap) (locs : List Loc), va_P D vwCl [(ad 0, .inr (5, [.ref (ad 1), .ref (ad 2), .ref (ad 3), .ref (ad 4), .ref (ad 5), .int (nI (f 5)), .ref (ad 6), .int (nI (f 7)), .int (nI (f 8)), .int (nI (f 9)), .int (nI (f 10)), .int (nI (f 11)), .int (nI (f 12)), .int (nI (f 13)), .ref (ad 7), .ref (ad 8), .ref (ad 9), .ref (ad 10), .ref (ad 11), .int (nI (f 19)), .int (nI (f 20)), .int (nI (g 10 i)), .ref (ad 12)])), (ad 1, .inl (ka 1, 5, .inl (nA (g 1)))), (ad 2, .inl (ka 2, 40, .inl (nA (g 2)))), (ad 3, .inl (ka 3, 160, .inl (nA (g 3)))), (ad 4, .inl (ka 4, 4, .inl (nA (g 4)))), (ad 5, .inl (ka 5, 4, .inl (nA (g 5)))), (ad 6, .inl (ka 6, 200, .inl (nA (g 6)))), (ad 7, .inl (ka 7, 12001, .inr (.inl (lA t)))), (ad 8, .inl (ka 8, 12001, .inl (nA (g 8)))), (ad 9, .inl (ka 9, 12001, .inl (nA (g 9)))), (ad 10, .inl (ka 10, 12001, .inl (nA (g 10)))), (ad 11, .inl (ka 11, 32768, .inl (nA (g 11)))), (ad 12, .inl (ka 12, 64, .inl (nA rw_)))] H → va_D Ar [(ad 0, .inr (5, [.ref (ad 1), .ref (ad 2), .ref (ad 3), .ref (ad 4), .ref (ad 5), .int (nI (f 5)), .ref (ad 6), .int (nI (f 7)), .int (nI (f 8)), .int (nI (f 9)), .int (nI (f 10)), .int (nI (f 11)), .int (nI (f 12)), .int (nI (f 13)), .ref (ad 7), .ref (ad 8), .ref (ad 9), .ref (ad 10), .ref (ad 11), .int (nI (f 19)), .int (nI (f 20)), .int (nI (g 10 i)), .ref (ad 12)])), (ad 1, .inl (ka 1, 5, .inl (nA (g 1)))), (ad 2, .inl (ka 2, 40, .inl (nA (g 2)))), (ad 3, .inl (ka 3, 160, .inl (nA (g 3)))), (ad 4, .inl (ka 4, 4, .inl (nA (g 4)))), (ad 5, .inl (ka 5, 4, .inl (nA (g 5)))), (ad 6, .inl (ka 6, 200, .inl (nA (g 6)))), (ad 7, .inl (ka 7, 12001, .inr (.inl (lA t)))), (ad 8, .inl (ka 8, 12001, .inl (nA (g 8)))), (ad 9, .inl (ka 9, 12001, .inl (nA (g 9)))), (ad 10, .inl (ka 10, 12001, .inl (nA (g 10)))), (ad 11, .inl (ka 11, 32768, .inl (nA (g 11)))), (ad 12, .inl (ka 12, 64, .inl (nA rw_)))] → va_S Ar s.heap H locs → ∀ ls : Array Slot, lv_has ls 4 [(0, .ref (ad 0)), (2, .int (nI x)), (3, .int (nI j - nI 1))] → W p l e ({ frames := 0, cells := 0, slots := 0, locals := 0 } : Room) s m (([.ref (ad 0), .int (nI i)] : List Value).toArray) below meth c H locs 0 0 Q (F0 m 25 ls []) := by
      intro n25
      induction n25 with
      | zero => intro j x rw_ hj hxa hxn hfx hrow hrb hm25; exact absurd hm25 (Nat.not_lt_zero _)
      | succ n25 ih25 =>
        intro j x rw_ hj hxa hxn hfx hrow hrb hm25 H locs hP hD hS ls hl
        refine lv_iload_n hx hb dX5_keep_25 rfl (lv_at hl 2 rfl) ?_
        refine lv_if_lt (tgt := 54) hx hb dX5_keep_26 (by decide) (fun c26_2 => ?_) (fun c26_2 => ?_)
        · have c26_2 : j = 0 := keep_z (by omega) c26_2
          refine lv_aload_n hx hb dX5_keep_54 rfl (lv_at hl 0 rfl) ?_
          refine va_get (D := D) (ci := 5) (v := .int (nI (g 10 i))) (C := RX5) (T := TX5) (N := 23) hx hb hU iX5 hown hK hP 0 rfl rfl 21 (by decide) (hU _ mU_600) (fun _ h9 => h9) rfl dX5_keep_55 ?_
          subst hQ
          exact rwi (upN (f) 21 (g 10 i), upA (g) 12 (rw_), t) hx hb hr hlocks (⟨fun h9 => absurd h9 (by omega), fun _ => ⟨rfl, rw_, rfl, fun k hk => hrow k (by omega) hk, hrb⟩⟩) hP hK hD hS dX5_keep_58
        · have c26_2 : 0 < j := keep_p (by omega) c26_2
          have hl : lv_has ls 4 [(0, .ref (ad 0)), (2, .int (nI x)), (3, .int (nI (j - 1)))] := by rw [pk_sub (by omega)] at hl; exact hl
          have hq := (hB.2 x hxn).2.2.2
          simp only at hq
          have hx9 := (hB.2 x hxn).2.2.1
          simp only at hx9
          refine lv_aload_n hx hb dX5_keep_29 rfl (lv_at hl 0 rfl) ?_
          refine va_get (D := D) (ci := 5) (v := .ref (ad 12)) (C := RX5) (T := TX5) (N := 23) hx hb hU iX5 hown hK hP 0 rfl rfl 22 (by decide) (hU _ mU_90) (fun _ h9 => h9) rfl dX5_keep_30 ?_
          refine lv_iload_n hx hb dX5_keep_33 rfl (lv_at hl 2 rfl) ?_
          refine lv_aload_n hx hb dX5_keep_34 rfl (lv_at hl 0 rfl) ?_
          refine va_get (D := D) (ci := 5) (v := .ref (ad 9)) (C := RX5) (T := TX5) (N := 23) hx hb hU iX5 hown hK hP 0 rfl rfl 16 (by decide) (hU _ mU_85) (fun _ h9 => h9) rfl dX5_keep_35 ?_
          refine lv_iload_n hx hb dX5_keep_38 rfl (lv_at hl 1 rfl) ?_
          refine n_bald hx hb hK hP 9 8 rfl rfl (i := x) (by omega) (by decide) dX5_keep_39 ?_
          refine n_iast hx hb hK hP hD hS 12 11 rfl rfl (i := j - 1) (v := (g 9) x) (by omega) (by decide) dX5_keep_40 (fun H locs hP hD hS => ?_)
          have hP : va_P D vwCl [(ad 0, .inr (5, [.ref (ad 1), .ref (ad 2), .ref (ad 3), .ref (ad 4), .ref (ad 5), .int (nI (f 5)), .ref (ad 6), .int (nI (f 7)), .int (nI (f 8)), .int (nI (f 9)), .int (nI (f 10)), .int (nI (f 11)), .int (nI (f 12)), .int (nI (f 13)), .ref (ad 7), .ref (ad 8), .ref (ad 9), .ref (ad 10), .ref (ad 11), .int (nI (f 19)), .int (nI (f 20)), .int (nI (g 10 i)), .ref (ad 12)])), (ad 1, .inl (ka 1, 5, .inl (nA (g 1)))), (ad 2, .inl (ka 2, 40, .inl (nA (g 2)))), (ad 3, .inl (ka 3, 160, .inl (nA (g 3)))), (ad 4, .inl (ka 4, 4, .inl (nA (g 4)))), (ad 5, .inl (ka 5, 4, .inl (nA (g 5)))), (ad 6, .inl (ka 6, 200, .inl (nA (g 6)))), (ad 7, .inl (ka 7, 12001, .inr (.inl (lA t)))), (ad 8, .inl (ka 8, 12001, .inl (nA (g 8)))), (ad 9, .inl (ka 9, 12001, .inl (nA (g 9)))), (ad 10, .inl (ka 10, 12001, .inl (nA (g 10)))), (ad 11, .inl (ka 11, 32768, .inl (nA (g 11)))), (ad 12, .inl (ka 12, 64, .inl (nA (upN rw_ (j - 1) ((g 9) x)))))] H := hP
          have hD : va_D Ar [(ad 0, .inr (5, [.ref (ad 1), .ref (ad 2), .ref (ad 3), .ref (ad 4), .ref (ad 5), .int (nI (f 5)), .ref (ad 6), .int (nI (f 7)), .int (nI (f 8)), .int (nI (f 9)), .int (nI (f 10)), .int (nI (f 11)), .int (nI (f 12)), .int (nI (f 13)), .ref (ad 7), .ref (ad 8), .ref (ad 9), .ref (ad 10), .ref (ad 11), .int (nI (f 19)), .int (nI (f 20)), .int (nI (g 10 i)), .ref (ad 12)])), (ad 1, .inl (ka 1, 5, .inl (nA (g 1)))), (ad 2, .inl (ka 2, 40, .inl (nA (g 2)))), (ad 3, .inl (ka 3, 160, .inl (nA (g 3)))), (ad 4, .inl (ka 4, 4, .inl (nA (g 4)))), (ad 5, .inl (ka 5, 4, .inl (nA (g 5)))), (ad 6, .inl (ka 6, 200, .inl (nA (g 6)))), (ad 7, .inl (ka 7, 12001, .inr (.inl (lA t)))), (ad 8, .inl (ka 8, 12001, .inl (nA (g 8)))), (ad 9, .inl (ka 9, 12001, .inl (nA (g 9)))), (ad 10, .inl (ka 10, 12001, .inl (nA (g 10)))), (ad 11, .inl (ka 11, 32768, .inl (nA (g 11)))), (ad 12, .inl (ka 12, 64, .inl (nA (upN rw_ (j - 1) ((g 9) x)))))] := hD
          refine lv_aload_n hx hb dX5_keep_41 rfl (lv_at hl 0 rfl) ?_
          refine va_get (D := D) (ci := 5) (v := .ref (ad 8)) (C := RX5) (T := TX5) (N := 23) hx hb hU iX5 hown hK hP 0 rfl rfl 15 (by decide) (hU _ mU_84) (fun _ h9 => h9) rfl dX5_keep_42 ?_
          refine lv_iload_n hx hb dX5_keep_45 rfl (lv_at hl 1 rfl) ?_
          refine n_iald hx hb hK hP 8 7 rfl rfl (i := x) (by omega) (by decide) dX5_keep_46 ?_
          refine lv_istore_n (lv' := [(2, .int (nI ((g 8) x))), (0, .ref (ad 0)), (3, .int (nI (j - 1)))]) hx hb dX5_keep_47 rfl hl (by decide) rfl (fun ls hl => ?_)
          refine lv_iinc (v := nI (j - 1) - nI 1) (lv' := [(3, .int (nI (j - 1) - nI 1)), (2, .int (nI ((g 8) x))), (0, .ref (ad 0))]) hx hb dX5_keep_48 hl (k := 2) rfl (by rw [show Int32.ofInt (-1) = -nI 1 from by decide, ← Int32.sub_eq_add_neg]) (by decide) rfl (fun ls hl => ?_)
          refine lv_goto (tgt := 25) hx hb dX5_keep_51 (by decide) ?_
          exact ih25 (j - 1) (g 8 x) (upN rw_ (j - 1) ((g 9) x)) (by omega) (keep_x hxa hj (by omega)) (by omega) (by omega) (keep_row hrow hxa hj (by omega)) (bnd_u hrb (by omega)) (by omega) _ _ hP hD hS _ (lv_sub hl [2, 1, 0] rfl)
    exact L25_49 ((g 10 i) + 1) (g 10 i) i (g 12) (Nat.le_refl _) (by rw [Nat.sub_self]; rfl) (by omega) (rfl) (fun k h1 h2 => absurd h2 (by omega)) (hrw) (Nat.lt_succ_self _) _ _ hP hD hS _ (lv_sub hl [2, 1, 0] rfl)
  · have c1_1 : ¬ (i < 2147483648) := fun h9 => c1_1 ((nI_ge0 (a := i) (by omega)).mpr h9)
    refine lv_iconst (v := nI 4294967295) hx hb dX5_keep_4 (by decide) ?_
    subst hQ
    exact rwi (f, g, t) hx hb hr hlocks (⟨fun _ => ⟨rfl, rfl⟩, fun h9 => absurd h9 (by omega)⟩) hP hK hD hS dX5_keep_5

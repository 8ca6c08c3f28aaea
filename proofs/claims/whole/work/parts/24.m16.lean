def TKI (q : Nat → Nat) (n a p e k v : Nat) : Prop := p = pF q n a ∧ e = eF q n p ∧ k = kF q n p ∧ (k = 1 → v = vF q n p) ∧ p ≤ n ∧ e ≤ n ∧ p ≤ e ∧ (k ≠ 0 → p < e)
theorem scF_ge {q : Nat → Nat} {n : Nat} {P : Nat → Bool} : ∀ (k a : Nat), a ≤ scF q n P k a := by
  intro k
  induction k with
  | zero => intro a; exact Nat.le_refl a
  | succ k ih =>
    intro a
    rw [scF]
    split
    · exact Nat.le_trans (Nat.le_succ a) (ih (a + 1))
    · exact Nat.le_refl a
theorem pF_ge {q : Nat → Nat} {n a p e k v : Nat} (h : TKI q n a p e k v) : a ≤ p := by rw [h.1]; exact scF_ge _ _
theorem kF_lt {q : Nat → Nat} {n a p e k v : Nat} (h : TKI q n a p e k v) : k < 13 := by
  rw [h.2.2.1]
  unfold kF
  split
  · split
    · decide
    · split
      · unfold wkM
        split
        · decide
        · split
          · have := wordV_or (pkP q p (eF q n p - p)); omega
          · decide
      · split <;> decide
  · decide
theorem numP_lt {q : Nat → Nat} (h : ∀ i, q i < 256) (p : Nat) : ∀ d, numP q p d < 20000 := by
  intro d
  induction d with
  | zero => exact (by decide : (0 : Nat) < 20000)
  | succ d ih =>
    rw [numP]
    have := h (p + d)
    split <;> omega
def rdKeep (g : Nat → Nat → Nat) (l1 s2 n3 : Nat → Nat) : Prop := ((∀ j, j ≠ 4 → l1 j = g 1 j) ∧ l1 4 ≤ 7) ∧ (∀ j, j < 32 → s2 j = g 2 j) ∧ (∀ j, j < 128 → n3 j = g 3 j) ∧ ∀ j, s2 j < 2147483648 ∧ n3 j < 2147483648
def rdRes (R : Nat × Nat × PT9) (r : Int32) (p : Nat) (l1 s2 n3 : Nat → Nat) : Prop := r = nI R.1 ∧ R.2.1 = p ∧ (R.1 = 0 → R.2.2.2.2.1 = l1 4 ∧ R.2.2.2.2.2.1 = (fun j => s2 (32 + j)) ∧ R.2.2.2.2.2.2 = (fun j => n3 (128 + j)))
theorem tokS_v {h k v w : Nat} {x : PT9} (e : k = 1 → v = w) : tokS h x k v = tokS h x k w := by
  unfold tokS
  by_cases q : k = 1
  · rw [e q]
  · simp only [if_neg q]
theorem run_ok {q : Nat → Nat} {n h c a p e k v : Nat} {x y : PT9} {R : Nat × Nat × PT9} (hR : runT q n h c a x = R) (hc : n < a + c) (hT : TKI q n a p e k v) (h0 : k ≠ 0) (hs : tokS h x k v = (0, y)) : runT q n h (c - 1) e y = R := by
  have h1 := hT.2.2.2.2.1
  have h2 := pF_ge hT
  rw [tokS_v hT.2.2.2.1] at hs
  obtain ⟨d, rfl⟩ : ∃ d, c = d + 1 := ⟨c - 1, by omega⟩
  rw [runT, ← hT.1, ← hT.2.2.1, if_neg h0, hs, if_pos rfl, ← hT.2.1] at hR
  exact hR
theorem run_bad {q : Nat → Nat} {n h c a p e k v r : Nat} {x y : PT9} {R : Nat × Nat × PT9} (hR : runT q n h c a x = R) (hc : n < a + c) (hT : TKI q n a p e k v) (h0 : k ≠ 0) (hr : r ≠ 0) (hs : tokS h x k v = (r, y)) : R = (r, p, y) := by
  have h1 := hT.2.2.2.2.1
  have h2 := pF_ge hT
  rw [tokS_v hT.2.2.2.1] at hs
  obtain ⟨d, rfl⟩ : ∃ d, c = d + 1 := ⟨c - 1, by omega⟩
  rw [runT, ← hT.1, ← hT.2.2.1, if_neg h0, hs, if_neg hr] at hR
  exact hR.symm
theorem run_end {q : Nat → Nat} {n h c a p e k v : Nat} {x : PT9} {R : Nat × Nat × PT9} (hR : runT q n h c a x = R) (hc : n < a + c) (hT : TKI q n a p e k v) (h0 : k = 0) : R = (if x.1 = 9 then 0 else 1, p, x) := by
  have h1 := hT.2.2.2.2.1
  have h2 := pF_ge hT
  obtain ⟨d, rfl⟩ : ∃ d, c = d + 1 := ⟨c - 1, by omega⟩
  rw [runT, ← hT.1, ← hT.2.2.1, if_pos h0] at hR
  exact hR.symm
theorem upN_sh {s : Nat → Nat} {b i j v : Nat} (h : j = b + i) : (fun x => upN s j v (b + x)) = upN (fun x => s (b + x)) i v := by
  funext x
  by_cases q : x = i
  · subst q; rw [h, upN_s, upN_s]
  · rw [upN_n q, upN_n (by omega)]
theorem run_open {q : Nat → Nat} {n h c a p e k v ln : Nat} {s2 nu : Nat → Nat} {R : Nat × Nat × PT9} (hR : runT q n h c a (9, 0, ln, fun j => s2 (32 + j), nu) = R) (hc : n < a + c) (hT : TKI q n a p e k v) (h4 : 4 ≤ k) (h7 : ¬ ln = 7) (_ : k < 13) : runT q n h (c - 1) e (k - 4, 0, ln, fun j => upN s2 (32 + ln) (k - 4) (32 + j), nu) = R := by
  refine run_ok hR hc hT (by omega) ?_
  rw [upN_sh (s := s2) (b := 32) (i := ln) rfl]
  unfold tokS
  simp only [reduceIte]
  rw [if_neg (by omega), if_neg h7]
theorem run_num {q : Nat → Nat} {n h c a p e k v ln s i : Nat} {so n3 : Nat → Nat} {R : Nat × Nat × PT9} (hR : runT q n h c a (s, i, ln, so, fun j => n3 (128 + j)) = R) (hc : n < a + c) (hT : TKI q n a p e k v) (h1 : k = 1) (hi : i < arM s ∧ s < 9) (hm : mayM h s i v) : runT q n h (c - 1) e (s, i + 1, ln, so, fun j => upN n3 (4 * (32 + ln) + i) v (128 + j)) = R := by
  refine run_ok hR hc hT (by omega) ?_
  rw [upN_sh (s := n3) (b := 128) (i := 4 * ln + i) (by omega)]
  unfold tokS
  simp only
  rw [if_neg (by omega), if_pos hi.1, if_pos h1, if_pos hm]
theorem run_close {q : Nat → Nat} {n h c a p e k v ln s i : Nat} {so nu : Nat → Nat} {R : Nat × Nat × PT9} (hR : runT q n h c a (s, i, ln, so, nu) = R) (hc : n < a + c) (hT : TKI q n a p e k v) (hi : ¬ i < arM s ∧ s < 9) (h2 : k = 2) : runT q n h (c - 1) e (9, 0, ln + 1, so, nu) = R := by
  refine run_ok hR hc hT (by omega) ?_
  unfold tokS
  simp only
  rw [if_neg (by omega), if_neg hi.1, if_pos h2]
theorem run_f1 {q : Nat → Nat} {n h c a p e k v ln : Nat} {so nu l1 s2 n3 : Nat → Nat} {R : Nat × Nat × PT9} (hR : runT q n h c a (9, 0, ln, so, nu) = R) (hc : n < a + c) (hT : TKI q n a p e k v) (h0 : k ≠ 0) (h4 : k < 4) : rdRes R (nI 1) p l1 s2 n3 := by
  have e := run_bad (r := 1) (y := (9, 0, ln, so, nu)) hR hc hT h0 (by decide) (by unfold tokS; simp only [reduceIte]; rw [if_pos h4])
  rw [e]; exact ⟨rfl, rfl, fun x => absurd (show (1 : Nat) = 0 from x) (by decide)⟩
theorem run_f3 {q : Nat → Nat} {n h c a p e k v ln : Nat} {so nu l1 s2 n3 : Nat → Nat} {R : Nat × Nat × PT9} (hR : runT q n h c a (9, 0, ln, so, nu) = R) (hc : n < a + c) (hT : TKI q n a p e k v) (h4 : 4 ≤ k) (h7 : ln = 7) : rdRes R (nI 3) p l1 s2 n3 := by
  have e := run_bad (r := 3) (y := (9, 0, ln, so, nu)) hR hc hT (by omega) (by decide) (by unfold tokS; simp only [reduceIte]; rw [if_neg (by omega), if_pos h7])
  rw [e]; exact ⟨rfl, rfl, fun x => absurd (show (3 : Nat) = 0 from x) (by decide)⟩
theorem run_k0 {q : Nat → Nat} {n h c a p e k v ln s i : Nat} {so nu l1 s2 n3 : Nat → Nat} {R : Nat × Nat × PT9} (hR : runT q n h c a (s, i, ln, so, nu) = R) (hc : n < a + c) (hT : TKI q n a p e k v) (h0 : k = 0) (hs : s < 9) : rdRes R (nI 1) p l1 s2 n3 := by
  have e := run_end hR hc hT h0
  simp only at e
  rw [if_neg (by omega)] at e
  rw [e]; exact ⟨rfl, rfl, fun x => absurd (show (1 : Nat) = 0 from x) (by decide)⟩
theorem run_f4 {q : Nat → Nat} {n h c a p e k v ln s i : Nat} {so nu l1 s2 n3 : Nat → Nat} {R : Nat × Nat × PT9} (hR : runT q n h c a (s, i, ln, so, nu) = R) (hc : n < a + c) (hT : TKI q n a p e k v) (h1 : ¬ k = 1) (hi : i < arM s ∧ s < 9) (hs : s < 9) : rdRes R (nI 1) p l1 s2 n3 := by
  by_cases h0 : k = 0
  · exact run_k0 hR hc hT h0 hs
  · have e := run_bad (r := 1) (y := (s, i, ln, so, nu)) hR hc hT h0 (by decide) (by unfold tokS; simp only; rw [if_neg (by omega), if_pos hi.1, if_neg h1])
    rw [e]; exact ⟨rfl, rfl, fun x => absurd (show (1 : Nat) = 0 from x) (by decide)⟩
theorem run_f2 {q : Nat → Nat} {n h c a p e k v ln s i : Nat} {so nu l1 s2 n3 : Nat → Nat} {R : Nat × Nat × PT9} (hR : runT q n h c a (s, i, ln, so, nu) = R) (hc : n < a + c) (hT : TKI q n a p e k v) (h1 : k = 1) (hi : i < arM s ∧ s < 9) (_ : s < 9) (hm : ¬ mayM h s i v) : rdRes R (nI 2) p l1 s2 n3 := by
  have e := run_bad (r := 2) (y := (s, i, ln, so, nu)) hR hc hT (by omega) (by decide) (by unfold tokS; simp only; rw [if_neg (by omega), if_pos hi.1, if_pos h1, if_neg hm])
  rw [e]; exact ⟨rfl, rfl, fun x => absurd (show (2 : Nat) = 0 from x) (by decide)⟩
theorem run_f5 {q : Nat → Nat} {n h c a p e k v ln s i : Nat} {so nu l1 s2 n3 : Nat → Nat} {R : Nat × Nat × PT9} (hR : runT q n h c a (s, i, ln, so, nu) = R) (hc : n < a + c) (hT : TKI q n a p e k v) (hi : ¬ i < arM s ∧ s < 9) (hs : s < 9) (h2 : ¬ k = 2) : rdRes R (nI 1) p l1 s2 n3 := by
  by_cases h0 : k = 0
  · exact run_k0 hR hc hT h0 hs
  · have e := run_bad (r := 1) (y := (s, i, ln, so, nu)) hR hc hT h0 (by decide) (by unfold tokS; simp only; rw [if_neg (by omega), if_neg hi.1, if_neg h2])
    rw [e]; exact ⟨rfl, rfl, fun x => absurd (show (1 : Nat) = 0 from x) (by decide)⟩
theorem run_f0 {q : Nat → Nat} {n h c a p e k v : Nat} {l1 s2 n3 : Nat → Nat} {R : Nat × Nat × PT9} (hR : runT q n h c a (9, 0, l1 4, fun j => s2 (32 + j), fun j => n3 (128 + j)) = R) (hc : n < a + c) (hT : TKI q n a p e k v) (h0 : k = 0) : rdRes R (nI 0) p l1 s2 n3 := by
  have e := run_end hR hc hT h0
  simp only [reduceIte] at e
  rw [e]; exact ⟨rfl, rfl, fun _ => ⟨rfl, rfl, rfl⟩⟩
set_option maxHeartbeats 4000000 in
set_option maxRecDepth 100000 in
theorem c_X5_readProgram (l : Launch) (D : va_G) (ad : Nat → Nat) (ka : Nat → ClassId) (f : Nat → Nat) (g : Nat → Nat → Nat) (t : Nat → Nat) (sz : Nat) (h : Nat) (hg : ∀ a, a < 6 → ∀ i, g a i < 2147483648) (h7 : f 7 ≤ 200) (hq : ∀ i, g 6 i < 256) (hh : h < 2) : Met l yX5_readProgram (.code yX5_readProgram cX5_readProgram 5 (some .int) :: wsL_law) ({ frames := 3, cells := 0, slots := 0, locals := 67 }) (va_Pc [.ref (ad 0), .int (nI h)] (PW D (mW ad ka f g t) (mT ka) sz)) (va_Qi (fun (r : Int32) (u : MSt) => ∃ e p k v l1 s2 n3, u = (upN (upN (upN (upN f 10 e) 11 p) 12 k) 13 v, upA (upA (upA g 1 l1) 2 s2) 3 n3, t) ∧ rdKeep g l1 s2 n3 ∧ rdRes (runT (g 6) (f 7) h 201 0 (9, 0, 0, fun j => g 2 (32 + j), fun j => g 3 (128 + j))) r p l1 s2 n3) (QW D (fun u : MSt => mW ad ka u.1 u.2.1 u.2.2) (fun _ => mT ka) (va_A (mW ad ka f g t) sz)) (va_A (mW ad ka f g t) sz)) 0 0 (va_A (mW ad ka f g t) sz) := by
  refine Met.ofW (cc := cX5_readProgram) (maxL := 5) (ret := (some .int)) (by decide) rfl ?_
  intro p e s m args below meth c s₁ B hml hv
  obtain ⟨rfl, hsz, hP, hK, hD0⟩ := hv
  have hx := B.exec
  have hb := B.bytes
  have hr := B.returns
  have hts := atoms_spec (ws := .code yX5_readProgram cX5_readProgram 5 (some .int) :: wsL_law) B.pre
  have hU : ∀ w ∈ wsL_law, w.before _ s = true := fun w h => hts w (List.mem_cons_of_mem _ h)
  have hown : s.vm.findClass RX5 = some m.cls := findClass_of_methodNamed B.named
  have hlocks := B.notSynchronized
  subst hsz
  have hD := hD0.self (sz := s.heap.size)
  generalize hAe : va_A (mW ad ka f g t) s.heap.size = Ar at hD ⊢
  have hA : ∀ q : Nat, s.heap.size ≤ q → Ar q := fun q h => by rw [← hAe]; exact Or.inr h
  have hS : va_S Ar s.heap s.heap [] := va_S.rf
  have hP : va_P D vwCl [(ad 0, .inr (5, [.ref (ad 1), .ref (ad 2), .ref (ad 3), .ref (ad 4), .ref (ad 5), .int (nI (f 5)), .ref (ad 6), .int (nI (f 7)), .int (nI (f 8)), .int (nI (f 9)), .int (nI (f 10)), .int (nI (f 11)), .int (nI (f 12)), .int (nI (f 13)), .ref (ad 7), .ref (ad 8), .ref (ad 9), .ref (ad 10), .ref (ad 11), .int (nI (f 19)), .int (nI (f 20)), .int (nI (f 21)), .ref (ad 12)])), (ad 1, .inl (ka 1, 5, .inl (nA (g 1)))), (ad 2, .inl (ka 2, 40, .inl (nA (g 2)))), (ad 3, .inl (ka 3, 160, .inl (nA (g 3)))), (ad 4, .inl (ka 4, 4, .inl (nA (g 4)))), (ad 5, .inl (ka 5, 4, .inl (nA (g 5)))), (ad 6, .inl (ka 6, 200, .inl (nA (g 6)))), (ad 7, .inl (ka 7, 12001, .inr (.inl (lA t)))), (ad 8, .inl (ka 8, 12001, .inl (nA (g 8)))), (ad 9, .inl (ka 9, 12001, .inl (nA (g 9)))), (ad 10, .inl (ka 10, 12001, .inl (nA (g 10)))), (ad 11, .inl (ka 11, 32768, .inl (nA (g 11)))), (ad 12, .inl (ka 12, 64, .inl (nA (g 12))))] s.heap := hP
  have hD : va_D Ar [(ad 0, .inr (5, [.ref (ad 1), .ref (ad 2), .ref (ad 3), .ref (ad 4), .ref (ad 5), .int (nI (f 5)), .ref (ad 6), .int (nI (f 7)), .int (nI (f 8)), .int (nI (f 9)), .int (nI (f 10)), .int (nI (f 11)), .int (nI (f 12)), .int (nI (f 13)), .ref (ad 7), .ref (ad 8), .ref (ad 9), .ref (ad 10), .ref (ad 11), .int (nI (f 19)), .int (nI (f 20)), .int (nI (f 21)), .ref (ad 12)])), (ad 1, .inl (ka 1, 5, .inl (nA (g 1)))), (ad 2, .inl (ka 2, 40, .inl (nA (g 2)))), (ad 3, .inl (ka 3, 160, .inl (nA (g 3)))), (ad 4, .inl (ka 4, 4, .inl (nA (g 4)))), (ad 5, .inl (ka 5, 4, .inl (nA (g 5)))), (ad 6, .inl (ka 6, 200, .inl (nA (g 6)))), (ad 7, .inl (ka 7, 12001, .inr (.inl (lA t)))), (ad 8, .inl (ka 8, 12001, .inl (nA (g 8)))), (ad 9, .inl (ka 9, 12001, .inl (nA (g 9)))), (ad 10, .inl (ka 10, 12001, .inl (nA (g 10)))), (ad 11, .inl (ka 11, 32768, .inl (nA (g 11)))), (ad 12, .inl (ka 12, 64, .inl (nA (g 12))))] := hD
  generalize hQ : MQ _ _ _ _ _ _ _ = Q
  have hl := lv_entry ([.ref (ad 0), .int (nI h)]) (n := 5) (Nat.le_of_ble_eq_true rfl)
  rw [lg_entry_eq]
  generalize (lg_sl ([.ref (ad 0), .int (nI h)]) ++ List.replicate (5 - (lg_sl ([.ref (ad 0), .int (nI h)])).length) Slot.unset).toArray = ls at hl ⊢
  have hl : lv_has ls 5 [(0, .ref (ad 0)), (1, .int (nI h))] := hl
  refine lv_aload_n hx hb dX5_readProgram_0 rfl (lv_at hl 0 rfl) ?_
  refine va_get (D := D) (ci := 5) (v := .ref (ad 1)) (C := RX5) (T := TX5) (N := 23) hx hb hU iX5 hown hK hP 0 rfl rfl 0 (by decide) (hU _ mU_75) (fun _ h9 => h9) rfl dX5_readProgram_1 ?_
  refine lv_iconst (v := nI 4) hx hb dX5_readProgram_4 (by decide) ?_
  refine lv_iconst (v := nI 0) hx hb dX5_readProgram_5 (by decide) ?_
  refine n_iast hx hb hK hP hD hS 1 0 rfl rfl (i := 4) (v := 0) (by omega) (by decide) dX5_readProgram_6 (fun H locs hP hD hS => ?_)
  have hP : va_P D vwCl [(ad 0, .inr (5, [.ref (ad 1), .ref (ad 2), .ref (ad 3), .ref (ad 4), .ref (ad 5), .int (nI (f 5)), .ref (ad 6), .int (nI (f 7)), .int (nI (f 8)), .int (nI (f 9)), .int (nI (f 10)), .int (nI (f 11)), .int (nI (f 12)), .int (nI (f 13)), .ref (ad 7), .ref (ad 8), .ref (ad 9), .ref (ad 10), .ref (ad 11), .int (nI (f 19)), .int (nI (f 20)), .int (nI (f 21)), .ref (ad 12)])), (ad 1, .inl (ka 1, 5, .inl (nA (upN (g 1) 4 0)))), (ad 2, .inl (ka 2, 40, .inl (nA (g 2)))), (ad 3, .inl (ka 3, 160, .inl (nA (g 3)))), (ad 4, .inl (ka 4, 4, .inl (nA (g 4)))), (ad 5, .inl (ka 5, 4, .inl (nA (g 5)))), (ad 6, .inl (ka 6, 200, .inl (nA (g 6)))), (ad 7, .inl (ka 7, 12001, .inr (.inl (lA t)))), (ad 8, .inl (ka 8, 12001, .inl (nA (g 8)))), (ad 9, .inl (ka 9, 12001, .inl (nA (g 9)))), (ad 10, .inl (ka 10, 12001, .inl (nA (g 10)))), (ad 11, .inl (ka 11, 32768, .inl (nA (g 11)))), (ad 12, .inl (ka 12, 64, .inl (nA (g 12))))] H := hP
  have hD : va_D Ar [(ad 0, .inr (5, [.ref (ad 1), .ref (ad 2), .ref (ad 3), .ref (ad 4), .ref (ad 5), .int (nI (f 5)), .ref (ad 6), .int (nI (f 7)), .int (nI (f 8)), .int (nI (f 9)), .int (nI (f 10)), .int (nI (f 11)), .int (nI (f 12)), .int (nI (f 13)), .ref (ad 7), .ref (ad 8), .ref (ad 9), .ref (ad 10), .ref (ad 11), .int (nI (f 19)), .int (nI (f 20)), .int (nI (f 21)), .ref (ad 12)])), (ad 1, .inl (ka 1, 5, .inl (nA (upN (g 1) 4 0)))), (ad 2, .inl (ka 2, 40, .inl (nA (g 2)))), (ad 3, .inl (ka 3, 160, .inl (nA (g 3)))), (ad 4, .inl (ka 4, 4, .inl (nA (g 4)))), (ad 5, .inl (ka 5, 4, .inl (nA (g 5)))), (ad 6, .inl (ka 6, 200, .inl (nA (g 6)))), (ad 7, .inl (ka 7, 12001, .inr (.inl (lA t)))), (ad 8, .inl (ka 8, 12001, .inl (nA (g 8)))), (ad 9, .inl (ka 9, 12001, .inl (nA (g 9)))), (ad 10, .inl (ka 10, 12001, .inl (nA (g 10)))), (ad 11, .inl (ka 11, 32768, .inl (nA (g 11)))), (ad 12, .inl (ka 12, 64, .inl (nA (g 12))))] := hD
  refine lv_aload_n hx hb dX5_readProgram_7 rfl (lv_at hl 0 rfl) ?_
  refine lv_iconst (v := nI 0) hx hb dX5_readProgram_8 (by decide) ?_
  refine va_put (D := D) (ci := 5) (v := .int (nI 0)) (ty := .int) (C := RX5) (T := TX5) (N := 23) hx hb hU iX5 tyX5 tyX5_ok nmX5 hown hK hP hD hS 0 rfl rfl 10 (by decide) (hU _ mU_253) (fun _ h9 => h9) rfl (by decide +kernel) rfl rfl (Nat.le_of_ble_eq_true rfl) dX5_readProgram_9 (fun H locs hP hD hS => ?_)
  have hP : va_P D vwCl [(ad 0, .inr (5, [.ref (ad 1), .ref (ad 2), .ref (ad 3), .ref (ad 4), .ref (ad 5), .int (nI (f 5)), .ref (ad 6), .int (nI (f 7)), .int (nI (f 8)), .int (nI (f 9)), .int (nI 0), .int (nI (f 11)), .int (nI (f 12)), .int (nI (f 13)), .ref (ad 7), .ref (ad 8), .ref (ad 9), .ref (ad 10), .ref (ad 11), .int (nI (f 19)), .int (nI (f 20)), .int (nI (f 21)), .ref (ad 12)])), (ad 1, .inl (ka 1, 5, .inl (nA (upN (g 1) 4 0)))), (ad 2, .inl (ka 2, 40, .inl (nA (g 2)))), (ad 3, .inl (ka 3, 160, .inl (nA (g 3)))), (ad 4, .inl (ka 4, 4, .inl (nA (g 4)))), (ad 5, .inl (ka 5, 4, .inl (nA (g 5)))), (ad 6, .inl (ka 6, 200, .inl (nA (g 6)))), (ad 7, .inl (ka 7, 12001, .inr (.inl (lA t)))), (ad 8, .inl (ka 8, 12001, .inl (nA (g 8)))), (ad 9, .inl (ka 9, 12001, .inl (nA (g 9)))), (ad 10, .inl (ka 10, 12001, .inl (nA (g 10)))), (ad 11, .inl (ka 11, 32768, .inl (nA (g 11)))), (ad 12, .inl (ka 12, 64, .inl (nA (g 12))))] H := hP
  have hD : va_D Ar [(ad 0, .inr (5, [.ref (ad 1), .ref (ad 2), .ref (ad 3), .ref (ad 4), .ref (ad 5), .int (nI (f 5)), .ref (ad 6), .int (nI (f 7)), .int (nI (f 8)), .int (nI (f 9)), .int (nI 0), .int (nI (f 11)), .int (nI (f 12)), .int (nI (f 13)), .ref (ad 7), .ref (ad 8), .ref (ad 9), .ref (ad 10), .ref (ad 11), .int (nI (f 19)), .int (nI (f 20)), .int (nI (f 21)), .ref (ad 12)])), (ad 1, .inl (ka 1, 5, .inl (nA (upN (g 1) 4 0)))), (ad 2, .inl (ka 2, 40, .inl (nA (g 2)))), (ad 3, .inl (ka 3, 160, .inl (nA (g 3)))), (ad 4, .inl (ka 4, 4, .inl (nA (g 4)))), (ad 5, .inl (ka 5, 4, .inl (nA (g 5)))), (ad 6, .inl (ka 6, 200, .inl (nA (g 6)))), (ad 7, .inl (ka 7, 12001, .inr (.inl (lA t)))), (ad 8, .inl (ka 8, 12001, .inl (nA (g 8)))), (ad 9, .inl (ka 9, 12001, .inl (nA (g 9)))), (ad 10, .inl (ka 10, 12001, .inl (nA (g 10)))), (ad 11, .inl (ka 11, 32768, .inl (nA (g 11)))), (ad 12, .inl (ka 12, 64, .inl (nA (g 12))))] := hD
  refine lv_aload_n hx hb dX5_readProgram_12 rfl (lv_at hl 0 rfl) ?_
  refine kVv (As := []) (rest := []) (wr := []) ⟨hx, hb, hml, hown, hts⟩ (c_X5_nextToken l D ad ka (upN (f) 10 (0)) (upA (g) 1 (upN (g 1) 4 0)) t H.size  (show (f 7) ≤ 200 from h7) (show ∀ i, (g 6) i < 256 from hq) (show 0 ≤ (f 7) from by omega)) (cwV 0 hts (gV mU_256 mU_257 mU_258 mU_6 mU_259) rfl rfl rfl (by decide +kernel) ⟨Nat.le_of_ble_eq_true rfl, Nat.le_of_ble_eq_true rfl⟩) (va_recv hK hP (ci := 5) (q0 := 0) rfl rfl) hP hK hD hS hA [0, 1, 2, 3, 4, 5, 6, 7, 8, 9, 10, 11, 12] [] [0, 1, 2, 3, 4, 5, 6, 7, 8, 9, 10, 11] [] rfl rfl rfl rfl (by decide) rfl rfl rfl hl.1 rfl (Nat.le_of_ble_eq_true rfl) dX5_readProgram_13 ⟨by decide, by decide⟩ (fun u H locs hw hP hD hK hS => ?_)
  obtain ⟨p1, e1, k1, v1, hu, hTr⟩ := hw
  subst hu
  have hTk1 : TKI (g 6) (f 7) (0) p1 e1 k1 v1 := TokR_F (v0 := (f 13)) hTr
  have hkb1 : k1 < 13 := kF_lt hTk1
  have hP : va_P D vwCl [(ad 0, .inr (5, [.ref (ad 1), .ref (ad 2), .ref (ad 3), .ref (ad 4), .ref (ad 5), .int (nI (f 5)), .ref (ad 6), .int (nI (f 7)), .int (nI (f 8)), .int (nI (f 9)), .int (nI e1), .int (nI p1), .int (nI k1), .int (nI v1), .ref (ad 7), .ref (ad 8), .ref (ad 9), .ref (ad 10), .ref (ad 11), .int (nI (f 19)), .int (nI (f 20)), .int (nI (f 21)), .ref (ad 12)])), (ad 1, .inl (ka 1, 5, .inl (nA (upN (g 1) 4 0)))), (ad 2, .inl (ka 2, 40, .inl (nA (g 2)))), (ad 3, .inl (ka 3, 160, .inl (nA (g 3)))), (ad 4, .inl (ka 4, 4, .inl (nA (g 4)))), (ad 5, .inl (ka 5, 4, .inl (nA (g 5)))), (ad 6, .inl (ka 6, 200, .inl (nA (g 6)))), (ad 7, .inl (ka 7, 12001, .inr (.inl (lA t)))), (ad 8, .inl (ka 8, 12001, .inl (nA (g 8)))), (ad 9, .inl (ka 9, 12001, .inl (nA (g 9)))), (ad 10, .inl (ka 10, 12001, .inl (nA (g 10)))), (ad 11, .inl (ka 11, 32768, .inl (nA (g 11)))), (ad 12, .inl (ka 12, 64, .inl (nA (g 12))))] H := hP
  have hD : va_D Ar [(ad 0, .inr (5, [.ref (ad 1), .ref (ad 2), .ref (ad 3), .ref (ad 4), .ref (ad 5), .int (nI (f 5)), .ref (ad 6), .int (nI (f 7)), .int (nI (f 8)), .int (nI (f 9)), .int (nI e1), .int (nI p1), .int (nI k1), .int (nI v1), .ref (ad 7), .ref (ad 8), .ref (ad 9), .ref (ad 10), .ref (ad 11), .int (nI (f 19)), .int (nI (f 20)), .int (nI (f 21)), .ref (ad 12)])), (ad 1, .inl (ka 1, 5, .inl (nA (upN (g 1) 4 0)))), (ad 2, .inl (ka 2, 40, .inl (nA (g 2)))), (ad 3, .inl (ka 3, 160, .inl (nA (g 3)))), (ad 4, .inl (ka 4, 4, .inl (nA (g 4)))), (ad 5, .inl (ka 5, 4, .inl (nA (g 5)))), (ad 6, .inl (ka 6, 200, .inl (nA (g 6)))), (ad 7, .inl (ka 7, 12001, .inr (.inl (lA t)))), (ad 8, .inl (ka 8, 12001, .inl (nA (g 8)))), (ad 9, .inl (ka 9, 12001, .inl (nA (g 9)))), (ad 10, .inl (ka 10, 12001, .inl (nA (g 10)))), (ad 11, .inl (ka 11, 32768, .inl (nA (g 11)))), (ad 12, .inl (ka 12, 64, .inl (nA (g 12))))] := hD
  have hK : va_K D vwCl (mT ka) s := hK.sub [0, 1, 2, 3, 4, 5, 6, 7, 8, 9, 10, 11] rfl
  have L16_43 : ∀ (n : Nat) (cz : Nat) (a1 : Nat) (p1 : Nat) (e1 : Nat) (k1 : Nat) (v1 : Nat) (l1 : Nat → Nat) (s2 : Nat → Nat) (n3 : Nat → Nat), (TKI (g 6) (f 7) a1 p1 e1 k1 v1) → (k1 < 13) → (f 7 < a1 + cz) → (runT (g 6) (f 7) h cz a1 (9, 0, l1 4, (fun j => s2 (32 + j)), (fun j => n3 (128 + j))) = runT (g 6) (f 7) h 201 0 (9, 0, 0, fun j => g 2 (32 + j), fun j => g 3 (128 + j))) → (∀ j, j ≠ 4 → l1 j = g 1 j) → (∀ j, j < 32 → s2 j = g 2 j) → (∀ j, j < 128 → n3 j = g 3 j) → (∀ j, s2 j < 2147483648 ∧ n3 j < 2147483648) → (l1 4 ≤ 7) → cz < n → ∀ (H : Heap) (locs : List Loc), va_P D vwCl [(ad 0, .inr (5, [.ref (ad 1), .ref (ad 2), .ref (ad 3), .ref (ad 4), .ref (ad 5), .int (nI (f 5)), .ref (ad 6), .int (nI (f 7)), .int (nI (f 8)), .int (nI (f 9)), .int (nI e1), .int (nI p1), .int (nI k1), .int (nI v1), .ref (ad 7), .ref (ad 8), .ref (ad 9), .ref (ad 10), .ref (ad 11), .int (nI (f 19)), .int (nI (f 20)), .int (nI (f 21)), .ref (ad 12)])), (ad 1, .inl (ka 1, 5, .inl (nA l1))), (ad 2, .inl (ka 2, 40, .inl (nA s2))), (ad 3, .inl (ka 3, 160, .inl (nA n3))), (ad 4, .inl (ka 4, 4, .inl (nA (g 4)))), (ad 5, .inl (ka 5, 4, .inl (nA (g 5)))), (ad 6, .inl (ka 6, 200, .inl (nA (g 6)))), (ad 7, .inl (ka 7, 12001, .inr (.inl (lA t)))), (ad 8, .inl (ka 8, 12001, .inl (nA (g 8)))), (ad 9, .inl (ka 9, 12001, .inl (nA (g 9)))), (ad 10, .inl (ka 10, 12001, .inl (nA (g 10)))), (ad 11, .inl (ka 11, 32768, .inl (nA (g 11)))), (ad 12, .inl (ka 12, 64, .inl (nA (g 12))))] H → va_D Ar [(ad 0, .inr (5, [.ref (ad 1), .ref (ad 2), .ref (ad 3), .ref (ad 4), .ref (ad 5), .int (nI (f 5)), .ref (ad 6), .int (nI (f 7)), .int (nI (f 8)), .int (nI (f 9)), .int (nI e1), .int (nI p1), .int (nI k1), .int (nI v1), .ref (ad 7), .ref (ad 8), .ref (ad 9), .ref (ad 10), .ref (ad 11), .int (nI (f 19)), .int (nI (f 20)), .int (nI (f 21)), .ref (ad 12)])), (ad 1, .inl (ka 1, 5, .inl (nA l1))), (ad 2, .inl (ka 2, 40, .inl (nA s2))), (ad 3, .inl (ka 3, 160, .inl (nA n3))), (ad 4, .inl (ka 4, 4, .inl (nA (g 4)))), (ad 5, .inl (ka 5, 4, .inl (nA (g 5)))), (ad 6, .inl (ka 6, 200, .inl (nA (g 6)))), (ad 7, .inl (ka 7, 12001, .inr (.inl (lA t)))), (ad 8, .inl (ka 8, 12001, .inl (nA (g 8)))), (ad 9, .inl (ka 9, 12001, .inl (nA (g 9)))), (ad 10, .inl (ka 10, 12001, .inl (nA (g 10)))), (ad 11, .inl (ka 11, 32768, .inl (nA (g 11)))), (ad 12, .inl (ka 12, 64, .inl (nA (g 12))))] → va_S Ar s.heap H locs → ∀ ls : Array Slot, lv_has ls 5 [(0, .ref (ad 0)), (1, .int (nI h))] → W p l e ({ frames := 3, cells := 0, slots := 0, locals := 67 } : Room) s m (([.ref (ad 0), .int (nI h)] : List Value).toArray) below meth c H locs 0 0 Q (F0 m 16 ls []) := by
    intro n16
    induction n16 with
    | zero => intro cz a1 p1 e1 k1 v1 l1 s2 n3 hTk hkb hcn hR hl4 hs32 hn128 hbd hln hm16; exact absurd hm16 (Nat.not_lt_zero _)
    | succ n16 ih16 =>
      intro cz a1 p1 e1 k1 v1 l1 s2 n3 hTk hkb hcn hR hl4 hs32 hn128 hbd hln hm16 H locs hP hD hS ls hl
      refine lv_aload_n hx hb dX5_readProgram_16 rfl (lv_at hl 0 rfl) ?_
      refine va_get (D := D) (ci := 5) (v := .int (nI k1)) (C := RX5) (T := TX5) (N := 23) hx hb hU iX5 hown hK hP 0 rfl rfl 12 (by decide) (hU _ mU_254) (fun _ h9 => h9) rfl dX5_readProgram_17 ?_
      have hek := hTk.2.2.2.2.2.1
      refine lv_if_eq (tgt := 161) hx hb dX5_readProgram_20 (by decide) (fun c20_3 => ?_) (fun c20_3 => ?_)
      · have c20_3 : k1 = 0 := (nI_eqG (a := k1) (b := 0) (by omega) (by omega)).mp c20_3
        refine lv_iconst (v := nI 0) hx hb dX5_readProgram_161 (by decide) ?_
        subst hQ
        exact rwi (upN (upN (upN (upN f 10 (e1)) 11 (p1)) 12 (k1)) 13 (v1), upA (upA (upA g 1 (l1)) 2 (s2)) 3 (n3), t) hx hb hr hlocks (⟨_, _, _, _, _, _, _, rfl, ⟨⟨hl4, hln⟩, hs32, hn128, hbd⟩, run_f0 hR hcn hTk c20_3⟩) hP hK hD hS dX5_readProgram_162
      · have c20_3 : ¬ (k1 = 0) := fun h9 => c20_3 ((nI_eqG (a := k1) (b := 0) (by omega) (by omega)).mpr h9)
        refine lv_aload_n hx hb dX5_readProgram_23 rfl (lv_at hl 0 rfl) ?_
        refine va_get (D := D) (ci := 5) (v := .int (nI k1)) (C := RX5) (T := TX5) (N := 23) hx hb hU iX5 hown hK hP 0 rfl rfl 12 (by decide) (hU _ mU_254) (fun _ h9 => h9) rfl dX5_readProgram_24 ?_
        refine lv_iconst (v := nI 4) hx hb dX5_readProgram_27 (by decide) ?_
        refine lv_icmp_ge (tgt := 33) hx hb dX5_readProgram_28 (by decide) (fun c28_4 => ?_) (fun c28_4 => ?_)
        · have c28_4 : 4 ≤ k1 := (nI_leI (a := 4) (b := k1) (by omega) (by omega)).mp c28_4
          refine lv_aload_n hx hb dX5_readProgram_33 rfl (lv_at hl 0 rfl) ?_
          refine va_get (D := D) (ci := 5) (v := .ref (ad 1)) (C := RX5) (T := TX5) (N := 23) hx hb hU iX5 hown hK hP 0 rfl rfl 0 (by decide) (hU _ mU_75) (fun _ h9 => h9) rfl dX5_readProgram_34 ?_
          refine lv_iconst (v := nI 4) hx hb dX5_readProgram_37 (by decide) ?_
          refine n_iald hx hb hK hP 1 0 rfl rfl (i := 4) (by omega) (by decide) dX5_readProgram_38 ?_
          refine lv_topE (nI (l1 4)) (rfl) ?_
          refine lv_bipush (v := nI 7) hx hb dX5_readProgram_39 (by decide) ?_
          refine lv_icmp_ne (tgt := 46) hx hb dX5_readProgram_41 (by decide) (fun c41_5 => ?_) (fun c41_5 => ?_)
          · have c41_5 : ¬ (l1 4 = 7) := fun h9 => c41_5 ((nI_eqG (a := l1 4) (b := 7) (by omega) (by omega)).mpr h9)
            refine lv_bipush (v := nI 32) hx hb dX5_readProgram_46 (by decide) ?_
            refine lv_aload_n hx hb dX5_readProgram_48 rfl (lv_at hl 0 rfl) ?_
            refine va_get (D := D) (ci := 5) (v := .ref (ad 1)) (C := RX5) (T := TX5) (N := 23) hx hb hU iX5 hown hK hP 0 rfl rfl 0 (by decide) (hU _ mU_75) (fun _ h9 => h9) rfl dX5_readProgram_49 ?_
            refine lv_iconst (v := nI 4) hx hb dX5_readProgram_52 (by decide) ?_
            refine n_iald hx hb hK hP 1 0 rfl rfl (i := 4) (by omega) (by decide) dX5_readProgram_53 ?_
            refine lv_topE (nI (l1 4)) (rfl) ?_
            refine lv_iadd hx hb dX5_readProgram_54 ?_
            refine lv_topE (nI (32 + (l1 4))) (nI_add _ _) ?_
            refine lv_istore_n (lv' := [(2, .int (nI (32 + (l1 4)))), (0, .ref (ad 0)), (1, .int (nI h))]) hx hb dX5_readProgram_55 rfl hl (by decide) rfl (fun ls hl => ?_)
            refine lv_aload_n hx hb dX5_readProgram_56 rfl (lv_at hl 1 rfl) ?_
            refine va_get (D := D) (ci := 5) (v := .int (nI k1)) (C := RX5) (T := TX5) (N := 23) hx hb hU iX5 hown hK hP 0 rfl rfl 12 (by decide) (hU _ mU_254) (fun _ h9 => h9) rfl dX5_readProgram_57 ?_
            refine lv_iconst (v := nI 4) hx hb dX5_readProgram_60 (by decide) ?_
            refine lv_isub hx hb dX5_readProgram_61 ?_
            refine lv_topE (nI (k1 - 4)) (pk_sub (by omega)) ?_
            refine lv_istore_n (lv' := [(3, .int (nI (k1 - 4))), (2, .int (nI (32 + (l1 4)))), (0, .ref (ad 0)), (1, .int (nI h))]) hx hb dX5_readProgram_62 rfl hl (by decide) rfl (fun ls hl => ?_)
            refine lv_aload_n hx hb dX5_readProgram_63 rfl (lv_at hl 2 rfl) ?_
            refine va_get (D := D) (ci := 5) (v := .ref (ad 2)) (C := RX5) (T := TX5) (N := 23) hx hb hU iX5 hown hK hP 0 rfl rfl 1 (by decide) (hU _ mU_76) (fun _ h9 => h9) rfl dX5_readProgram_64 ?_
            refine lv_iload_n hx hb dX5_readProgram_67 rfl (lv_at hl 1 rfl) ?_
            refine lv_iload_n hx hb dX5_readProgram_68 rfl (lv_at hl 0 rfl) ?_
            refine n_iast hx hb hK hP hD hS 2 1 rfl rfl (i := 32 + (l1 4)) (v := k1 - 4) (by omega) (by decide) dX5_readProgram_69 (fun H locs hP hD hS => ?_)
            have hP : va_P D vwCl [(ad 0, .inr (5, [.ref (ad 1), .ref (ad 2), .ref (ad 3), .ref (ad 4), .ref (ad 5), .int (nI (f 5)), .ref (ad 6), .int (nI (f 7)), .int (nI (f 8)), .int (nI (f 9)), .int (nI e1), .int (nI p1), .int (nI k1), .int (nI v1), .ref (ad 7), .ref (ad 8), .ref (ad 9), .ref (ad 10), .ref (ad 11), .int (nI (f 19)), .int (nI (f 20)), .int (nI (f 21)), .ref (ad 12)])), (ad 1, .inl (ka 1, 5, .inl (nA l1))), (ad 2, .inl (ka 2, 40, .inl (nA (upN s2 (32 + (l1 4)) (k1 - 4))))), (ad 3, .inl (ka 3, 160, .inl (nA n3))), (ad 4, .inl (ka 4, 4, .inl (nA (g 4)))), (ad 5, .inl (ka 5, 4, .inl (nA (g 5)))), (ad 6, .inl (ka 6, 200, .inl (nA (g 6)))), (ad 7, .inl (ka 7, 12001, .inr (.inl (lA t)))), (ad 8, .inl (ka 8, 12001, .inl (nA (g 8)))), (ad 9, .inl (ka 9, 12001, .inl (nA (g 9)))), (ad 10, .inl (ka 10, 12001, .inl (nA (g 10)))), (ad 11, .inl (ka 11, 32768, .inl (nA (g 11)))), (ad 12, .inl (ka 12, 64, .inl (nA (g 12))))] H := hP
            have hD : va_D Ar [(ad 0, .inr (5, [.ref (ad 1), .ref (ad 2), .ref (ad 3), .ref (ad 4), .ref (ad 5), .int (nI (f 5)), .ref (ad 6), .int (nI (f 7)), .int (nI (f 8)), .int (nI (f 9)), .int (nI e1), .int (nI p1), .int (nI k1), .int (nI v1), .ref (ad 7), .ref (ad 8), .ref (ad 9), .ref (ad 10), .ref (ad 11), .int (nI (f 19)), .int (nI (f 20)), .int (nI (f 21)), .ref (ad 12)])), (ad 1, .inl (ka 1, 5, .inl (nA l1))), (ad 2, .inl (ka 2, 40, .inl (nA (upN s2 (32 + (l1 4)) (k1 - 4))))), (ad 3, .inl (ka 3, 160, .inl (nA n3))), (ad 4, .inl (ka 4, 4, .inl (nA (g 4)))), (ad 5, .inl (ka 5, 4, .inl (nA (g 5)))), (ad 6, .inl (ka 6, 200, .inl (nA (g 6)))), (ad 7, .inl (ka 7, 12001, .inr (.inl (lA t)))), (ad 8, .inl (ka 8, 12001, .inl (nA (g 8)))), (ad 9, .inl (ka 9, 12001, .inl (nA (g 9)))), (ad 10, .inl (ka 10, 12001, .inl (nA (g 10)))), (ad 11, .inl (ka 11, 32768, .inl (nA (g 11)))), (ad 12, .inl (ka 12, 64, .inl (nA (g 12))))] := hD
            refine lv_aload_n hx hb dX5_readProgram_70 rfl (lv_at hl 2 rfl) ?_
            refine kVv (As := []) (rest := []) (wr := []) ⟨hx, hb, hml, hown, hts⟩ (c_X5_nextToken l D ad ka (upN (upN (upN (upN (f) 10 (e1)) 11 (p1)) 12 (k1)) 13 (v1)) (upA (upA (upA (g) 1 (l1)) 2 (upN s2 (32 + (l1 4)) (k1 - 4))) 3 (n3)) t H.size  (show (f 7) ≤ 200 from h7) (show ∀ i, (g 6) i < 256 from hq) (show e1 ≤ (f 7) from by omega)) (cwV 0 hts (gV mU_256 mU_257 mU_258 mU_6 mU_259) rfl rfl rfl (by decide +kernel) ⟨Nat.le_of_ble_eq_true rfl, Nat.le_of_ble_eq_true rfl⟩) (va_recv hK hP (ci := 5) (q0 := 0) rfl rfl) hP hK hD hS hA [0, 1, 2, 3, 4, 5, 6, 7, 8, 9, 10, 11, 12] [] [0, 1, 2, 3, 4, 5, 6, 7, 8, 9, 10, 11] [] rfl rfl rfl rfl (by decide) rfl rfl rfl hl.1 rfl (Nat.le_of_ble_eq_true rfl) dX5_readProgram_71 ⟨by decide, by decide⟩ (fun u H locs hw hP hD hK hS => ?_)
            obtain ⟨p6, e6, k6, v6, hu, hTr⟩ := hw
            subst hu
            have hTk6 : TKI (g 6) (f 7) (e1) p6 e6 k6 v6 := TokR_F (v0 := v1) hTr
            have hkb6 : k6 < 13 := kF_lt hTk6
            have hP : va_P D vwCl [(ad 0, .inr (5, [.ref (ad 1), .ref (ad 2), .ref (ad 3), .ref (ad 4), .ref (ad 5), .int (nI (f 5)), .ref (ad 6), .int (nI (f 7)), .int (nI (f 8)), .int (nI (f 9)), .int (nI e6), .int (nI p6), .int (nI k6), .int (nI v6), .ref (ad 7), .ref (ad 8), .ref (ad 9), .ref (ad 10), .ref (ad 11), .int (nI (f 19)), .int (nI (f 20)), .int (nI (f 21)), .ref (ad 12)])), (ad 1, .inl (ka 1, 5, .inl (nA l1))), (ad 2, .inl (ka 2, 40, .inl (nA (upN s2 (32 + (l1 4)) (k1 - 4))))), (ad 3, .inl (ka 3, 160, .inl (nA n3))), (ad 4, .inl (ka 4, 4, .inl (nA (g 4)))), (ad 5, .inl (ka 5, 4, .inl (nA (g 5)))), (ad 6, .inl (ka 6, 200, .inl (nA (g 6)))), (ad 7, .inl (ka 7, 12001, .inr (.inl (lA t)))), (ad 8, .inl (ka 8, 12001, .inl (nA (g 8)))), (ad 9, .inl (ka 9, 12001, .inl (nA (g 9)))), (ad 10, .inl (ka 10, 12001, .inl (nA (g 10)))), (ad 11, .inl (ka 11, 32768, .inl (nA (g 11)))), (ad 12, .inl (ka 12, 64, .inl (nA (g 12))))] H := hP
            have hD : va_D Ar [(ad 0, .inr (5, [.ref (ad 1), .ref (ad 2), .ref (ad 3), .ref (ad 4), .ref (ad 5), .int (nI (f 5)), .ref (ad 6), .int (nI (f 7)), .int (nI (f 8)), .int (nI (f 9)), .int (nI e6), .int (nI p6), .int (nI k6), .int (nI v6), .ref (ad 7), .ref (ad 8), .ref (ad 9), .ref (ad 10), .ref (ad 11), .int (nI (f 19)), .int (nI (f 20)), .int (nI (f 21)), .ref (ad 12)])), (ad 1, .inl (ka 1, 5, .inl (nA l1))), (ad 2, .inl (ka 2, 40, .inl (nA (upN s2 (32 + (l1 4)) (k1 - 4))))), (ad 3, .inl (ka 3, 160, .inl (nA n3))), (ad 4, .inl (ka 4, 4, .inl (nA (g 4)))), (ad 5, .inl (ka 5, 4, .inl (nA (g 5)))), (ad 6, .inl (ka 6, 200, .inl (nA (g 6)))), (ad 7, .inl (ka 7, 12001, .inr (.inl (lA t)))), (ad 8, .inl (ka 8, 12001, .inl (nA (g 8)))), (ad 9, .inl (ka 9, 12001, .inl (nA (g 9)))), (ad 10, .inl (ka 10, 12001, .inl (nA (g 10)))), (ad 11, .inl (ka 11, 32768, .inl (nA (g 11)))), (ad 12, .inl (ka 12, 64, .inl (nA (g 12))))] := hD
            have hK : va_K D vwCl (mT ka) s := hK.sub [0, 1, 2, 3, 4, 5, 6, 7, 8, 9, 10, 11] rfl
            refine lv_iconst (v := nI 0) hx hb dX5_readProgram_74 (by decide) ?_
            refine lv_istore (lv' := [(4, .int (nI 0)), (3, .int (nI (k1 - 4))), (2, .int (nI (32 + (l1 4)))), (0, .ref (ad 0)), (1, .int (nI h))]) hx hb dX5_readProgram_75 hl (by decide) rfl (fun ls hl => ?_)
            have L77_104 : ∀ (n : Nat) (i : Nat) (cx : Nat) (ax : Nat) (px : Nat) (ex : Nat) (kx : Nat) (vx : Nat) (nx : Nat → Nat), (i ≤ arM (k1 - 4)) → (TKI (g 6) (f 7) ax px ex kx vx) → (kx < 13) → (f 7 < ax + cx) → (cx < cz) → (runT (g 6) (f 7) h cx ax (k1 - 4, i, l1 4, fun j => upN s2 (32 + l1 4) (k1 - 4) (32 + j), fun j => nx (128 + j)) = runT (g 6) (f 7) h 201 0 (9, 0, 0, fun j => g 2 (32 + j), fun j => g 3 (128 + j))) → (∀ j, j < 128 → nx j = g 3 j) → (∀ j, upN s2 (32 + l1 4) (k1 - 4) j < 2147483648 ∧ nx j < 2147483648) → (arM (k1 - 4) - i) < n → ∀ (H : Heap) (locs : List Loc), va_P D vwCl [(ad 0, .inr (5, [.ref (ad 1), .ref (ad 2), .ref (ad 3), .ref (ad 4), .ref (ad 5), .int (nI (f 5)), .ref (ad 6), .int (nI (f 7)), .int (nI (f 8)), .int (nI (f 9)), .int (nI ex), .int (nI px), .int (nI kx), .int (nI vx), .ref (ad 7), .ref (ad 8), .ref (ad 9), .ref (ad 10), .ref (ad 11), .int (nI (f 19)), .int (nI (f 20)), .int (nI (f 21)), .ref (ad 12)])), (ad 1, .inl (ka 1, 5, .inl (nA l1))), (ad 2, .inl (ka 2, 40, .inl (nA (upN s2 (32 + l1 4) (k1 - 4))))), (ad 3, .inl (ka 3, 160, .inl (nA nx))), (ad 4, .inl (ka 4, 4, .inl (nA (g 4)))), (ad 5, .inl (ka 5, 4, .inl (nA (g 5)))), (ad 6, .inl (ka 6, 200, .inl (nA (g 6)))), (ad 7, .inl (ka 7, 12001, .inr (.inl (lA t)))), (ad 8, .inl (ka 8, 12001, .inl (nA (g 8)))), (ad 9, .inl (ka 9, 12001, .inl (nA (g 9)))), (ad 10, .inl (ka 10, 12001, .inl (nA (g 10)))), (ad 11, .inl (ka 11, 32768, .inl (nA (g 11)))), (ad 12, .inl (ka 12, 64, .inl (nA (g 12))))] H → va_D Ar [(ad 0, .inr (5, [.ref (ad 1), .ref (ad 2), .ref (ad 3), .ref (ad 4), .ref (ad 5), .int (nI (f 5)), .ref (ad 6), .int (nI (f 7)), .int (nI (f 8)), .int (nI (f 9)), .int (nI ex), .int (nI px), .int (nI kx), .int (nI vx), .ref (ad 7), .ref (ad 8), .ref (ad 9), .ref (ad 10), .ref (ad 11), .int (nI (f 19)), .int (nI (f 20)), .int (nI (f 21)), .ref (ad 12)])), (ad 1, .inl (ka 1, 5, .inl (nA l1))), (ad 2, .inl (ka 2, 40, .inl (nA (upN s2 (32 + l1 4) (k1 - 4))))), (ad 3, .inl (ka 3, 160, .inl (nA nx))), (ad 4, .inl (ka 4, 4, .inl (nA (g 4)))), (ad 5, .inl (ka 5, 4, .inl (nA (g 5)))), (ad 6, .inl (ka 6, 200, .inl (nA (g 6)))), (ad 7, .inl (ka 7, 12001, .inr (.inl (lA t)))), (ad 8, .inl (ka 8, 12001, .inl (nA (g 8)))), (ad 9, .inl (ka 9, 12001, .inl (nA (g 9)))), (ad 10, .inl (ka 10, 12001, .inl (nA (g 10)))), (ad 11, .inl (ka 11, 32768, .inl (nA (g 11)))), (ad 12, .inl (ka 12, 64, .inl (nA (g 12))))] → va_S Ar s.heap H locs → ∀ ls : Array Slot, lv_has ls 5 [(0, .ref (ad 0)), (1, .int (nI h)), (2, .int (nI (32 + l1 4))), (3, .int (nI (k1 - 4))), (4, .int (nI i))] → W p l e ({ frames := 3, cells := 0, slots := 0, locals := 67 } : Room) s m (([.ref (ad 0), .int (nI h)] : List Value).toArray) below meth c H locs 0 0 Q (F0 m 77 ls []) := by
              intro n77
              induction n77 with
              | zero => intro i cx ax px ex kx vx nx hi hTkx hkbx hcx hcc hRx hn128x hbdx hm77; exact absurd hm77 (Nat.not_lt_zero _)
              | succ n77 ih77 =>
                intro i cx ax px ex kx vx nx hi hTkx hkbx hcx hcc hRx hn128x hbdx hm77 H locs hP hD hS ls hl
                have harm := arM_le (k1 - 4)
                refine lv_iload hx hb dX5_readProgram_77 (lv_at hl 4 rfl) ?_
                refine lv_iload_n hx hb dX5_readProgram_79 rfl (lv_at hl 3 rfl) ?_
                refine cSi (As := [.int (nI (k1 - 4))]) (rest := [.int (nI i)]) ⟨hx, hb, hml, hown, hts⟩ (c_X5_numbersOf l  (k1 - 4) (by omega)) (va_cwS 1 hts (gS mU_281 mU_282 mU_6 mU_283) rfl rfl rfl (by decide +kernel) ⟨Nat.le_of_ble_eq_true rfl, Nat.le_of_ble_eq_true rfl⟩) fbU (fun _ _ _ => trivial) rfl hl.1 rfl (Nat.le_of_ble_eq_true rfl) dX5_readProgram_80 ⟨Nat.zero_le _, Nat.zero_le _⟩ ?_
                refine lv_icmp_ge (tgt := 134) hx hb dX5_readProgram_83 (by decide) (fun c83_8 => ?_) (fun c83_8 => ?_)
                · have c83_8 : arM (k1 - 4) ≤ i := (nI_leI (a := arM (k1 - 4)) (b := i) (by omega) (by omega)).mp c83_8
                  have hs32x : ∀ j, j < 32 → upN s2 (32 + l1 4) (k1 - 4) j = g 2 j := fun j hj => (upN_n (by omega)).trans (hs32 j hj)
                  have hek := hTkx.2.2.2.2.2.1
                  refine lv_aload_n hx hb dX5_readProgram_134 rfl (lv_at hl 0 rfl) ?_
                  refine va_get (D := D) (ci := 5) (v := .int (nI kx)) (C := RX5) (T := TX5) (N := 23) hx hb hU iX5 hown hK hP 0 rfl rfl 12 (by decide) (hU _ mU_254) (fun _ h9 => h9) rfl dX5_readProgram_135 ?_
                  refine lv_iconst (v := nI 2) hx hb dX5_readProgram_138 (by decide) ?_
                  refine lv_icmp_eq (tgt := 144) hx hb dX5_readProgram_139 (by decide) (fun c139_9 => ?_) (fun c139_9 => ?_)
                  · have c139_9 : kx = 2 := (nI_eqG (a := kx) (b := 2) (by omega) (by omega)).mp c139_9
                    refine lv_aload_n hx hb dX5_readProgram_144 rfl (lv_at hl 0 rfl) ?_
                    refine va_get (D := D) (ci := 5) (v := .ref (ad 1)) (C := RX5) (T := TX5) (N := 23) hx hb hU iX5 hown hK hP 0 rfl rfl 0 (by decide) (hU _ mU_75) (fun _ h9 => h9) rfl dX5_readProgram_145 ?_
                    refine lv_iconst (v := nI 4) hx hb dX5_readProgram_148 (by decide) ?_
                    refine lv_dup2_11 hx hb dX5_readProgram_149 rfl rfl ?_
                    refine n_iald hx hb hK hP 1 0 rfl rfl (i := 4) (by omega) (by decide) dX5_readProgram_150 ?_
                    refine lv_iconst (v := nI 1) hx hb dX5_readProgram_151 (by decide) ?_
                    refine lv_iadd hx hb dX5_readProgram_152 ?_
                    refine lv_topE (nI ((l1 4) + 1)) (nI_add _ _) ?_
                    refine n_iast hx hb hK hP hD hS 1 0 rfl rfl (i := 4) (v := (l1 4) + 1) (by omega) (by decide) dX5_readProgram_153 (fun H locs hP hD hS => ?_)
                    have hP : va_P D vwCl [(ad 0, .inr (5, [.ref (ad 1), .ref (ad 2), .ref (ad 3), .ref (ad 4), .ref (ad 5), .int (nI (f 5)), .ref (ad 6), .int (nI (f 7)), .int (nI (f 8)), .int (nI (f 9)), .int (nI ex), .int (nI px), .int (nI kx), .int (nI vx), .ref (ad 7), .ref (ad 8), .ref (ad 9), .ref (ad 10), .ref (ad 11), .int (nI (f 19)), .int (nI (f 20)), .int (nI (f 21)), .ref (ad 12)])), (ad 1, .inl (ka 1, 5, .inl (nA (upN l1 4 ((l1 4) + 1))))), (ad 2, .inl (ka 2, 40, .inl (nA (upN s2 (32 + l1 4) (k1 - 4))))), (ad 3, .inl (ka 3, 160, .inl (nA nx))), (ad 4, .inl (ka 4, 4, .inl (nA (g 4)))), (ad 5, .inl (ka 5, 4, .inl (nA (g 5)))), (ad 6, .inl (ka 6, 200, .inl (nA (g 6)))), (ad 7, .inl (ka 7, 12001, .inr (.inl (lA t)))), (ad 8, .inl (ka 8, 12001, .inl (nA (g 8)))), (ad 9, .inl (ka 9, 12001, .inl (nA (g 9)))), (ad 10, .inl (ka 10, 12001, .inl (nA (g 10)))), (ad 11, .inl (ka 11, 32768, .inl (nA (g 11)))), (ad 12, .inl (ka 12, 64, .inl (nA (g 12))))] H := hP
                    have hD : va_D Ar [(ad 0, .inr (5, [.ref (ad 1), .ref (ad 2), .ref (ad 3), .ref (ad 4), .ref (ad 5), .int (nI (f 5)), .ref (ad 6), .int (nI (f 7)), .int (nI (f 8)), .int (nI (f 9)), .int (nI ex), .int (nI px), .int (nI kx), .int (nI vx), .ref (ad 7), .ref (ad 8), .ref (ad 9), .ref (ad 10), .ref (ad 11), .int (nI (f 19)), .int (nI (f 20)), .int (nI (f 21)), .ref (ad 12)])), (ad 1, .inl (ka 1, 5, .inl (nA (upN l1 4 ((l1 4) + 1))))), (ad 2, .inl (ka 2, 40, .inl (nA (upN s2 (32 + l1 4) (k1 - 4))))), (ad 3, .inl (ka 3, 160, .inl (nA nx))), (ad 4, .inl (ka 4, 4, .inl (nA (g 4)))), (ad 5, .inl (ka 5, 4, .inl (nA (g 5)))), (ad 6, .inl (ka 6, 200, .inl (nA (g 6)))), (ad 7, .inl (ka 7, 12001, .inr (.inl (lA t)))), (ad 8, .inl (ka 8, 12001, .inl (nA (g 8)))), (ad 9, .inl (ka 9, 12001, .inl (nA (g 9)))), (ad 10, .inl (ka 10, 12001, .inl (nA (g 10)))), (ad 11, .inl (ka 11, 32768, .inl (nA (g 11)))), (ad 12, .inl (ka 12, 64, .inl (nA (g 12))))] := hD
                    refine lv_aload_n hx hb dX5_readProgram_154 rfl (lv_at hl 0 rfl) ?_
                    refine kVv (As := []) (rest := []) (wr := []) ⟨hx, hb, hml, hown, hts⟩ (c_X5_nextToken l D ad ka (upN (upN (upN (upN (f) 10 (ex)) 11 (px)) 12 (kx)) 13 (vx)) (upA (upA (upA (g) 1 (upN l1 4 ((l1 4) + 1))) 2 (upN s2 (32 + l1 4) (k1 - 4))) 3 (nx)) t H.size  (show (f 7) ≤ 200 from h7) (show ∀ i, (g 6) i < 256 from hq) (show ex ≤ (f 7) from by omega)) (cwV 0 hts (gV mU_256 mU_257 mU_258 mU_6 mU_259) rfl rfl rfl (by decide +kernel) ⟨Nat.le_of_ble_eq_true rfl, Nat.le_of_ble_eq_true rfl⟩) (va_recv hK hP (ci := 5) (q0 := 0) rfl rfl) hP hK hD hS hA [0, 1, 2, 3, 4, 5, 6, 7, 8, 9, 10, 11, 12] [] [0, 1, 2, 3, 4, 5, 6, 7, 8, 9, 10, 11] [] rfl rfl rfl rfl (by decide) rfl rfl rfl hl.1 rfl (Nat.le_of_ble_eq_true rfl) dX5_readProgram_155 ⟨by decide, by decide⟩ (fun u H locs hw hP hD hK hS => ?_)
                    obtain ⟨p10, e10, k10, v10, hu, hTr⟩ := hw
                    subst hu
                    have hTk10 : TKI (g 6) (f 7) (ex) p10 e10 k10 v10 := TokR_F (v0 := vx) hTr
                    have hkb10 : k10 < 13 := kF_lt hTk10
                    have hP : va_P D vwCl [(ad 0, .inr (5, [.ref (ad 1), .ref (ad 2), .ref (ad 3), .ref (ad 4), .ref (ad 5), .int (nI (f 5)), .ref (ad 6), .int (nI (f 7)), .int (nI (f 8)), .int (nI (f 9)), .int (nI e10), .int (nI p10), .int (nI k10), .int (nI v10), .ref (ad 7), .ref (ad 8), .ref (ad 9), .ref (ad 10), .ref (ad 11), .int (nI (f 19)), .int (nI (f 20)), .int (nI (f 21)), .ref (ad 12)])), (ad 1, .inl (ka 1, 5, .inl (nA (upN l1 4 ((l1 4) + 1))))), (ad 2, .inl (ka 2, 40, .inl (nA (upN s2 (32 + l1 4) (k1 - 4))))), (ad 3, .inl (ka 3, 160, .inl (nA nx))), (ad 4, .inl (ka 4, 4, .inl (nA (g 4)))), (ad 5, .inl (ka 5, 4, .inl (nA (g 5)))), (ad 6, .inl (ka 6, 200, .inl (nA (g 6)))), (ad 7, .inl (ka 7, 12001, .inr (.inl (lA t)))), (ad 8, .inl (ka 8, 12001, .inl (nA (g 8)))), (ad 9, .inl (ka 9, 12001, .inl (nA (g 9)))), (ad 10, .inl (ka 10, 12001, .inl (nA (g 10)))), (ad 11, .inl (ka 11, 32768, .inl (nA (g 11)))), (ad 12, .inl (ka 12, 64, .inl (nA (g 12))))] H := hP
                    have hD : va_D Ar [(ad 0, .inr (5, [.ref (ad 1), .ref (ad 2), .ref (ad 3), .ref (ad 4), .ref (ad 5), .int (nI (f 5)), .ref (ad 6), .int (nI (f 7)), .int (nI (f 8)), .int (nI (f 9)), .int (nI e10), .int (nI p10), .int (nI k10), .int (nI v10), .ref (ad 7), .ref (ad 8), .ref (ad 9), .ref (ad 10), .ref (ad 11), .int (nI (f 19)), .int (nI (f 20)), .int (nI (f 21)), .ref (ad 12)])), (ad 1, .inl (ka 1, 5, .inl (nA (upN l1 4 ((l1 4) + 1))))), (ad 2, .inl (ka 2, 40, .inl (nA (upN s2 (32 + l1 4) (k1 - 4))))), (ad 3, .inl (ka 3, 160, .inl (nA nx))), (ad 4, .inl (ka 4, 4, .inl (nA (g 4)))), (ad 5, .inl (ka 5, 4, .inl (nA (g 5)))), (ad 6, .inl (ka 6, 200, .inl (nA (g 6)))), (ad 7, .inl (ka 7, 12001, .inr (.inl (lA t)))), (ad 8, .inl (ka 8, 12001, .inl (nA (g 8)))), (ad 9, .inl (ka 9, 12001, .inl (nA (g 9)))), (ad 10, .inl (ka 10, 12001, .inl (nA (g 10)))), (ad 11, .inl (ka 11, 32768, .inl (nA (g 11)))), (ad 12, .inl (ka 12, 64, .inl (nA (g 12))))] := hD
                    have hK : va_K D vwCl (mT ka) s := hK.sub [0, 1, 2, 3, 4, 5, 6, 7, 8, 9, 10, 11] rfl
                    refine lv_goto (tgt := 16) hx hb dX5_readProgram_158 (by decide) ?_
                    exact ih16 (cx - 1) ex p10 e10 k10 v10 (upN l1 4 ((l1 4) + 1)) (upN s2 (32 + l1 4) (k1 - 4)) nx (hTk10) (hkb10) (by have := hTkx.2.2.2.2.2.2.2 (by omega); have := hTkx.2.2.2.2.2.2.1; have := pF_ge hTkx; omega) (run_close hRx hcx hTkx (by omega) (by omega)) (fun j hj => (upN_n hj).trans (hl4 j hj)) (hs32x) (hn128x) (hbdx) ((show l1 4 + 1 ≤ 7 from by omega)) (by omega) _ _ hP hD hS _ (lv_sub hl [0, 1] rfl)
                  · have c139_9 : ¬ (kx = 2) := fun h9 => c139_9 ((nI_eqG (a := kx) (b := 2) (by omega) (by omega)).mpr h9)
                    refine lv_iconst (v := nI 1) hx hb dX5_readProgram_142 (by decide) ?_
                    subst hQ
                    exact rwi (upN (upN (upN (upN f 10 (ex)) 11 (px)) 12 (kx)) 13 (vx), upA (upA (upA g 1 (l1)) 2 (upN s2 (32 + l1 4) (k1 - 4))) 3 (nx), t) hx hb hr hlocks (⟨_, _, _, _, _, _, _, rfl, ⟨⟨hl4, hln⟩, (fun j hj => (upN_n (by omega)).trans (hs32 j hj)), hn128x, hbdx⟩, run_f5 hRx hcx hTkx (by omega) (by omega) c139_9⟩) hP hK hD hS dX5_readProgram_143
                · have c83_8 : ¬ (arM (k1 - 4) ≤ i) := fun h9 => c83_8 ((nI_leI (a := arM (k1 - 4)) (b := i) (by omega) (by omega)).mpr h9)
                  have hek := hTkx.2.2.2.2.2.1
                  refine lv_aload_n hx hb dX5_readProgram_86 rfl (lv_at hl 0 rfl) ?_
                  refine va_get (D := D) (ci := 5) (v := .int (nI kx)) (C := RX5) (T := TX5) (N := 23) hx hb hU iX5 hown hK hP 0 rfl rfl 12 (by decide) (hU _ mU_254) (fun _ h9 => h9) rfl dX5_readProgram_87 ?_
                  refine lv_iconst (v := nI 1) hx hb dX5_readProgram_90 (by decide) ?_
                  refine lv_icmp_eq (tgt := 96) hx hb dX5_readProgram_91 (by decide) (fun c91_12 => ?_) (fun c91_12 => ?_)
                  · have c91_12 : kx = 1 := (nI_eqG (a := kx) (b := 1) (by omega) (by omega)).mp c91_12
                    have hvv := hTkx.2.2.2.1 c91_12
                    have hvb : vx < 20000 := by rw [hvv]; exact numP_lt hq _ _
                    refine lv_aload_n hx hb dX5_readProgram_96 rfl (lv_at hl 0 rfl) ?_
                    refine lv_iload_n hx hb dX5_readProgram_97 rfl (lv_at hl 1 rfl) ?_
                    refine lv_iload_n hx hb dX5_readProgram_98 rfl (lv_at hl 3 rfl) ?_
                    refine lv_iload hx hb dX5_readProgram_99 (lv_at hl 4 rfl) ?_
                    refine cVi (As := [.int (nI h), .int (nI (k1 - 4)), .int (nI i)]) (rest := []) ⟨hx, hb, hml, hown, hts⟩ (c_X5_mayBe l D ad ka (upN (upN (upN (upN (f) 10 (ex)) 11 (px)) 12 (kx)) 13 (vx)) (upA (upA (upA (g) 1 (l1)) 2 (upN s2 (32 + l1 4) (k1 - 4))) 3 (nx)) t h (k1 - 4) i (show h < 2 from by omega) (show (k1 - 4) < 9 from by omega) (show i < 4 from by omega) (show vx < 2147483648 from by omega)) (cwV 3 hts (gV mU_284 mU_285 mU_286 mU_6 mU_287) rfl rfl rfl (by decide +kernel) ⟨Nat.le_of_ble_eq_true rfl, Nat.le_of_ble_eq_true rfl⟩) fbR (va_recv hK hP (ci := 5) (q0 := 0) rfl rfl) (PR.of hP hK) rfl hl.1 rfl (Nat.le_of_ble_eq_true rfl) dX5_readProgram_101 ⟨Nat.zero_le _, Nat.zero_le _⟩ ?_
                    refine lv_topE (bP (mayM h (k1 - 4) i (vx))) rfl ?_
                    refine lv_if_ne (tgt := 109) hx hb dX5_readProgram_104 (by decide) (fun c104_13 => ?_) (fun c104_13 => ?_)
                    · have c104_13 : mayM h (k1 - 4) i (vx) := bP_t c104_13
                      refine lv_aload_n hx hb dX5_readProgram_109 rfl (lv_at hl 0 rfl) ?_
                      refine va_get (D := D) (ci := 5) (v := .ref (ad 3)) (C := RX5) (T := TX5) (N := 23) hx hb hU iX5 hown hK hP 0 rfl rfl 2 (by decide) (hU _ mU_77) (fun _ h9 => h9) rfl dX5_readProgram_110 ?_
                      refine lv_iconst (v := nI 4) hx hb dX5_readProgram_113 (by decide) ?_
                      refine lv_iload_n hx hb dX5_readProgram_114 rfl (lv_at hl 2 rfl) ?_
                      refine lv_imul hx hb dX5_readProgram_115 ?_
                      refine lv_topE (nI (4 * (32 + l1 4))) (pk_mul _ _) ?_
                      refine lv_iload hx hb dX5_readProgram_116 (lv_at hl 4 rfl) ?_
                      refine lv_iadd hx hb dX5_readProgram_118 ?_
                      refine lv_topE (nI ((4 * (32 + l1 4)) + i)) (nI_add _ _) ?_
                      refine lv_aload_n hx hb dX5_readProgram_119 rfl (lv_at hl 0 rfl) ?_
                      refine va_get (D := D) (ci := 5) (v := .int (nI vx)) (C := RX5) (T := TX5) (N := 23) hx hb hU iX5 hown hK hP 0 rfl rfl 13 (by decide) (hU _ mU_255) (fun _ h9 => h9) rfl dX5_readProgram_120 ?_
                      refine n_iast hx hb hK hP hD hS 3 2 rfl rfl (i := (4 * (32 + l1 4)) + i) (v := vx) (by omega) (by decide) dX5_readProgram_123 (fun H locs hP hD hS => ?_)
                      have hP : va_P D vwCl [(ad 0, .inr (5, [.ref (ad 1), .ref (ad 2), .ref (ad 3), .ref (ad 4), .ref (ad 5), .int (nI (f 5)), .ref (ad 6), .int (nI (f 7)), .int (nI (f 8)), .int (nI (f 9)), .int (nI ex), .int (nI px), .int (nI kx), .int (nI vx), .ref (ad 7), .ref (ad 8), .ref (ad 9), .ref (ad 10), .ref (ad 11), .int (nI (f 19)), .int (nI (f 20)), .int (nI (f 21)), .ref (ad 12)])), (ad 1, .inl (ka 1, 5, .inl (nA l1))), (ad 2, .inl (ka 2, 40, .inl (nA (upN s2 (32 + l1 4) (k1 - 4))))), (ad 3, .inl (ka 3, 160, .inl (nA (upN nx ((4 * (32 + l1 4)) + i) vx)))), (ad 4, .inl (ka 4, 4, .inl (nA (g 4)))), (ad 5, .inl (ka 5, 4, .inl (nA (g 5)))), (ad 6, .inl (ka 6, 200, .inl (nA (g 6)))), (ad 7, .inl (ka 7, 12001, .inr (.inl (lA t)))), (ad 8, .inl (ka 8, 12001, .inl (nA (g 8)))), (ad 9, .inl (ka 9, 12001, .inl (nA (g 9)))), (ad 10, .inl (ka 10, 12001, .inl (nA (g 10)))), (ad 11, .inl (ka 11, 32768, .inl (nA (g 11)))), (ad 12, .inl (ka 12, 64, .inl (nA (g 12))))] H := hP
                      have hD : va_D Ar [(ad 0, .inr (5, [.ref (ad 1), .ref (ad 2), .ref (ad 3), .ref (ad 4), .ref (ad 5), .int (nI (f 5)), .ref (ad 6), .int (nI (f 7)), .int (nI (f 8)), .int (nI (f 9)), .int (nI ex), .int (nI px), .int (nI kx), .int (nI vx), .ref (ad 7), .ref (ad 8), .ref (ad 9), .ref (ad 10), .ref (ad 11), .int (nI (f 19)), .int (nI (f 20)), .int (nI (f 21)), .ref (ad 12)])), (ad 1, .inl (ka 1, 5, .inl (nA l1))), (ad 2, .inl (ka 2, 40, .inl (nA (upN s2 (32 + l1 4) (k1 - 4))))), (ad 3, .inl (ka 3, 160, .inl (nA (upN nx ((4 * (32 + l1 4)) + i) vx)))), (ad 4, .inl (ka 4, 4, .inl (nA (g 4)))), (ad 5, .inl (ka 5, 4, .inl (nA (g 5)))), (ad 6, .inl (ka 6, 200, .inl (nA (g 6)))), (ad 7, .inl (ka 7, 12001, .inr (.inl (lA t)))), (ad 8, .inl (ka 8, 12001, .inl (nA (g 8)))), (ad 9, .inl (ka 9, 12001, .inl (nA (g 9)))), (ad 10, .inl (ka 10, 12001, .inl (nA (g 10)))), (ad 11, .inl (ka 11, 32768, .inl (nA (g 11)))), (ad 12, .inl (ka 12, 64, .inl (nA (g 12))))] := hD
                      refine lv_aload_n hx hb dX5_readProgram_124 rfl (lv_at hl 0 rfl) ?_
                      refine kVv (As := []) (rest := []) (wr := []) ⟨hx, hb, hml, hown, hts⟩ (c_X5_nextToken l D ad ka (upN (upN (upN (upN (f) 10 (ex)) 11 (px)) 12 (kx)) 13 (vx)) (upA (upA (upA (g) 1 (l1)) 2 (upN s2 (32 + l1 4) (k1 - 4))) 3 (upN nx ((4 * (32 + l1 4)) + i) vx)) t H.size  (show (f 7) ≤ 200 from h7) (show ∀ i, (g 6) i < 256 from hq) (show ex ≤ (f 7) from by omega)) (cwV 0 hts (gV mU_256 mU_257 mU_258 mU_6 mU_259) rfl rfl rfl (by decide +kernel) ⟨Nat.le_of_ble_eq_true rfl, Nat.le_of_ble_eq_true rfl⟩) (va_recv hK hP (ci := 5) (q0 := 0) rfl rfl) hP hK hD hS hA [0, 1, 2, 3, 4, 5, 6, 7, 8, 9, 10, 11, 12] [] [0, 1, 2, 3, 4, 5, 6, 7, 8, 9, 10, 11] [] rfl rfl rfl rfl (by decide) rfl rfl rfl hl.1 rfl (Nat.le_of_ble_eq_true rfl) dX5_readProgram_125 ⟨by decide, by decide⟩ (fun u H locs hw hP hD hK hS => ?_)
                      obtain ⟨p14, e14, k14, v14, hu, hTr⟩ := hw
                      subst hu
                      have hTk14 : TKI (g 6) (f 7) (ex) p14 e14 k14 v14 := TokR_F (v0 := vx) hTr
                      have hkb14 : k14 < 13 := kF_lt hTk14
                      have hP : va_P D vwCl [(ad 0, .inr (5, [.ref (ad 1), .ref (ad 2), .ref (ad 3), .ref (ad 4), .ref (ad 5), .int (nI (f 5)), .ref (ad 6), .int (nI (f 7)), .int (nI (f 8)), .int (nI (f 9)), .int (nI e14), .int (nI p14), .int (nI k14), .int (nI v14), .ref (ad 7), .ref (ad 8), .ref (ad 9), .ref (ad 10), .ref (ad 11), .int (nI (f 19)), .int (nI (f 20)), .int (nI (f 21)), .ref (ad 12)])), (ad 1, .inl (ka 1, 5, .inl (nA l1))), (ad 2, .inl (ka 2, 40, .inl (nA (upN s2 (32 + l1 4) (k1 - 4))))), (ad 3, .inl (ka 3, 160, .inl (nA (upN nx ((4 * (32 + l1 4)) + i) vx)))), (ad 4, .inl (ka 4, 4, .inl (nA (g 4)))), (ad 5, .inl (ka 5, 4, .inl (nA (g 5)))), (ad 6, .inl (ka 6, 200, .inl (nA (g 6)))), (ad 7, .inl (ka 7, 12001, .inr (.inl (lA t)))), (ad 8, .inl (ka 8, 12001, .inl (nA (g 8)))), (ad 9, .inl (ka 9, 12001, .inl (nA (g 9)))), (ad 10, .inl (ka 10, 12001, .inl (nA (g 10)))), (ad 11, .inl (ka 11, 32768, .inl (nA (g 11)))), (ad 12, .inl (ka 12, 64, .inl (nA (g 12))))] H := hP
                      have hD : va_D Ar [(ad 0, .inr (5, [.ref (ad 1), .ref (ad 2), .ref (ad 3), .ref (ad 4), .ref (ad 5), .int (nI (f 5)), .ref (ad 6), .int (nI (f 7)), .int (nI (f 8)), .int (nI (f 9)), .int (nI e14), .int (nI p14), .int (nI k14), .int (nI v14), .ref (ad 7), .ref (ad 8), .ref (ad 9), .ref (ad 10), .ref (ad 11), .int (nI (f 19)), .int (nI (f 20)), .int (nI (f 21)), .ref (ad 12)])), (ad 1, .inl (ka 1, 5, .inl (nA l1))), (ad 2, .inl (ka 2, 40, .inl (nA (upN s2 (32 + l1 4) (k1 - 4))))), (ad 3, .inl (ka 3, 160, .inl (nA (upN nx ((4 * (32 + l1 4)) + i) vx)))), (ad 4, .inl (ka 4, 4, .inl (nA (g 4)))), (ad 5, .inl (ka 5, 4, .inl (nA (g 5)))), (ad 6, .inl (ka 6, 200, .inl (nA (g 6)))), (ad 7, .inl (ka 7, 12001, .inr (.inl (lA t)))), (ad 8, .inl (ka 8, 12001, .inl (nA (g 8)))), (ad 9, .inl (ka 9, 12001, .inl (nA (g 9)))), (ad 10, .inl (ka 10, 12001, .inl (nA (g 10)))), (ad 11, .inl (ka 11, 32768, .inl (nA (g 11)))), (ad 12, .inl (ka 12, 64, .inl (nA (g 12))))] := hD
                      have hK : va_K D vwCl (mT ka) s := hK.sub [0, 1, 2, 3, 4, 5, 6, 7, 8, 9, 10, 11] rfl
                      refine lv_iinc (v := nI (i + 1)) (lv' := [(4, .int (nI (i + 1))), (0, .ref (ad 0)), (1, .int (nI h)), (2, .int (nI (32 + l1 4))), (3, .int (nI (k1 - 4)))]) hx hb dX5_readProgram_128 hl (k := 4) rfl (by rw [show Int32.ofInt 1 = nI 1 from by decide, nI_add]) (by decide) rfl (fun ls hl => ?_)
                      refine lv_goto (tgt := 77) hx hb dX5_readProgram_131 (by decide) ?_
                      exact ih77 (i + 1) (cx - 1) ex p14 e14 k14 v14 (upN nx ((4 * (32 + l1 4)) + i) vx) (by omega) (hTk14) (hkb14) (by have := hTkx.2.2.2.2.2.2.2 (by omega); have := hTkx.2.2.2.2.2.2.1; have := pF_ge hTkx; omega) (by omega) (run_num hRx hcx hTkx c91_12 (by omega) c104_13) (fun j hj => (upN_n (by omega)).trans (hn128x j hj)) (fun j => ⟨(hbdx j).1, bnd_u (fun j => (hbdx j).2) (by omega) j⟩) (by omega) _ _ hP hD hS _ (lv_sub hl [1, 2, 3, 4, 0] rfl)
                    · have c104_13 : ¬ (mayM h (k1 - 4) i (vx)) := bP_f c104_13
                      refine lv_iconst (v := nI 2) hx hb dX5_readProgram_107 (by decide) ?_
                      subst hQ
                      exact rwi (upN (upN (upN (upN f 10 (ex)) 11 (px)) 12 (kx)) 13 (vx), upA (upA (upA g 1 (l1)) 2 (upN s2 (32 + l1 4) (k1 - 4))) 3 (nx), t) hx hb hr hlocks (⟨_, _, _, _, _, _, _, rfl, ⟨⟨hl4, hln⟩, (fun j hj => (upN_n (by omega)).trans (hs32 j hj)), hn128x, hbdx⟩, run_f2 hRx hcx hTkx c91_12 (by omega) (by omega) c104_13⟩) hP hK hD hS dX5_readProgram_108
                  · have c91_12 : ¬ (kx = 1) := fun h9 => c91_12 ((nI_eqG (a := kx) (b := 1) (by omega) (by omega)).mpr h9)
                    refine lv_iconst (v := nI 1) hx hb dX5_readProgram_94 (by decide) ?_
                    subst hQ
                    exact rwi (upN (upN (upN (upN f 10 (ex)) 11 (px)) 12 (kx)) 13 (vx), upA (upA (upA g 1 (l1)) 2 (upN s2 (32 + l1 4) (k1 - 4))) 3 (nx), t) hx hb hr hlocks (⟨_, _, _, _, _, _, _, rfl, ⟨⟨hl4, hln⟩, (fun j hj => (upN_n (by omega)).trans (hs32 j hj)), hn128x, hbdx⟩, run_f4 hRx hcx hTkx c91_12 (by omega) (by omega)⟩) hP hK hD hS dX5_readProgram_95
            exact L77_104 ((arM (k1 - 4) - 0) + 1) 0 (cz - 1) e1 p6 e6 k6 v6 n3 (Nat.zero_le _) (hTk6) (hkb6) (by have := hTk.2.2.2.2.2.2.2 (by omega); have := hTk.2.2.2.2.2.2.1; have := pF_ge hTk; omega) (by have := pF_ge hTk; have := hTk.2.2.2.2.1; omega) (run_open hR hcn hTk (by omega) c41_5 (by omega)) (hn128) (fun j => ⟨bnd_u (fun j => (hbd j).1) (by omega) j, (hbd j).2⟩) (Nat.lt_succ_self _) _ _ hP hD hS _ (lv_sub hl [3, 4, 2, 1, 0] rfl)
          · have c41_5 : l1 4 = 7 := (nI_eqG (a := l1 4) (b := 7) (by omega) (by omega)).mp c41_5
            refine lv_iconst (v := nI 3) hx hb dX5_readProgram_44 (by decide) ?_
            subst hQ
            exact rwi (upN (upN (upN (upN f 10 (e1)) 11 (p1)) 12 (k1)) 13 (v1), upA (upA (upA g 1 (l1)) 2 (s2)) 3 (n3), t) hx hb hr hlocks (⟨_, _, _, _, _, _, _, rfl, ⟨⟨hl4, hln⟩, hs32, hn128, hbd⟩, run_f3 hR hcn hTk (by omega) c41_5⟩) hP hK hD hS dX5_readProgram_45
        · have c28_4 : ¬ (4 ≤ k1) := fun h9 => c28_4 ((nI_leI (a := 4) (b := k1) (by omega) (by omega)).mpr h9)
          refine lv_iconst (v := nI 1) hx hb dX5_readProgram_31 (by decide) ?_
          subst hQ
          exact rwi (upN (upN (upN (upN f 10 (e1)) 11 (p1)) 12 (k1)) 13 (v1), upA (upA (upA g 1 (l1)) 2 (s2)) 3 (n3), t) hx hb hr hlocks (⟨_, _, _, _, _, _, _, rfl, ⟨⟨hl4, hln⟩, hs32, hn128, hbd⟩, run_f1 hR hcn hTk (by omega) (by omega)⟩) hP hK hD hS dX5_readProgram_32
  exact L16_43 (201 + 1) 201 0 p1 e1 k1 v1 (upN (g 1) 4 0) (g 2) (g 3) (hTk1) (hkb1) (by omega) (rfl) (fun j hj => upN_n hj) (fun j hj => rfl) (fun j hj => rfl) (fun j => ⟨hg 2 (by decide) j, hg 3 (by decide) j⟩) ((show (0 : Nat) ≤ 7 from by decide)) (Nat.lt_succ_self _) _ _ hP hD hS _ (lv_sub hl [0, 1] rfl)

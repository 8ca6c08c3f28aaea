theorem tokS_le3 {h k v : Nat} {x : PT9} : (tokS h x k v).1 ≤ 3 := by
  unfold tokS
  split
  · split
    · show 1 ≤ 3; decide
    · split
      · exact Nat.le_refl 3
      · exact Nat.zero_le 3
  · split
    · split
      · split
        · exact Nat.zero_le 3
        · show 2 ≤ 3; decide
      · show 1 ≤ 3; decide
    · split
      · exact Nat.zero_le 3
      · show 1 ≤ 3; decide
theorem run_le3 {q : Nat → Nat} {n h : Nat} : ∀ (c a : Nat) (x : PT9), (runT q n h c a x).1 ≤ 3 := by
  intro c
  induction c with
  | zero => intro a x; exact Nat.zero_le 3
  | succ c ih =>
    intro a x
    rw [runT]
    split
    · show (if x.1 = 9 then 0 else 1) ≤ 3
      split <;> decide
    · split
      · exact ih _ _
      · exact tokS_le3
theorem cps_step {ss s2 : Nat → Nat} {h i : Nat} (hs : ∀ j, ss j = if 8 * h ≤ j ∧ j < 8 * h + i then s2 (32 + (j - 8 * h)) else s2 j) (hh : h < 2) (hi : i < 7) : ∀ j, upN ss (8 * h + i) (ss (32 + i)) j = if 8 * h ≤ j ∧ j < 8 * h + (i + 1) then s2 (32 + (j - 8 * h)) else s2 j := fun j => by
  by_cases e : j = 8 * h + i
  · subst e; rw [upN_s, hs, if_neg (by omega), if_pos (by omega)]; congr 1; omega
  · rw [upN_n e, hs]
    by_cases q : 8 * h ≤ j ∧ j < 8 * h + i
    · rw [if_pos q, if_pos (by omega)]
    · rw [if_neg q, if_neg (by omega)]
theorem cpn_step {nn n3 : Nat → Nat} {h i : Nat} (hs : ∀ j, nn j = if 4 * (8 * h) ≤ j ∧ j < 4 * (8 * h + i) then n3 (128 + (j - 4 * (8 * h))) else n3 j) (hh : h < 2) (hi : i < 7) : ∀ j, cp4 nn (32 + i) (8 * h + i) j = if 4 * (8 * h) ≤ j ∧ j < 4 * (8 * h + (i + 1)) then n3 (128 + (j - 4 * (8 * h))) else n3 j := fun j => by
  unfold cp4
  by_cases e : 4 * (8 * h + i) ≤ j ∧ j < 4 * (8 * h + i) + 4
  · rw [if_pos e, hs, if_neg (by omega), if_pos (by omega)]; congr 1; omega
  · rw [if_neg e, hs]
    by_cases q : 4 * (8 * h) ≤ j ∧ j < 4 * (8 * h + i)
    · rw [if_pos q, if_pos (by omega)]
    · rw [if_neg q, if_neg (by omega)]
def prKeep (g : Nat → Nat → Nat) (h : Nat) (x : PT9) (l1 ss nn : Nat → Nat) : Prop := l1 h = x.2.2.1 ∧ ((∀ j, j ≠ 4 → j ≠ h → l1 j = g 1 j) ∧ l1 4 ≤ 7) ∧ (∀ i, i < x.2.2.1 → ss (8 * h + i) = x.2.2.2.1 i ∧ ∀ w, w < 4 → nn (4 * (8 * h + i) + w) = x.2.2.2.2 (4 * i + w)) ∧ (∀ j, j < 16 → (j < 8 * h ∨ 8 * h + 8 ≤ j) → ss j = g 2 j) ∧ (∀ j, j < 64 → (j < 4 * (8 * h) ∨ 4 * (8 * h) + 32 ≤ j) → nn j = g 3 j) ∧ ∀ j, ss j < 2147483648 ∧ nn j < 2147483648
def progPost (f : Nat → Nat) (g : Nat → Nat → Nat) (t : Nat → Nat) (h : Nat) (R : Nat × Nat × PT9) (r : Int32) (u : MSt) : Prop :=
  (R.1 ≠ 0 → r = nI 4294967295 ∧ ∃ e p k v l1 s2 n3, u = (upN (upN (upN (upN (upN (upN (upN f 7 0) 8 R.1) 9 p) 10 e) 11 p) 12 k) 13 v, upA (upA (upA g 1 l1) 2 s2) 3 n3, t) ∧ rdKeep g l1 s2 n3 ∧ R.2.1 = p) ∧
  (R.1 = 0 → r = nI R.2.2.2.2.1 ∧ ∃ e p k v l1 ss nn, u = (upN (upN (upN (upN (upN (upN (upN (upN f 7 0) 8 R.1) 9 4294967295) 10 e) 11 p) 12 k) 13 v) 20 0, upA (upA (upA g 1 l1) 2 ss) 3 nn, t) ∧ prKeep g h R.2.2 l1 ss nn)
theorem pr_fin {g : Nat → Nat → Nat} {h i : Nat} {R : Nat × Nat × PT9} {l1 s2 n3 ss nn : Nat → Nat} (hh : h < 2) (hK : rdKeep g l1 s2 n3) (hl : R.2.2.2.2.1 = l1 4) (hso : R.2.2.2.2.2.1 = (fun j => s2 (32 + j))) (hnu : R.2.2.2.2.2.2 = (fun j => n3 (128 + j))) (hss : ∀ j, ss j = if 8 * h ≤ j ∧ j < 8 * h + i then s2 (32 + (j - 8 * h)) else s2 j) (hnn : ∀ j, nn j = if 4 * (8 * h) ≤ j ∧ j < 4 * (8 * h + i) then n3 (128 + (j - 4 * (8 * h))) else n3 j) (hi : i = l1 4) (h7 : l1 4 ≤ 7) : prKeep g h R.2.2 (upN l1 h (l1 4)) ss nn := by
  obtain ⟨k1, k2, k3, k4⟩ := hK
  refine ⟨by rw [upN_s, hl], ⟨fun j hj hn => by rw [upN_n hn]; exact k1.1 j hj, by rw [upN_n (by omega)]; exact h7⟩, fun a ha => ?_, fun j hj ho => ?_, fun j hj ho => ?_, fun j => ?_⟩
  · rw [hl] at ha
    refine ⟨?_, fun w hw => ?_⟩
    · rw [hss, if_pos (by omega), hso]; show s2 _ = s2 _; congr 1; omega
    · rw [hnn, if_pos (by omega), hnu]; show n3 _ = n3 _; congr 1; omega
  · rw [hss, if_neg (by omega)]; exact k2 j (by omega)
  · rw [hnn, if_neg (by omega)]; exact k3 j (by omega)
  · rw [hss, hnn]
    refine ⟨?_, ?_⟩
    · split <;> exact (k4 _).1
    · split <;> exact (k4 _).2
set_option maxHeartbeats 4000000 in
set_option maxRecDepth 100000 in
theorem c_X5_program (l : Launch) (D : va_G) (ad : Nat → Nat) (ka : Nat → ClassId) (f : Nat → Nat) (g : Nat → Nat → Nat) (t : Nat → Nat) (sz : Nat) (h : Nat) (hI : MInv f g t) (hh9 : h < 4294967296) : Met l yX5_program (.code yX5_program cX5_program 3 (some .int) :: wsL_law) ({ frames := 4, cells := 0, slots := 0, locals := 91 }) (va_Pc [.ref (ad 0), .int (nI h)] (PW D (mW ad ka f g t) (mT ka) sz)) (va_Qi (fun (r : Int32) (u : MSt) => (¬ h ≤ 1 → r = nI 4294967295 ∧ u = (f, g, t)) ∧ (h ≤ 1 → progPost f g t h (runT (g 6) (f 7) h 201 0 (9, 0, 0, fun j => g 2 (32 + j), fun j => g 3 (128 + j))) r u)) (QW D (fun u : MSt => mW ad ka u.1 u.2.1 u.2.2) (fun _ => mT ka) (va_A (mW ad ka f g t) sz)) (va_A (mW ad ka f g t) sz)) 0 0 (va_A (mW ad ka f g t) sz) := by
  refine Met.ofW (cc := cX5_program) (maxL := 3) (ret := (some .int)) (by decide) rfl ?_
  intro p e s m args below meth c s₁ B hml hv
  obtain ⟨rfl, hsz, hP, hK, hD0⟩ := hv
  have hx := B.exec
  have hb := B.bytes
  have hr := B.returns
  have hts := atoms_spec (ws := .code yX5_program cX5_program 3 (some .int) :: wsL_law) B.pre
  have hU : ∀ w ∈ wsL_law, w.before _ s = true := fun w h => hts w (List.mem_cons_of_mem _ h)
  have hown : s.vm.findClass RX5 = some m.cls := findClass_of_methodNamed B.named
  have hlocks := B.notSynchronized
  subst hsz
  have hD := hD0.self (sz := s.heap.size)
  generalize hAe : va_A (mW ad ka f g t) s.heap.size = Ar at hD ⊢
  have hA : ∀ q : Nat, s.heap.size ≤ q → Ar q := fun q h => by rw [← hAe]; exact Or.inr h
  have hS : va_S Ar s.heap s.heap [] := va_S.rf
  have hP : va_P D vwCl [(ad 0, .inr (5, [.ref (ad 1), .ref (ad 2), .ref (ad 3), .ref (ad 4), .ref (ad 5), .int (nI (f 5)), .ref (ad 6), .int (nI (f 7)), .int (nI (f 8)), .int (nI (f 9)), .int (nI (f 10)), .int (nI (f 11)), .int (nI (f 12)), .int (nI (f 13)), .ref (ad 7), .ref (ad 8), .ref (ad 9), .ref (ad 10), .ref (ad 11), .int (nI (f 19)), .int (nI (f 20)), .int (nI (f 21)), .ref (ad 12)])), (ad 1, .inl (ka 1, 5, .inl (nA (g 1)))), (ad 2, .inl (ka 2, 40, .inl (nA (g 2)))), (ad 3, .inl (ka 3, 160, .inl (nA (g 3)))), (ad 4, .inl (ka 4, 4, .inl (nA (g 4)))), (ad 5, .inl (ka 5, 4, .inl (nA (g 5)))), (ad 6, .inl (ka 6, 200, .inl (nA (g 6)))), (ad 7, .inl (ka 7, 12001, .inr (.inl (lA t)))), (ad 8, .inl (ka 8, 12001, .inl (nA (g 8)))), (ad 9, .inl (ka 9, 12001, .inl (nA (g 9)))), (ad 10, .inl (ka 10, 12001, .inl (nA (g 10)))), (ad 11, .inl (ka 11, 32768, .inl (nA (g 11)))), (ad 12, .inl (ka 12, 64, .inl (nA (g 12))))] s.heap := hP
  have hD : va_D Ar [(ad 0, .inr (5, [.ref (ad 1), .ref (ad 2), .ref (ad 3), .ref (ad 4), .ref (ad 5), .int (nI (f 5)), .ref (ad 6), .int (nI (f 7)), .int (nI (f 8)), .int (nI (f 9)), .int (nI (f 10)), .int (nI (f 11)), .int (nI (f 12)), .int (nI (f 13)), .ref (ad 7), .ref (ad 8), .ref (ad 9), .ref (ad 10), .ref (ad 11), .int (nI (f 19)), .int (nI (f 20)), .int (nI (f 21)), .ref (ad 12)])), (ad 1, .inl (ka 1, 5, .inl (nA (g 1)))), (ad 2, .inl (ka 2, 40, .inl (nA (g 2)))), (ad 3, .inl (ka 3, 160, .inl (nA (g 3)))), (ad 4, .inl (ka 4, 4, .inl (nA (g 4)))), (ad 5, .inl (ka 5, 4, .inl (nA (g 5)))), (ad 6, .inl (ka 6, 200, .inl (nA (g 6)))), (ad 7, .inl (ka 7, 12001, .inr (.inl (lA t)))), (ad 8, .inl (ka 8, 12001, .inl (nA (g 8)))), (ad 9, .inl (ka 9, 12001, .inl (nA (g 9)))), (ad 10, .inl (ka 10, 12001, .inl (nA (g 10)))), (ad 11, .inl (ka 11, 32768, .inl (nA (g 11)))), (ad 12, .inl (ka 12, 64, .inl (nA (g 12))))] := hD
  generalize hQ : MQ _ _ _ _ _ _ _ = Q
  have hl := lv_entry ([.ref (ad 0), .int (nI h)]) (n := 3) (Nat.le_of_ble_eq_true rfl)
  rw [lg_entry_eq]
  generalize (lg_sl ([.ref (ad 0), .int (nI h)]) ++ List.replicate (3 - (lg_sl ([.ref (ad 0), .int (nI h)])).length) Slot.unset).toArray = ls at hl ⊢
  have hl : lv_has ls 3 [(0, .ref (ad 0)), (1, .int (nI h))] := hl
  refine lv_iload_n hx hb dX5_program_0 rfl (lv_at hl 1 rfl) ?_
  refine lv_iconst (v := nI 0) hx hb dX5_program_1 (by decide) ?_
  refine lv_iconst (v := nI 1) hx hb dX5_program_2 (by decide) ?_
  refine cSi (As := [.int (nI h), .int (nI 0), .int (nI 1)]) (rest := []) ⟨hx, hb, hml, hown, hts⟩ (c_X5_isIn l  h 0 1 (by omega) (by omega) (by omega)) (va_cwS 3 hts (gS mU_116 mU_117 mU_6 mU_118) rfl rfl rfl (by decide +kernel) ⟨Nat.le_of_ble_eq_true rfl, Nat.le_of_ble_eq_true rfl⟩) fbU (fun _ _ _ => trivial) rfl hl.1 rfl (Nat.le_of_ble_eq_true rfl) dX5_program_3 ⟨Nat.zero_le _, Nat.zero_le _⟩ ?_
  refine lv_if_ne (tgt := 11) hx hb dX5_program_6 (by decide) (fun c6_1 => ?_) (fun c6_1 => ?_)
  · have c6_1 : 0 ≤ h ∧ h ≤ 1 := bP_t c6_1
    refine lv_aload_n hx hb dX5_program_11 rfl (lv_at hl 0 rfl) ?_
    refine lv_aload_n hx hb dX5_program_12 rfl (lv_at hl 0 rfl) ?_
    refine lv_iload_n hx hb dX5_program_13 rfl (lv_at hl 1 rfl) ?_
    refine kVi (As := [.int (nI h)]) (rest := [.ref (ad 0)]) (wr := []) ⟨hx, hb, hml, hown, hts⟩ (c_X5_readProgram l D ad ka f g t s.heap.size h (show ∀ a, a < 6 → ∀ i, g a i < 2147483648 from hI.1.2.1) (show (f 7) ≤ 200 from hI.1.2.2.2.2.2.1) (show ∀ i, (g 6) i < 256 from hI.1.2.2.2.2.2.2.1) (show h < 2 from by omega)) (cwV 1 hts (gV mU_249 mU_250 mU_251 mU_6 mU_252) rfl rfl rfl (by decide +kernel) ⟨Nat.le_of_ble_eq_true rfl, Nat.le_of_ble_eq_true rfl⟩) (va_recv hK hP (ci := 5) (q0 := 0) rfl rfl) hP hK hD hS hA [0, 1, 2, 3, 4, 5, 6, 7, 8, 9, 10, 11, 12] [] [0, 1, 2, 3, 4, 5, 6, 7, 8, 9, 10, 11] [] rfl rfl rfl rfl (by decide) rfl rfl rfl hl.1 rfl (Nat.le_of_ble_eq_true rfl) dX5_program_14 ⟨by decide, by decide⟩ (fun r_2 u H locs hw hP hD hK hS => ?_)
    obtain ⟨e9, p9, k9, v9, l1, s2, n3, hu, hKp, hRs⟩ := hw
    subst hu
    have hPV := PV_run (q := g 6) (n := f 7) 201 0 _ (PV_0 h (fun j => g 2 (32 + j)) (fun j => g 3 (128 + j)))
    have hR3 := run_le3 (q := g 6) (n := f 7) (h := h) 201 0 (9, 0, 0, fun j => g 2 (32 + j), fun j => g 3 (128 + j))
    obtain ⟨R9, eR⟩ : ∃ R9, runT (g 6) (f 7) h 201 0 (9, 0, 0, fun j => g 2 (32 + j), fun j => g 3 (128 + j)) = R9 := ⟨_, rfl⟩
    rw [eR] at hPV hR3
    have hRs : rdRes R9 r_2 p9 l1 s2 n3 := eR ▸ hRs
    obtain ⟨hr9, hpl, hok9⟩ := hRs
    subst hr9
    have hP : va_P D vwCl [(ad 0, .inr (5, [.ref (ad 1), .ref (ad 2), .ref (ad 3), .ref (ad 4), .ref (ad 5), .int (nI (f 5)), .ref (ad 6), .int (nI (f 7)), .int (nI (f 8)), .int (nI (f 9)), .int (nI e9), .int (nI p9), .int (nI k9), .int (nI v9), .ref (ad 7), .ref (ad 8), .ref (ad 9), .ref (ad 10), .ref (ad 11), .int (nI (f 19)), .int (nI (f 20)), .int (nI (f 21)), .ref (ad 12)])), (ad 1, .inl (ka 1, 5, .inl (nA l1))), (ad 2, .inl (ka 2, 40, .inl (nA s2))), (ad 3, .inl (ka 3, 160, .inl (nA n3))), (ad 4, .inl (ka 4, 4, .inl (nA (g 4)))), (ad 5, .inl (ka 5, 4, .inl (nA (g 5)))), (ad 6, .inl (ka 6, 200, .inl (nA (g 6)))), (ad 7, .inl (ka 7, 12001, .inr (.inl (lA t)))), (ad 8, .inl (ka 8, 12001, .inl (nA (g 8)))), (ad 9, .inl (ka 9, 12001, .inl (nA (g 9)))), (ad 10, .inl (ka 10, 12001, .inl (nA (g 10)))), (ad 11, .inl (ka 11, 32768, .inl (nA (g 11)))), (ad 12, .inl (ka 12, 64, .inl (nA (g 12))))] H := hP
    have hD : va_D Ar [(ad 0, .inr (5, [.ref (ad 1), .ref (ad 2), .ref (ad 3), .ref (ad 4), .ref (ad 5), .int (nI (f 5)), .ref (ad 6), .int (nI (f 7)), .int (nI (f 8)), .int (nI (f 9)), .int (nI e9), .int (nI p9), .int (nI k9), .int (nI v9), .ref (ad 7), .ref (ad 8), .ref (ad 9), .ref (ad 10), .ref (ad 11), .int (nI (f 19)), .int (nI (f 20)), .int (nI (f 21)), .ref (ad 12)])), (ad 1, .inl (ka 1, 5, .inl (nA l1))), (ad 2, .inl (ka 2, 40, .inl (nA s2))), (ad 3, .inl (ka 3, 160, .inl (nA n3))), (ad 4, .inl (ka 4, 4, .inl (nA (g 4)))), (ad 5, .inl (ka 5, 4, .inl (nA (g 5)))), (ad 6, .inl (ka 6, 200, .inl (nA (g 6)))), (ad 7, .inl (ka 7, 12001, .inr (.inl (lA t)))), (ad 8, .inl (ka 8, 12001, .inl (nA (g 8)))), (ad 9, .inl (ka 9, 12001, .inl (nA (g 9)))), (ad 10, .inl (ka 10, 12001, .inl (nA (g 10)))), (ad 11, .inl (ka 11, 32768, .inl (nA (g 11)))), (ad 12, .inl (ka 12, 64, .inl (nA (g 12))))] := hD
    have hK : va_K D vwCl (mT ka) s := hK.sub [0, 1, 2, 3, 4, 5, 6, 7, 8, 9, 10, 11] rfl
    refine va_put (D := D) (ci := 5) (v := .int (nI R9.1)) (ty := .int) (C := RX5) (T := TX5) (N := 23) hx hb hU iX5 tyX5 tyX5_ok nmX5 hown hK hP hD hS 0 rfl rfl 8 (by decide) (hU _ mU_81) (fun _ h9 => h9) rfl (by decide +kernel) rfl rfl (Nat.le_of_ble_eq_true rfl) dX5_program_17 (fun H locs hP hD hS => ?_)
    have hP : va_P D vwCl [(ad 0, .inr (5, [.ref (ad 1), .ref (ad 2), .ref (ad 3), .ref (ad 4), .ref (ad 5), .int (nI (f 5)), .ref (ad 6), .int (nI (f 7)), .int (nI R9.1), .int (nI (f 9)), .int (nI e9), .int (nI p9), .int (nI k9), .int (nI v9), .ref (ad 7), .ref (ad 8), .ref (ad 9), .ref (ad 10), .ref (ad 11), .int (nI (f 19)), .int (nI (f 20)), .int (nI (f 21)), .ref (ad 12)])), (ad 1, .inl (ka 1, 5, .inl (nA l1))), (ad 2, .inl (ka 2, 40, .inl (nA s2))), (ad 3, .inl (ka 3, 160, .inl (nA n3))), (ad 4, .inl (ka 4, 4, .inl (nA (g 4)))), (ad 5, .inl (ka 5, 4, .inl (nA (g 5)))), (ad 6, .inl (ka 6, 200, .inl (nA (g 6)))), (ad 7, .inl (ka 7, 12001, .inr (.inl (lA t)))), (ad 8, .inl (ka 8, 12001, .inl (nA (g 8)))), (ad 9, .inl (ka 9, 12001, .inl (nA (g 9)))), (ad 10, .inl (ka 10, 12001, .inl (nA (g 10)))), (ad 11, .inl (ka 11, 32768, .inl (nA (g 11)))), (ad 12, .inl (ka 12, 64, .inl (nA (g 12))))] H := hP
    have hD : va_D Ar [(ad 0, .inr (5, [.ref (ad 1), .ref (ad 2), .ref (ad 3), .ref (ad 4), .ref (ad 5), .int (nI (f 5)), .ref (ad 6), .int (nI (f 7)), .int (nI R9.1), .int (nI (f 9)), .int (nI e9), .int (nI p9), .int (nI k9), .int (nI v9), .ref (ad 7), .ref (ad 8), .ref (ad 9), .ref (ad 10), .ref (ad 11), .int (nI (f 19)), .int (nI (f 20)), .int (nI (f 21)), .ref (ad 12)])), (ad 1, .inl (ka 1, 5, .inl (nA l1))), (ad 2, .inl (ka 2, 40, .inl (nA s2))), (ad 3, .inl (ka 3, 160, .inl (nA n3))), (ad 4, .inl (ka 4, 4, .inl (nA (g 4)))), (ad 5, .inl (ka 5, 4, .inl (nA (g 5)))), (ad 6, .inl (ka 6, 200, .inl (nA (g 6)))), (ad 7, .inl (ka 7, 12001, .inr (.inl (lA t)))), (ad 8, .inl (ka 8, 12001, .inl (nA (g 8)))), (ad 9, .inl (ka 9, 12001, .inl (nA (g 9)))), (ad 10, .inl (ka 10, 12001, .inl (nA (g 10)))), (ad 11, .inl (ka 11, 32768, .inl (nA (g 11)))), (ad 12, .inl (ka 12, 64, .inl (nA (g 12))))] := hD
    refine lv_aload_n hx hb dX5_program_20 rfl (lv_at hl 0 rfl) ?_
    refine lv_aload_n hx hb dX5_program_21 rfl (lv_at hl 0 rfl) ?_
    refine va_get (D := D) (ci := 5) (v := .int (nI R9.1)) (C := RX5) (T := TX5) (N := 23) hx hb hU iX5 hown hK hP 0 rfl rfl 8 (by decide) (hU _ mU_81) (fun _ h9 => h9) rfl dX5_program_22 ?_
    refine lv_if_ne (tgt := 32) hx hb dX5_program_25 (by decide) (fun c25_3 => ?_) (fun c25_3 => ?_)
    · have c25_3 : ¬ (R9.1 = 0) := fun h9 => c25_3 ((nI_eqG (a := R9.1) (b := 0) (by omega) (by omega)).mpr h9)
      refine lv_aload_n hx hb dX5_program_32 rfl (lv_at hl 0 rfl) ?_
      refine va_get (D := D) (ci := 5) (v := .int (nI p9)) (C := RX5) (T := TX5) (N := 23) hx hb hU iX5 hown hK hP 0 rfl rfl 11 (by decide) (hU _ mU_247) (fun _ h9 => h9) rfl dX5_program_33 ?_
      refine va_put (D := D) (ci := 5) (v := .int (nI p9)) (ty := .int) (C := RX5) (T := TX5) (N := 23) hx hb hU iX5 tyX5 tyX5_ok nmX5 hown hK hP hD hS 0 rfl rfl 9 (by decide) (hU _ mU_82) (fun _ h9 => h9) rfl (by decide +kernel) rfl rfl (Nat.le_of_ble_eq_true rfl) dX5_program_36 (fun H locs hP hD hS => ?_)
      have hP : va_P D vwCl [(ad 0, .inr (5, [.ref (ad 1), .ref (ad 2), .ref (ad 3), .ref (ad 4), .ref (ad 5), .int (nI (f 5)), .ref (ad 6), .int (nI (f 7)), .int (nI R9.1), .int (nI p9), .int (nI e9), .int (nI p9), .int (nI k9), .int (nI v9), .ref (ad 7), .ref (ad 8), .ref (ad 9), .ref (ad 10), .ref (ad 11), .int (nI (f 19)), .int (nI (f 20)), .int (nI (f 21)), .ref (ad 12)])), (ad 1, .inl (ka 1, 5, .inl (nA l1))), (ad 2, .inl (ka 2, 40, .inl (nA s2))), (ad 3, .inl (ka 3, 160, .inl (nA n3))), (ad 4, .inl (ka 4, 4, .inl (nA (g 4)))), (ad 5, .inl (ka 5, 4, .inl (nA (g 5)))), (ad 6, .inl (ka 6, 200, .inl (nA (g 6)))), (ad 7, .inl (ka 7, 12001, .inr (.inl (lA t)))), (ad 8, .inl (ka 8, 12001, .inl (nA (g 8)))), (ad 9, .inl (ka 9, 12001, .inl (nA (g 9)))), (ad 10, .inl (ka 10, 12001, .inl (nA (g 10)))), (ad 11, .inl (ka 11, 32768, .inl (nA (g 11)))), (ad 12, .inl (ka 12, 64, .inl (nA (g 12))))] H := hP
      have hD : va_D Ar [(ad 0, .inr (5, [.ref (ad 1), .ref (ad 2), .ref (ad 3), .ref (ad 4), .ref (ad 5), .int (nI (f 5)), .ref (ad 6), .int (nI (f 7)), .int (nI R9.1), .int (nI p9), .int (nI e9), .int (nI p9), .int (nI k9), .int (nI v9), .ref (ad 7), .ref (ad 8), .ref (ad 9), .ref (ad 10), .ref (ad 11), .int (nI (f 19)), .int (nI (f 20)), .int (nI (f 21)), .ref (ad 12)])), (ad 1, .inl (ka 1, 5, .inl (nA l1))), (ad 2, .inl (ka 2, 40, .inl (nA s2))), (ad 3, .inl (ka 3, 160, .inl (nA n3))), (ad 4, .inl (ka 4, 4, .inl (nA (g 4)))), (ad 5, .inl (ka 5, 4, .inl (nA (g 5)))), (ad 6, .inl (ka 6, 200, .inl (nA (g 6)))), (ad 7, .inl (ka 7, 12001, .inr (.inl (lA t)))), (ad 8, .inl (ka 8, 12001, .inl (nA (g 8)))), (ad 9, .inl (ka 9, 12001, .inl (nA (g 9)))), (ad 10, .inl (ka 10, 12001, .inl (nA (g 10)))), (ad 11, .inl (ka 11, 32768, .inl (nA (g 11)))), (ad 12, .inl (ka 12, 64, .inl (nA (g 12))))] := hD
      refine lv_aload_n hx hb dX5_program_39 rfl (lv_at hl 0 rfl) ?_
      refine lv_iconst (v := nI 0) hx hb dX5_program_40 (by decide) ?_
      refine va_put (D := D) (ci := 5) (v := .int (nI 0)) (ty := .int) (C := RX5) (T := TX5) (N := 23) hx hb hU iX5 tyX5 tyX5_ok nmX5 hown hK hP hD hS 0 rfl rfl 7 (by decide) (hU _ mU_103) (fun _ h9 => h9) rfl (by decide +kernel) rfl rfl (Nat.le_of_ble_eq_true rfl) dX5_program_41 (fun H locs hP hD hS => ?_)
      have hP : va_P D vwCl [(ad 0, .inr (5, [.ref (ad 1), .ref (ad 2), .ref (ad 3), .ref (ad 4), .ref (ad 5), .int (nI (f 5)), .ref (ad 6), .int (nI 0), .int (nI R9.1), .int (nI p9), .int (nI e9), .int (nI p9), .int (nI k9), .int (nI v9), .ref (ad 7), .ref (ad 8), .ref (ad 9), .ref (ad 10), .ref (ad 11), .int (nI (f 19)), .int (nI (f 20)), .int (nI (f 21)), .ref (ad 12)])), (ad 1, .inl (ka 1, 5, .inl (nA l1))), (ad 2, .inl (ka 2, 40, .inl (nA s2))), (ad 3, .inl (ka 3, 160, .inl (nA n3))), (ad 4, .inl (ka 4, 4, .inl (nA (g 4)))), (ad 5, .inl (ka 5, 4, .inl (nA (g 5)))), (ad 6, .inl (ka 6, 200, .inl (nA (g 6)))), (ad 7, .inl (ka 7, 12001, .inr (.inl (lA t)))), (ad 8, .inl (ka 8, 12001, .inl (nA (g 8)))), (ad 9, .inl (ka 9, 12001, .inl (nA (g 9)))), (ad 10, .inl (ka 10, 12001, .inl (nA (g 10)))), (ad 11, .inl (ka 11, 32768, .inl (nA (g 11)))), (ad 12, .inl (ka 12, 64, .inl (nA (g 12))))] H := hP
      have hD : va_D Ar [(ad 0, .inr (5, [.ref (ad 1), .ref (ad 2), .ref (ad 3), .ref (ad 4), .ref (ad 5), .int (nI (f 5)), .ref (ad 6), .int (nI 0), .int (nI R9.1), .int (nI p9), .int (nI e9), .int (nI p9), .int (nI k9), .int (nI v9), .ref (ad 7), .ref (ad 8), .ref (ad 9), .ref (ad 10), .ref (ad 11), .int (nI (f 19)), .int (nI (f 20)), .int (nI (f 21)), .ref (ad 12)])), (ad 1, .inl (ka 1, 5, .inl (nA l1))), (ad 2, .inl (ka 2, 40, .inl (nA s2))), (ad 3, .inl (ka 3, 160, .inl (nA n3))), (ad 4, .inl (ka 4, 4, .inl (nA (g 4)))), (ad 5, .inl (ka 5, 4, .inl (nA (g 5)))), (ad 6, .inl (ka 6, 200, .inl (nA (g 6)))), (ad 7, .inl (ka 7, 12001, .inr (.inl (lA t)))), (ad 8, .inl (ka 8, 12001, .inl (nA (g 8)))), (ad 9, .inl (ka 9, 12001, .inl (nA (g 9)))), (ad 10, .inl (ka 10, 12001, .inl (nA (g 10)))), (ad 11, .inl (ka 11, 32768, .inl (nA (g 11)))), (ad 12, .inl (ka 12, 64, .inl (nA (g 12))))] := hD
      refine lv_aload_n hx hb dX5_program_44 rfl (lv_at hl 0 rfl) ?_
      refine va_get (D := D) (ci := 5) (v := .int (nI R9.1)) (C := RX5) (T := TX5) (N := 23) hx hb hU iX5 hown hK hP 0 rfl rfl 8 (by decide) (hU _ mU_81) (fun _ h9 => h9) rfl dX5_program_45 ?_
      refine lv_if_eq (tgt := 53) hx hb dX5_program_48 (by decide) (fun c48_4 => ?_) (fun c48_4 => ?_)
      · have c48_4 : R9.1 = 0 := (nI_eqG (a := R9.1) (b := 0) (by omega) (by omega)).mp c48_4
        obtain ⟨hlen, hso, hnu⟩ := hok9 c48_4
        have hl7 : l1 4 ≤ 7 := by rw [← hlen]; exact hPV.1
        exact absurd c48_4 c25_3
      · have c48_4 : ¬ (R9.1 = 0) := fun h9 => c48_4 ((nI_eqG (a := R9.1) (b := 0) (by omega) (by omega)).mpr h9)
        refine lv_iconst (v := nI 4294967295) hx hb dX5_program_51 (by decide) ?_
        subst hQ
        exact rwi (upN (upN (upN (upN (upN (upN (upN (f) 7 (0)) 8 (R9.1)) 9 (p9)) 10 (e9)) 11 (p9)) 12 (k9)) 13 (v9), upA (upA (upA (g) 1 (l1)) 2 (s2)) 3 (n3), t) hx hb hr hlocks (⟨fun h9 => absurd c6_1.2 h9, fun _ => by rw [eR]; exact ⟨fun _ => ⟨rfl, e9, p9, k9, v9, l1, s2, n3, rfl, hKp, hpl⟩, fun h9 => absurd h9 c48_4⟩⟩) hP hK hD hS dX5_program_52
    · have c25_3 : R9.1 = 0 := (nI_eqG (a := R9.1) (b := 0) (by omega) (by omega)).mp c25_3
      refine lv_iconst (v := nI 4294967295) hx hb dX5_program_28 (by decide) ?_
      refine lv_goto (tgt := 36) hx hb dX5_program_29 (by decide) ?_
      refine va_put (D := D) (ci := 5) (v := .int (nI 4294967295)) (ty := .int) (C := RX5) (T := TX5) (N := 23) hx hb hU iX5 tyX5 tyX5_ok nmX5 hown hK hP hD hS 0 rfl rfl 9 (by decide) (hU _ mU_82) (fun _ h9 => h9) rfl (by decide +kernel) rfl rfl (Nat.le_of_ble_eq_true rfl) dX5_program_36 (fun H locs hP hD hS => ?_)
      have hP : va_P D vwCl [(ad 0, .inr (5, [.ref (ad 1), .ref (ad 2), .ref (ad 3), .ref (ad 4), .ref (ad 5), .int (nI (f 5)), .ref (ad 6), .int (nI (f 7)), .int (nI R9.1), .int (nI 4294967295), .int (nI e9), .int (nI p9), .int (nI k9), .int (nI v9), .ref (ad 7), .ref (ad 8), .ref (ad 9), .ref (ad 10), .ref (ad 11), .int (nI (f 19)), .int (nI (f 20)), .int (nI (f 21)), .ref (ad 12)])), (ad 1, .inl (ka 1, 5, .inl (nA l1))), (ad 2, .inl (ka 2, 40, .inl (nA s2))), (ad 3, .inl (ka 3, 160, .inl (nA n3))), (ad 4, .inl (ka 4, 4, .inl (nA (g 4)))), (ad 5, .inl (ka 5, 4, .inl (nA (g 5)))), (ad 6, .inl (ka 6, 200, .inl (nA (g 6)))), (ad 7, .inl (ka 7, 12001, .inr (.inl (lA t)))), (ad 8, .inl (ka 8, 12001, .inl (nA (g 8)))), (ad 9, .inl (ka 9, 12001, .inl (nA (g 9)))), (ad 10, .inl (ka 10, 12001, .inl (nA (g 10)))), (ad 11, .inl (ka 11, 32768, .inl (nA (g 11)))), (ad 12, .inl (ka 12, 64, .inl (nA (g 12))))] H := hP
      have hD : va_D Ar [(ad 0, .inr (5, [.ref (ad 1), .ref (ad 2), .ref (ad 3), .ref (ad 4), .ref (ad 5), .int (nI (f 5)), .ref (ad 6), .int (nI (f 7)), .int (nI R9.1), .int (nI 4294967295), .int (nI e9), .int (nI p9), .int (nI k9), .int (nI v9), .ref (ad 7), .ref (ad 8), .ref (ad 9), .ref (ad 10), .ref (ad 11), .int (nI (f 19)), .int (nI (f 20)), .int (nI (f 21)), .ref (ad 12)])), (ad 1, .inl (ka 1, 5, .inl (nA l1))), (ad 2, .inl (ka 2, 40, .inl (nA s2))), (ad 3, .inl (ka 3, 160, .inl (nA n3))), (ad 4, .inl (ka 4, 4, .inl (nA (g 4)))), (ad 5, .inl (ka 5, 4, .inl (nA (g 5)))), (ad 6, .inl (ka 6, 200, .inl (nA (g 6)))), (ad 7, .inl (ka 7, 12001, .inr (.inl (lA t)))), (ad 8, .inl (ka 8, 12001, .inl (nA (g 8)))), (ad 9, .inl (ka 9, 12001, .inl (nA (g 9)))), (ad 10, .inl (ka 10, 12001, .inl (nA (g 10)))), (ad 11, .inl (ka 11, 32768, .inl (nA (g 11)))), (ad 12, .inl (ka 12, 64, .inl (nA (g 12))))] := hD
      refine lv_aload_n hx hb dX5_program_39 rfl (lv_at hl 0 rfl) ?_
      refine lv_iconst (v := nI 0) hx hb dX5_program_40 (by decide) ?_
      refine va_put (D := D) (ci := 5) (v := .int (nI 0)) (ty := .int) (C := RX5) (T := TX5) (N := 23) hx hb hU iX5 tyX5 tyX5_ok nmX5 hown hK hP hD hS 0 rfl rfl 7 (by decide) (hU _ mU_103) (fun _ h9 => h9) rfl (by decide +kernel) rfl rfl (Nat.le_of_ble_eq_true rfl) dX5_program_41 (fun H locs hP hD hS => ?_)
      have hP : va_P D vwCl [(ad 0, .inr (5, [.ref (ad 1), .ref (ad 2), .ref (ad 3), .ref (ad 4), .ref (ad 5), .int (nI (f 5)), .ref (ad 6), .int (nI 0), .int (nI R9.1), .int (nI 4294967295), .int (nI e9), .int (nI p9), .int (nI k9), .int (nI v9), .ref (ad 7), .ref (ad 8), .ref (ad 9), .ref (ad 10), .ref (ad 11), .int (nI (f 19)), .int (nI (f 20)), .int (nI (f 21)), .ref (ad 12)])), (ad 1, .inl (ka 1, 5, .inl (nA l1))), (ad 2, .inl (ka 2, 40, .inl (nA s2))), (ad 3, .inl (ka 3, 160, .inl (nA n3))), (ad 4, .inl (ka 4, 4, .inl (nA (g 4)))), (ad 5, .inl (ka 5, 4, .inl (nA (g 5)))), (ad 6, .inl (ka 6, 200, .inl (nA (g 6)))), (ad 7, .inl (ka 7, 12001, .inr (.inl (lA t)))), (ad 8, .inl (ka 8, 12001, .inl (nA (g 8)))), (ad 9, .inl (ka 9, 12001, .inl (nA (g 9)))), (ad 10, .inl (ka 10, 12001, .inl (nA (g 10)))), (ad 11, .inl (ka 11, 32768, .inl (nA (g 11)))), (ad 12, .inl (ka 12, 64, .inl (nA (g 12))))] H := hP
      have hD : va_D Ar [(ad 0, .inr (5, [.ref (ad 1), .ref (ad 2), .ref (ad 3), .ref (ad 4), .ref (ad 5), .int (nI (f 5)), .ref (ad 6), .int (nI 0), .int (nI R9.1), .int (nI 4294967295), .int (nI e9), .int (nI p9), .int (nI k9), .int (nI v9), .ref (ad 7), .ref (ad 8), .ref (ad 9), .ref (ad 10), .ref (ad 11), .int (nI (f 19)), .int (nI (f 20)), .int (nI (f 21)), .ref (ad 12)])), (ad 1, .inl (ka 1, 5, .inl (nA l1))), (ad 2, .inl (ka 2, 40, .inl (nA s2))), (ad 3, .inl (ka 3, 160, .inl (nA n3))), (ad 4, .inl (ka 4, 4, .inl (nA (g 4)))), (ad 5, .inl (ka 5, 4, .inl (nA (g 5)))), (ad 6, .inl (ka 6, 200, .inl (nA (g 6)))), (ad 7, .inl (ka 7, 12001, .inr (.inl (lA t)))), (ad 8, .inl (ka 8, 12001, .inl (nA (g 8)))), (ad 9, .inl (ka 9, 12001, .inl (nA (g 9)))), (ad 10, .inl (ka 10, 12001, .inl (nA (g 10)))), (ad 11, .inl (ka 11, 32768, .inl (nA (g 11)))), (ad 12, .inl (ka 12, 64, .inl (nA (g 12))))] := hD
      refine lv_aload_n hx hb dX5_program_44 rfl (lv_at hl 0 rfl) ?_
      refine va_get (D := D) (ci := 5) (v := .int (nI R9.1)) (C := RX5) (T := TX5) (N := 23) hx hb hU iX5 hown hK hP 0 rfl rfl 8 (by decide) (hU _ mU_81) (fun _ h9 => h9) rfl dX5_program_45 ?_
      refine lv_if_eq (tgt := 53) hx hb dX5_program_48 (by decide) (fun c48_5 => ?_) (fun c48_5 => ?_)
      · have c48_5 : R9.1 = 0 := (nI_eqG (a := R9.1) (b := 0) (by omega) (by omega)).mp c48_5
        obtain ⟨hlen, hso, hnu⟩ := hok9 c48_5
        have hl7 : l1 4 ≤ 7 := by rw [← hlen]; exact hPV.1
        refine lv_aload_n hx hb dX5_program_53 rfl (lv_at hl 0 rfl) ?_
        refine va_get (D := D) (ci := 5) (v := .ref (ad 1)) (C := RX5) (T := TX5) (N := 23) hx hb hU iX5 hown hK hP 0 rfl rfl 0 (by decide) (hU _ mU_75) (fun _ h9 => h9) rfl dX5_program_54 ?_
        refine lv_iload_n hx hb dX5_program_57 rfl (lv_at hl 1 rfl) ?_
        refine lv_aload_n hx hb dX5_program_58 rfl (lv_at hl 0 rfl) ?_
        refine va_get (D := D) (ci := 5) (v := .ref (ad 1)) (C := RX5) (T := TX5) (N := 23) hx hb hU iX5 hown hK hP 0 rfl rfl 0 (by decide) (hU _ mU_75) (fun _ h9 => h9) rfl dX5_program_59 ?_
        refine lv_iconst (v := nI 4) hx hb dX5_program_62 (by decide) ?_
        refine n_iald hx hb hK hP 1 0 rfl rfl (i := 4) (by omega) (by decide) dX5_program_63 ?_
        refine n_iast hx hb hK hP hD hS 1 0 rfl rfl (i := h) (v := l1 4) (by omega) (by decide) dX5_program_64 (fun H locs hP hD hS => ?_)
        have hP : va_P D vwCl [(ad 0, .inr (5, [.ref (ad 1), .ref (ad 2), .ref (ad 3), .ref (ad 4), .ref (ad 5), .int (nI (f 5)), .ref (ad 6), .int (nI 0), .int (nI R9.1), .int (nI 4294967295), .int (nI e9), .int (nI p9), .int (nI k9), .int (nI v9), .ref (ad 7), .ref (ad 8), .ref (ad 9), .ref (ad 10), .ref (ad 11), .int (nI (f 19)), .int (nI (f 20)), .int (nI (f 21)), .ref (ad 12)])), (ad 1, .inl (ka 1, 5, .inl (nA (upN l1 h (l1 4))))), (ad 2, .inl (ka 2, 40, .inl (nA s2))), (ad 3, .inl (ka 3, 160, .inl (nA n3))), (ad 4, .inl (ka 4, 4, .inl (nA (g 4)))), (ad 5, .inl (ka 5, 4, .inl (nA (g 5)))), (ad 6, .inl (ka 6, 200, .inl (nA (g 6)))), (ad 7, .inl (ka 7, 12001, .inr (.inl (lA t)))), (ad 8, .inl (ka 8, 12001, .inl (nA (g 8)))), (ad 9, .inl (ka 9, 12001, .inl (nA (g 9)))), (ad 10, .inl (ka 10, 12001, .inl (nA (g 10)))), (ad 11, .inl (ka 11, 32768, .inl (nA (g 11)))), (ad 12, .inl (ka 12, 64, .inl (nA (g 12))))] H := hP
        have hD : va_D Ar [(ad 0, .inr (5, [.ref (ad 1), .ref (ad 2), .ref (ad 3), .ref (ad 4), .ref (ad 5), .int (nI (f 5)), .ref (ad 6), .int (nI 0), .int (nI R9.1), .int (nI 4294967295), .int (nI e9), .int (nI p9), .int (nI k9), .int (nI v9), .ref (ad 7), .ref (ad 8), .ref (ad 9), .ref (ad 10), .ref (ad 11), .int (nI (f 19)), .int (nI (f 20)), .int (nI (f 21)), .ref (ad 12)])), (ad 1, .inl (ka 1, 5, .inl (nA (upN l1 h (l1 4))))), (ad 2, .inl (ka 2, 40, .inl (nA s2))), (ad 3, .inl (ka 3, 160, .inl (nA n3))), (ad 4, .inl (ka 4, 4, .inl (nA (g 4)))), (ad 5, .inl (ka 5, 4, .inl (nA (g 5)))), (ad 6, .inl (ka 6, 200, .inl (nA (g 6)))), (ad 7, .inl (ka 7, 12001, .inr (.inl (lA t)))), (ad 8, .inl (ka 8, 12001, .inl (nA (g 8)))), (ad 9, .inl (ka 9, 12001, .inl (nA (g 9)))), (ad 10, .inl (ka 10, 12001, .inl (nA (g 10)))), (ad 11, .inl (ka 11, 32768, .inl (nA (g 11)))), (ad 12, .inl (ka 12, 64, .inl (nA (g 12))))] := hD
        refine lv_iconst (v := nI 0) hx hb dX5_program_65 (by decide) ?_
        refine lv_istore_n (lv' := [(2, .int (nI 0)), (0, .ref (ad 0)), (1, .int (nI h))]) hx hb dX5_program_66 rfl hl (by decide) rfl (fun ls hl => ?_)
        have L67_102 : ∀ (n : Nat) (i : Nat) (ss : Nat → Nat) (nn : Nat → Nat), (i ≤ l1 4) → (∀ j, ss j = if 8 * h ≤ j ∧ j < 8 * h + i then s2 (32 + (j - 8 * h)) else s2 j) → (∀ j, nn j = if 4 * (8 * h) ≤ j ∧ j < 4 * (8 * h + i) then n3 (128 + (j - 4 * (8 * h))) else n3 j) → (l1 4 - i) < n → ∀ (H : Heap) (locs : List Loc), va_P D vwCl [(ad 0, .inr (5, [.ref (ad 1), .ref (ad 2), .ref (ad 3), .ref (ad 4), .ref (ad 5), .int (nI (f 5)), .ref (ad 6), .int (nI 0), .int (nI R9.1), .int (nI 4294967295), .int (nI e9), .int (nI p9), .int (nI k9), .int (nI v9), .ref (ad 7), .ref (ad 8), .ref (ad 9), .ref (ad 10), .ref (ad 11), .int (nI (f 19)), .int (nI (f 20)), .int (nI (f 21)), .ref (ad 12)])), (ad 1, .inl (ka 1, 5, .inl (nA (upN l1 h (l1 4))))), (ad 2, .inl (ka 2, 40, .inl (nA ss))), (ad 3, .inl (ka 3, 160, .inl (nA nn))), (ad 4, .inl (ka 4, 4, .inl (nA (g 4)))), (ad 5, .inl (ka 5, 4, .inl (nA (g 5)))), (ad 6, .inl (ka 6, 200, .inl (nA (g 6)))), (ad 7, .inl (ka 7, 12001, .inr (.inl (lA t)))), (ad 8, .inl (ka 8, 12001, .inl (nA (g 8)))), (ad 9, .inl (ka 9, 12001, .inl (nA (g 9)))), (ad 10, .inl (ka 10, 12001, .inl (nA (g 10)))), (ad 11, .inl (ka 11, 32768, .inl (nA (g 11)))), (ad 12, .inl (ka 12, 64, .inl (nA (g 12))))] H → va_D Ar [(ad 0, .inr (5, [.ref (ad 1), .ref (ad 2), .ref (ad 3), .ref (ad 4), .ref (ad 5), .int (nI (f 5)), .ref (ad 6), .int (nI 0), .int (nI R9.1), .int (nI 4294967295), .int (nI e9), .int (nI p9), .int (nI k9), .int (nI v9), .ref (ad 7), .ref (ad 8), .ref (ad 9), .ref (ad 10), .ref (ad 11), .int (nI (f 19)), .int (nI (f 20)), .int (nI (f 21)), .ref (ad 12)])), (ad 1, .inl (ka 1, 5, .inl (nA (upN l1 h (l1 4))))), (ad 2, .inl (ka 2, 40, .inl (nA ss))), (ad 3, .inl (ka 3, 160, .inl (nA nn))), (ad 4, .inl (ka 4, 4, .inl (nA (g 4)))), (ad 5, .inl (ka 5, 4, .inl (nA (g 5)))), (ad 6, .inl (ka 6, 200, .inl (nA (g 6)))), (ad 7, .inl (ka 7, 12001, .inr (.inl (lA t)))), (ad 8, .inl (ka 8, 12001, .inl (nA (g 8)))), (ad 9, .inl (ka 9, 12001, .inl (nA (g 9)))), (ad 10, .inl (ka 10, 12001, .inl (nA (g 10)))), (ad 11, .inl (ka 11, 32768, .inl (nA (g 11)))), (ad 12, .inl (ka 12, 64, .inl (nA (g 12))))] → va_S Ar s.heap H locs → ∀ ls : Array Slot, lv_has ls 3 [(0, .ref (ad 0)), (1, .int (nI h)), (2, .int (nI i))] → W p l e ({ frames := 4, cells := 0, slots := 0, locals := 91 } : Room) s m (([.ref (ad 0), .int (nI h)] : List Value).toArray) below meth c H locs 0 0 Q (F0 m 67 ls []) := by
          intro n67
          induction n67 with
          | zero => intro i ss nn hi hss hnn hm67; exact absurd hm67 (Nat.not_lt_zero _)
          | succ n67 ih67 =>
            intro i ss nn hi hss hnn hm67 H locs hP hD hS ls hl
            refine lv_iload_n hx hb dX5_program_67 rfl (lv_at hl 2 rfl) ?_
            refine lv_aload_n hx hb dX5_program_68 rfl (lv_at hl 0 rfl) ?_
            refine va_get (D := D) (ci := 5) (v := .ref (ad 1)) (C := RX5) (T := TX5) (N := 23) hx hb hU iX5 hown hK hP 0 rfl rfl 0 (by decide) (hU _ mU_75) (fun _ h9 => h9) rfl dX5_program_69 ?_
            refine lv_iconst (v := nI 4) hx hb dX5_program_72 (by decide) ?_
            refine n_iald hx hb hK hP 1 0 rfl rfl (i := 4) (by omega) (by decide) dX5_program_73 ?_
            refine lv_topE (nI (l1 4)) (congrArg nI (upN_n (by omega))) ?_
            refine lv_icmp_ge (tgt := 97) hx hb dX5_program_74 (by decide) (fun c74_6 => ?_) (fun c74_6 => ?_)
            · have c74_6 : l1 4 ≤ i := (nI_leI (a := l1 4) (b := i) (by omega) (by omega)).mp c74_6
              refine lv_aload_n hx hb dX5_program_97 rfl (lv_at hl 0 rfl) ?_
              refine lv_iconst (v := nI 0) hx hb dX5_program_98 (by decide) ?_
              refine va_put (D := D) (ci := 5) (v := .int (nI 0)) (ty := .boolean) (C := RX5) (T := TX5) (N := 23) hx hb hU iX5 tyX5 tyX5_ok nmX5 hown hK hP hD hS 0 rfl rfl 20 (by decide) (hU _ mU_248) (fun _ h9 => h9) rfl (by decide +kernel) rfl rfl (Nat.le_of_ble_eq_true rfl) dX5_program_99 (fun H locs hP hD hS => ?_)
              have hP : va_P D vwCl [(ad 0, .inr (5, [.ref (ad 1), .ref (ad 2), .ref (ad 3), .ref (ad 4), .ref (ad 5), .int (nI (f 5)), .ref (ad 6), .int (nI 0), .int (nI R9.1), .int (nI 4294967295), .int (nI e9), .int (nI p9), .int (nI k9), .int (nI v9), .ref (ad 7), .ref (ad 8), .ref (ad 9), .ref (ad 10), .ref (ad 11), .int (nI (f 19)), .int (nI 0), .int (nI (f 21)), .ref (ad 12)])), (ad 1, .inl (ka 1, 5, .inl (nA (upN l1 h (l1 4))))), (ad 2, .inl (ka 2, 40, .inl (nA ss))), (ad 3, .inl (ka 3, 160, .inl (nA nn))), (ad 4, .inl (ka 4, 4, .inl (nA (g 4)))), (ad 5, .inl (ka 5, 4, .inl (nA (g 5)))), (ad 6, .inl (ka 6, 200, .inl (nA (g 6)))), (ad 7, .inl (ka 7, 12001, .inr (.inl (lA t)))), (ad 8, .inl (ka 8, 12001, .inl (nA (g 8)))), (ad 9, .inl (ka 9, 12001, .inl (nA (g 9)))), (ad 10, .inl (ka 10, 12001, .inl (nA (g 10)))), (ad 11, .inl (ka 11, 32768, .inl (nA (g 11)))), (ad 12, .inl (ka 12, 64, .inl (nA (g 12))))] H := hP
              have hD : va_D Ar [(ad 0, .inr (5, [.ref (ad 1), .ref (ad 2), .ref (ad 3), .ref (ad 4), .ref (ad 5), .int (nI (f 5)), .ref (ad 6), .int (nI 0), .int (nI R9.1), .int (nI 4294967295), .int (nI e9), .int (nI p9), .int (nI k9), .int (nI v9), .ref (ad 7), .ref (ad 8), .ref (ad 9), .ref (ad 10), .ref (ad 11), .int (nI (f 19)), .int (nI 0), .int (nI (f 21)), .ref (ad 12)])), (ad 1, .inl (ka 1, 5, .inl (nA (upN l1 h (l1 4))))), (ad 2, .inl (ka 2, 40, .inl (nA ss))), (ad 3, .inl (ka 3, 160, .inl (nA nn))), (ad 4, .inl (ka 4, 4, .inl (nA (g 4)))), (ad 5, .inl (ka 5, 4, .inl (nA (g 5)))), (ad 6, .inl (ka 6, 200, .inl (nA (g 6)))), (ad 7, .inl (ka 7, 12001, .inr (.inl (lA t)))), (ad 8, .inl (ka 8, 12001, .inl (nA (g 8)))), (ad 9, .inl (ka 9, 12001, .inl (nA (g 9)))), (ad 10, .inl (ka 10, 12001, .inl (nA (g 10)))), (ad 11, .inl (ka 11, 32768, .inl (nA (g 11)))), (ad 12, .inl (ka 12, 64, .inl (nA (g 12))))] := hD
              refine lv_aload_n hx hb dX5_program_102 rfl (lv_at hl 0 rfl) ?_
              refine va_get (D := D) (ci := 5) (v := .ref (ad 1)) (C := RX5) (T := TX5) (N := 23) hx hb hU iX5 hown hK hP 0 rfl rfl 0 (by decide) (hU _ mU_75) (fun _ h9 => h9) rfl dX5_program_103 ?_
              refine lv_iload_n hx hb dX5_program_106 rfl (lv_at hl 1 rfl) ?_
              refine n_iald hx hb hK hP 1 0 rfl rfl (i := h) (by omega) (by decide) dX5_program_107 ?_
              refine lv_topE (nI (l1 4)) (congrArg nI upN_s) ?_
              subst hQ
              exact rwi (upN (upN (upN (upN (upN (upN (upN (upN (f) 7 (0)) 8 (R9.1)) 9 (4294967295)) 10 (e9)) 11 (p9)) 12 (k9)) 13 (v9)) 20 (0), upA (upA (upA (g) 1 (upN l1 h (l1 4))) 2 (ss)) 3 (nn), t) hx hb hr hlocks (⟨fun h9 => absurd c6_1.2 h9, fun _ => by rw [eR]; exact ⟨fun h9 => absurd c48_5 h9, fun _ => ⟨congrArg nI hlen.symm, e9, p9, k9, v9, _, _, _, rfl, pr_fin (by omega) hKp hlen hso hnu hss hnn (by omega) (by omega)⟩⟩⟩) hP hK hD hS dX5_program_108
            · have c74_6 : ¬ (l1 4 ≤ i) := fun h9 => c74_6 ((nI_leI (a := l1 4) (b := i) (by omega) (by omega)).mpr h9)
              refine lv_aload_n hx hb dX5_program_77 rfl (lv_at hl 0 rfl) ?_
              refine lv_bipush (v := nI 32) hx hb dX5_program_78 (by decide) ?_
              refine lv_iload_n hx hb dX5_program_80 rfl (lv_at hl 2 rfl) ?_
              refine lv_iadd hx hb dX5_program_81 ?_
              refine lv_topE (nI (32 + i)) (nI_add _ _) ?_
              refine lv_bipush (v := nI 8) hx hb dX5_program_82 (by decide) ?_
              refine lv_iload_n hx hb dX5_program_84 rfl (lv_at hl 1 rfl) ?_
              refine lv_imul hx hb dX5_program_85 ?_
              refine lv_topE (nI (8 * h)) (pk_mul _ _) ?_
              refine lv_iload_n hx hb dX5_program_86 rfl (lv_at hl 2 rfl) ?_
              refine lv_iadd hx hb dX5_program_87 ?_
              refine lv_topE (nI ((8 * h) + i)) (nI_add _ _) ?_
              refine kVv (As := [.int (nI (32 + i)), .int (nI ((8 * h) + i))]) (rest := []) (wr := []) ⟨hx, hb, hml, hown, hts⟩ (c_X5_copyTo l D ad ka (upN (upN (upN (upN (upN (upN (upN (f) 7 (0)) 8 (R9.1)) 9 (4294967295)) 10 (e9)) 11 (p9)) 12 (k9)) 13 (v9)) (upA (upA (upA (g) 1 (upN l1 h (l1 4))) 2 (ss)) 3 (nn)) t H.size (32 + i) ((8 * h) + i) (show (32 + i) < 40 from by omega) (show ((8 * h) + i) < 40 from by omega) (show (32 + i) ≠ ((8 * h) + i) from by omega)) (cwV 2 hts (gV mU_288 mU_289 mU_290 mU_6 mU_291) rfl rfl rfl (by decide +kernel) ⟨Nat.le_of_ble_eq_true rfl, Nat.le_of_ble_eq_true rfl⟩) (va_recv hK hP (ci := 5) (q0 := 0) rfl rfl) hP hK hD hS hA [0, 1, 2, 3, 4, 5, 6, 7, 8, 9, 10, 11, 12] [] [0, 1, 2, 3, 4, 5, 6, 7, 8, 9, 10, 11] [] rfl rfl rfl rfl (by decide) rfl rfl rfl hl.1 rfl (Nat.le_of_ble_eq_true rfl) dX5_program_88 ⟨by decide, by decide⟩ (fun u H locs hw hP hD hK hS => ?_)
              subst hw
              have hP : va_P D vwCl [(ad 0, .inr (5, [.ref (ad 1), .ref (ad 2), .ref (ad 3), .ref (ad 4), .ref (ad 5), .int (nI (f 5)), .ref (ad 6), .int (nI 0), .int (nI R9.1), .int (nI 4294967295), .int (nI e9), .int (nI p9), .int (nI k9), .int (nI v9), .ref (ad 7), .ref (ad 8), .ref (ad 9), .ref (ad 10), .ref (ad 11), .int (nI (f 19)), .int (nI (f 20)), .int (nI (f 21)), .ref (ad 12)])), (ad 1, .inl (ka 1, 5, .inl (nA (upN l1 h (l1 4))))), (ad 2, .inl (ka 2, 40, .inl (nA (upN ss ((8 * h) + i) (ss (32 + i)))))), (ad 3, .inl (ka 3, 160, .inl (nA (cp4 nn (32 + i) ((8 * h) + i))))), (ad 4, .inl (ka 4, 4, .inl (nA (g 4)))), (ad 5, .inl (ka 5, 4, .inl (nA (g 5)))), (ad 6, .inl (ka 6, 200, .inl (nA (g 6)))), (ad 7, .inl (ka 7, 12001, .inr (.inl (lA t)))), (ad 8, .inl (ka 8, 12001, .inl (nA (g 8)))), (ad 9, .inl (ka 9, 12001, .inl (nA (g 9)))), (ad 10, .inl (ka 10, 12001, .inl (nA (g 10)))), (ad 11, .inl (ka 11, 32768, .inl (nA (g 11)))), (ad 12, .inl (ka 12, 64, .inl (nA (g 12))))] H := hP
              have hD : va_D Ar [(ad 0, .inr (5, [.ref (ad 1), .ref (ad 2), .ref (ad 3), .ref (ad 4), .ref (ad 5), .int (nI (f 5)), .ref (ad 6), .int (nI 0), .int (nI R9.1), .int (nI 4294967295), .int (nI e9), .int (nI p9), .int (nI k9), .int (nI v9), .ref (ad 7), .ref (ad 8), .ref (ad 9), .ref (ad 10), .ref (ad 11), .int (nI (f 19)), .int (nI (f 20)), .int (nI (f 21)), .ref (ad 12)])), (ad 1, .inl (ka 1, 5, .inl (nA (upN l1 h (l1 4))))), (ad 2, .inl (ka 2, 40, .inl (nA (upN ss ((8 * h) + i) (ss (32 + i)))))), (ad 3, .inl (ka 3, 160, .inl (nA (cp4 nn (32 + i) ((8 * h) + i))))), (ad 4, .inl (ka 4, 4, .inl (nA (g 4)))), (ad 5, .inl (ka 5, 4, .inl (nA (g 5)))), (ad 6, .inl (ka 6, 200, .inl (nA (g 6)))), (ad 7, .inl (ka 7, 12001, .inr (.inl (lA t)))), (ad 8, .inl (ka 8, 12001, .inl (nA (g 8)))), (ad 9, .inl (ka 9, 12001, .inl (nA (g 9)))), (ad 10, .inl (ka 10, 12001, .inl (nA (g 10)))), (ad 11, .inl (ka 11, 32768, .inl (nA (g 11)))), (ad 12, .inl (ka 12, 64, .inl (nA (g 12))))] := hD
              have hK : va_K D vwCl (mT ka) s := hK.sub [0, 1, 2, 3, 4, 5, 6, 7, 8, 9, 10, 11] rfl
              refine lv_iinc (v := nI (i + 1)) (lv' := [(2, .int (nI (i + 1))), (0, .ref (ad 0)), (1, .int (nI h))]) hx hb dX5_program_91 hl (k := 2) rfl (by rw [show Int32.ofInt 1 = nI 1 from by decide, nI_add]) (by decide) rfl (fun ls hl => ?_)
              refine lv_goto (tgt := 67) hx hb dX5_program_94 (by decide) ?_
              exact ih67 (i + 1) (upN ss ((8 * h) + i) (ss (32 + i))) (cp4 nn (32 + i) ((8 * h) + i)) (by omega) (cps_step hss (by omega) (by omega)) (cpn_step hnn (by omega) (by omega)) (by omega) _ _ hP hD hS _ (lv_sub hl [1, 2, 0] rfl)
        exact L67_102 ((l1 4 - 0) + 1) 0 s2 n3 (Nat.zero_le _) (fun j => by rw [if_neg (by omega)]) (fun j => by rw [if_neg (by omega)]) (Nat.lt_succ_self _) _ _ hP hD hS _ (lv_sub hl [1, 2, 0] rfl)
      · have c48_5 : ¬ (R9.1 = 0) := fun h9 => c48_5 ((nI_eqG (a := R9.1) (b := 0) (by omega) (by omega)).mpr h9)
        exact absurd c25_3 c48_5
  · have c6_1 : ¬ (0 ≤ h ∧ h ≤ 1) := bP_f c6_1
    refine lv_iconst (v := nI 4294967295) hx hb dX5_program_9 (by decide) ?_
    subst hQ
    exact rwi (f, g, t) hx hb hr hlocks (⟨fun _ => ⟨rfl, rfl⟩, fun h9 => absurd ⟨Nat.zero_le _, h9⟩ c6_1⟩) hP hK hD hS dX5_program_10

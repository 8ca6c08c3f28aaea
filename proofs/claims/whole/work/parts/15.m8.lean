set_option maxHeartbeats 4000000 in
set_option maxRecDepth 100000 in
theorem c_X5_isWalked (l : Launch) (D : va_G) (ad : Nat → Nat) (ka : Nat → ClassId) (f : Nat → Nat) (g : Nat → Nat → Nat) (t : Nat → Nat) (sz : Nat)  (hI : MInv f g t) : Met l yX5_isWalked (.code yX5_isWalked cX5_isWalked 1 (some .boolean) :: wsL_law) ({ frames := 6, cells := 0, slots := 0, locals := 151 }) (va_Pc [.ref (ad 0)] (PW D (mW ad ka f g t) (mT ka) sz)) (va_Qi (fun (r : Int32) (u : MSt) => r = bP (u.1 19 ≤ 12000) ∧ sameM f u.1 g u.2.1 ∧ MBase u.1 u.2.1 ∧ Walked u.1 u.2.1 u.2.2 ∧ u.1 20 ≠ 0) (QW D (fun u : MSt => mW ad ka u.1 u.2.1 u.2.2) (fun _ => mT ka) (va_A (mW ad ka f g t) sz)) (va_A (mW ad ka f g t) sz)) 0 0 (va_A (mW ad ka f g t) sz) := by
  refine Met.ofW (cc := cX5_isWalked) (maxL := 1) (ret := (some .boolean)) (by decide) rfl ?_
  intro p e s m args below meth c s₁ B hml hv
  obtain ⟨rfl, hsz, hP, hK, hD0⟩ := hv
  have hx := B.exec
  have hb := B.bytes
  have hr := B.returns
  have hts := atoms_spec (ws := .code yX5_isWalked cX5_isWalked 1 (some .boolean) :: wsL_law) B.pre
  have hU : ∀ w ∈ wsL_law, w.before _ s = true := fun w h => hts w (List.mem_cons_of_mem _ h)
  have hown : s.vm.findClass RX5 = some m.cls := findClass_of_methodNamed B.named
  have hlocks := B.notSynchronized
  subst hsz
  have hD := hD0.self (sz := s.heap.size)
  generalize hAe : va_A (mW ad ka f g t) s.heap.size = Ar at hD ⊢
  have hA : ∀ q : Nat, s.heap.size ≤ q → Ar q := fun q h => by rw [← hAe]; exact Or.inr h
  have hS : va_S Ar s.heap s.heap [] := va_S.rf
  have hP : va_P D vwCl [(ad 0, .inr (5, [.ref (ad 1), .ref (ad 2), .ref (ad 3), .ref (ad 4), .ref (ad 5), .int (nI (f 5)), .ref (ad 6), .int (nI (f 7)), .int (nI (f 8)), .int (nI (f 9)), .int (nI (f 10)), .int (nI (f 11)), .int (nI (f 12)), .int (nI (f 13)), .ref (ad 7), .ref (ad 8), .ref (ad 9), .ref (ad 10), .ref (ad 11), .int (nI (f 19)), .int (nI (f 20)), .int (nI (f 21)), .ref (ad 12)])), (ad 1, .inl (ka 1, 5, .inl (nA (g 1)))), (ad 2, .inl (ka 2, 40, .inl (nA (g 2)))), (ad 3, .inl (ka 3, 160, .inl (nA (g 3)))), (ad 4, .inl (ka 4, 4, .inl (nA (g 4)))), (ad 5, .inl (ka 5, 4, .inl (nA (g 5)))), (ad 6, .inl (ka 6, 200, .inl (nA (g 6)))), (ad 7, .inl (ka 7, 12001, .inr (.inl (lA t)))), (ad 8, .inl (ka 8, 12001, .inl (nA (g 8)))), (ad 9, .inl (ka 9, 12001, .inl (nA (g 9)))), (ad 10, .inl (ka 10, 12001, .inl (nA (g 10)))), (ad 11, .inl (ka 11, 32768, .inl (nA (g 11)))), (ad 12, .inl (ka 12, 64, .inl (nA (g 12))))] s.heap := hP
  have hD : va_D Ar [(ad 0, .inr (5, [.ref (ad 1), .ref (ad 2), .ref (ad 3), .ref (ad 4), .ref (ad 5), .int (nI (f 5)), .ref (ad 6), .int (nI (f 7)), .int (nI (f 8)), .int (nI (f 9)), .int (nI (f 10)), .int (nI (f 11)), .int (nI (f 12)), .int (nI (f 13)), .ref (ad 7), .ref (ad 8), .ref (ad 9), .ref (ad 10), .ref (ad 11), .int (nI (f 19)), .int (nI (f 20)), .int (nI (f 21)), .ref (ad 12)])), (ad 1, .inl (ka 1, 5, .inl (nA (g 1)))), (ad 2, .inl (ka 2, 40, .inl (nA (g 2)))), (ad 3, .inl (ka 3, 160, .inl (nA (g 3)))), (ad 4, .inl (ka 4, 4, .inl (nA (g 4)))), (ad 5, .inl (ka 5, 4, .inl (nA (g 5)))), (ad 6, .inl (ka 6, 200, .inl (nA (g 6)))), (ad 7, .inl (ka 7, 12001, .inr (.inl (lA t)))), (ad 8, .inl (ka 8, 12001, .inl (nA (g 8)))), (ad 9, .inl (ka 9, 12001, .inl (nA (g 9)))), (ad 10, .inl (ka 10, 12001, .inl (nA (g 10)))), (ad 11, .inl (ka 11, 32768, .inl (nA (g 11)))), (ad 12, .inl (ka 12, 64, .inl (nA (g 12))))] := hD
  generalize hQ : MQ _ _ _ _ _ _ _ = Q
  have hl := lv_entry ([.ref (ad 0)]) (n := 1) (Nat.le_of_ble_eq_true rfl)
  rw [lg_entry_eq]
  generalize (lg_sl ([.ref (ad 0)]) ++ List.replicate (1 - (lg_sl ([.ref (ad 0)])).length) Slot.unset).toArray = ls at hl ⊢
  have hl : lv_has ls 1 [(0, .ref (ad 0))] := hl
  have hf20 := hI.1.2.2.2.2.2.2.2.2.2.1
  refine lv_aload_n hx hb dX5_isWalked_0 rfl (lv_at hl 0 rfl) ?_
  refine va_get (D := D) (ci := 5) (v := .int (nI (f 20))) (C := RX5) (T := TX5) (N := 23) hx hb hU iX5 hown hK hP 0 rfl rfl 20 (by decide) (hU _ mU_248) (fun _ h9 => h9) rfl dX5_isWalked_1 ?_
  refine lv_if_ne (tgt := 21) hx hb dX5_isWalked_4 (by decide) (fun c4_1 => ?_) (fun c4_1 => ?_)
  · have c4_1 : ¬ (f 20 = 0) := fun h9 => c4_1 ((nI_eqG (a := f 20) (b := 0) (by omega) (by omega)).mpr h9)
    have h12 := (hI.2 c4_1).2.1.1
    refine lv_aload_n hx hb dX5_isWalked_21 rfl (lv_at hl 0 rfl) ?_
    refine va_get (D := D) (ci := 5) (v := .int (nI (f 19))) (C := RX5) (T := TX5) (N := 23) hx hb hU iX5 hown hK hP 0 rfl rfl 19 (by decide) (hU _ mU_467) (fun _ h9 => h9) rfl dX5_isWalked_22 ?_
    refine lv_sipush (v := nI 12000) hx hb dX5_isWalked_25 (by decide) ?_
    refine lv_icmp_gt (tgt := 35) hx hb dX5_isWalked_28 (by decide) (fun c28_2 => ?_) (fun c28_2 => ?_)
    · have c28_2 : 12000 < f 19 := (nI_ltI (a := 12000) (b := f 19) (by omega) (by omega)).mp c28_2
      refine lv_iconst (v := nI 0) hx hb dX5_isWalked_35 (by decide) ?_
      subst hQ
      exact rwz (f, g, t) hx hb hr hlocks rfl (⟨bP_0 (show ¬ (f 19 ≤ 12000) from by omega), sameM_rfl f g, hI.1, hI.2 c4_1, c4_1⟩) hP hK hD hS dX5_isWalked_36
    · have c28_2 : ¬ (12000 < f 19) := fun h9 => c28_2 ((nI_ltI (a := 12000) (b := f 19) (by omega) (by omega)).mpr h9)
      refine lv_iconst (v := nI 1) hx hb dX5_isWalked_31 (by decide) ?_
      refine lv_goto (tgt := 36) hx hb dX5_isWalked_32 (by decide) ?_
      subst hQ
      exact rwz (f, g, t) hx hb hr hlocks rfl (⟨bP_1 (show f 19 ≤ 12000 from by omega), sameM_rfl f g, hI.1, hI.2 c4_1, c4_1⟩) hP hK hD hS dX5_isWalked_36
  · have c4_1 : f 20 = 0 := (nI_eqG (a := f 20) (b := 0) (by omega) (by omega)).mp c4_1
    refine lv_aload_n hx hb dX5_isWalked_7 rfl (lv_at hl 0 rfl) ?_
    refine lv_iconst (v := nI 4294967295) hx hb dX5_isWalked_8 (by decide) ?_
    refine kVv (As := [.int (nI 4294967295)]) (rest := []) (wr := []) ⟨hx, hb, hml, hown, hts⟩ (c_X5_lay l D ad ka f g t s.heap.size 4294967295 (show ∀ a, a < 6 → ∀ i, g a i < 2147483648 from hI.1.2.1) (show okP g from hI.1.1) (show ∀ h, h < 2 → layL g 4294967295 h ≤ 7 from lay7 hI.1.1 (fun h hh q => absurd q (fIn_no hh))) (show 4294967295 = 4294967295 ∨ (4294967295 < 16 ∧ 4294967295 % 8 < (g 1) (4294967295 / 8)) from Or.inl rfl)) (cwV 1 hts (gV mU_472 mU_473 mU_474 mU_6 mU_475) rfl rfl rfl (by decide +kernel) ⟨Nat.le_of_ble_eq_true rfl, Nat.le_of_ble_eq_true rfl⟩) (va_recv hK hP (ci := 5) (q0 := 0) rfl rfl) hP hK hD hS hA [0, 1, 2, 3, 4, 5, 6, 7, 8, 9, 10, 11, 12] [] [0, 1, 2, 3, 4, 5, 6, 7, 8, 9, 10, 11] [] rfl rfl rfl rfl (by decide) rfl rfl rfl hl.1 rfl (Nat.le_of_ble_eq_true rfl) dX5_isWalked_9 ⟨by decide, by decide⟩ (fun u H locs hw hP hD hK hS => ?_)
    obtain ⟨l1, s2, n3, hu, hLA, hLB⟩ := hw
    subst hu
    have hP : va_P D vwCl [(ad 0, .inr (5, [.ref (ad 1), .ref (ad 2), .ref (ad 3), .ref (ad 4), .ref (ad 5), .int (nI (f 5)), .ref (ad 6), .int (nI (f 7)), .int (nI (f 8)), .int (nI (f 9)), .int (nI (f 10)), .int (nI (f 11)), .int (nI (f 12)), .int (nI (f 13)), .ref (ad 7), .ref (ad 8), .ref (ad 9), .ref (ad 10), .ref (ad 11), .int (nI (f 19)), .int (nI (f 20)), .int (nI (f 21)), .ref (ad 12)])), (ad 1, .inl (ka 1, 5, .inl (nA l1))), (ad 2, .inl (ka 2, 40, .inl (nA s2))), (ad 3, .inl (ka 3, 160, .inl (nA n3))), (ad 4, .inl (ka 4, 4, .inl (nA (g 4)))), (ad 5, .inl (ka 5, 4, .inl (nA (g 5)))), (ad 6, .inl (ka 6, 200, .inl (nA (g 6)))), (ad 7, .inl (ka 7, 12001, .inr (.inl (lA t)))), (ad 8, .inl (ka 8, 12001, .inl (nA (g 8)))), (ad 9, .inl (ka 9, 12001, .inl (nA (g 9)))), (ad 10, .inl (ka 10, 12001, .inl (nA (g 10)))), (ad 11, .inl (ka 11, 32768, .inl (nA (g 11)))), (ad 12, .inl (ka 12, 64, .inl (nA (g 12))))] H := hP
    have hD : va_D Ar [(ad 0, .inr (5, [.ref (ad 1), .ref (ad 2), .ref (ad 3), .ref (ad 4), .ref (ad 5), .int (nI (f 5)), .ref (ad 6), .int (nI (f 7)), .int (nI (f 8)), .int (nI (f 9)), .int (nI (f 10)), .int (nI (f 11)), .int (nI (f 12)), .int (nI (f 13)), .ref (ad 7), .ref (ad 8), .ref (ad 9), .ref (ad 10), .ref (ad 11), .int (nI (f 19)), .int (nI (f 20)), .int (nI (f 21)), .ref (ad 12)])), (ad 1, .inl (ka 1, 5, .inl (nA l1))), (ad 2, .inl (ka 2, 40, .inl (nA s2))), (ad 3, .inl (ka 3, 160, .inl (nA n3))), (ad 4, .inl (ka 4, 4, .inl (nA (g 4)))), (ad 5, .inl (ka 5, 4, .inl (nA (g 5)))), (ad 6, .inl (ka 6, 200, .inl (nA (g 6)))), (ad 7, .inl (ka 7, 12001, .inr (.inl (lA t)))), (ad 8, .inl (ka 8, 12001, .inl (nA (g 8)))), (ad 9, .inl (ka 9, 12001, .inl (nA (g 9)))), (ad 10, .inl (ka 10, 12001, .inl (nA (g 10)))), (ad 11, .inl (ka 11, 32768, .inl (nA (g 11)))), (ad 12, .inl (ka 12, 64, .inl (nA (g 12))))] := hD
    have hK : va_K D vwCl (mT ka) s := hK.sub [0, 1, 2, 3, 4, 5, 6, 7, 8, 9, 10, 11] rfl
    refine lv_aload_n hx hb dX5_isWalked_12 rfl (lv_at hl 0 rfl) ?_
    refine kVv (As := []) (rest := []) (wr := []) ⟨hx, hb, hml, hown, hts⟩ (c_X5_walkOn l D ad ka f (upA (upA (upA (g) 1 (l1)) 2 (s2)) 3 (n3)) t H.size  (show ∀ a, a < 6 → ∀ i, (upA (upA (upA (g) 1 (l1)) 2 (s2)) 3 (n3)) a i < 2147483648 from hg_lay0 hI.1.2.1 hLB) (show okL (upA (upA (upA (g) 1 (l1)) 2 (s2)) 3 (n3)) from okL_of hI.1.1 (lay7 hI.1.1 (fun h hh q => absurd q (fIn_no hh))) hLA) (show (f 5) < 2 from hI.1.2.2.1) (show ∀ w, w < 4 → (g 4) w < 4 from hI.1.2.2.2.1)) (cwV 0 hts (gV mU_476 mU_477 mU_478 mU_6 mU_479) rfl rfl rfl (by decide +kernel) ⟨Nat.le_of_ble_eq_true rfl, Nat.le_of_ble_eq_true rfl⟩) (va_recv hK hP (ci := 5) (q0 := 0) rfl rfl) hP hK hD hS hA [0, 1, 2, 3, 4, 5, 6, 7, 8, 9, 10, 11, 12] [] [0, 1, 2, 3, 4, 5, 6, 7, 8, 9, 10, 11] [] rfl rfl rfl rfl (by decide) rfl rfl rfl hl.1 rfl (Nat.le_of_ble_eq_true rfl) dX5_isWalked_13 ⟨by decide, by decide⟩ (fun u H locs hw hP hD hK hS => ?_)
    obtain ⟨tw4, htw4, hu⟩ := hw
    subst hu
    have hP : va_P D vwCl [(ad 0, .inr (5, [.ref (ad 1), .ref (ad 2), .ref (ad 3), .ref (ad 4), .ref (ad 5), .int (nI (f 5)), .ref (ad 6), .int (nI (f 7)), .int (nI (f 8)), .int (nI (f 9)), .int (nI (f 10)), .int (nI (f 11)), .int (nI (f 12)), .int (nI (f 13)), .ref (ad 7), .ref (ad 8), .ref (ad 9), .ref (ad 10), .ref (ad 11), .int (nI ((walkB (f 5) (upA (upA (upA (g) 1 (l1)) 2 (s2)) 3 (n3)) t (g 8) (g 9) (g 10)).1)), .int (nI (f 20)), .int (nI (f 21)), .ref (ad 12)])), (ad 1, .inl (ka 1, 5, .inl (nA l1))), (ad 2, .inl (ka 2, 40, .inl (nA s2))), (ad 3, .inl (ka 3, 160, .inl (nA n3))), (ad 4, .inl (ka 4, 4, .inl (nA (g 4)))), (ad 5, .inl (ka 5, 4, .inl (nA (g 5)))), (ad 6, .inl (ka 6, 200, .inl (nA (g 6)))), (ad 7, .inl (ka 7, 12001, .inr (.inl (lA ((walkB (f 5) (upA (upA (upA (g) 1 (l1)) 2 (s2)) 3 (n3)) t (g 8) (g 9) (g 10)).2.1))))), (ad 8, .inl (ka 8, 12001, .inl (nA ((walkB (f 5) (upA (upA (upA (g) 1 (l1)) 2 (s2)) 3 (n3)) t (g 8) (g 9) (g 10)).2.2.1)))), (ad 9, .inl (ka 9, 12001, .inl (nA ((walkB (f 5) (upA (upA (upA (g) 1 (l1)) 2 (s2)) 3 (n3)) t (g 8) (g 9) (g 10)).2.2.2.1)))), (ad 10, .inl (ka 10, 12001, .inl (nA ((walkB (f 5) (upA (upA (upA (g) 1 (l1)) 2 (s2)) 3 (n3)) t (g 8) (g 9) (g 10)).2.2.2.2)))), (ad 11, .inl (ka 11, 32768, .inl (nA tw4))), (ad 12, .inl (ka 12, 64, .inl (nA (g 12))))] H := hP
    have hD : va_D Ar [(ad 0, .inr (5, [.ref (ad 1), .ref (ad 2), .ref (ad 3), .ref (ad 4), .ref (ad 5), .int (nI (f 5)), .ref (ad 6), .int (nI (f 7)), .int (nI (f 8)), .int (nI (f 9)), .int (nI (f 10)), .int (nI (f 11)), .int (nI (f 12)), .int (nI (f 13)), .ref (ad 7), .ref (ad 8), .ref (ad 9), .ref (ad 10), .ref (ad 11), .int (nI ((walkB (f 5) (upA (upA (upA (g) 1 (l1)) 2 (s2)) 3 (n3)) t (g 8) (g 9) (g 10)).1)), .int (nI (f 20)), .int (nI (f 21)), .ref (ad 12)])), (ad 1, .inl (ka 1, 5, .inl (nA l1))), (ad 2, .inl (ka 2, 40, .inl (nA s2))), (ad 3, .inl (ka 3, 160, .inl (nA n3))), (ad 4, .inl (ka 4, 4, .inl (nA (g 4)))), (ad 5, .inl (ka 5, 4, .inl (nA (g 5)))), (ad 6, .inl (ka 6, 200, .inl (nA (g 6)))), (ad 7, .inl (ka 7, 12001, .inr (.inl (lA ((walkB (f 5) (upA (upA (upA (g) 1 (l1)) 2 (s2)) 3 (n3)) t (g 8) (g 9) (g 10)).2.1))))), (ad 8, .inl (ka 8, 12001, .inl (nA ((walkB (f 5) (upA (upA (upA (g) 1 (l1)) 2 (s2)) 3 (n3)) t (g 8) (g 9) (g 10)).2.2.1)))), (ad 9, .inl (ka 9, 12001, .inl (nA ((walkB (f 5) (upA (upA (upA (g) 1 (l1)) 2 (s2)) 3 (n3)) t (g 8) (g 9) (g 10)).2.2.2.1)))), (ad 10, .inl (ka 10, 12001, .inl (nA ((walkB (f 5) (upA (upA (upA (g) 1 (l1)) 2 (s2)) 3 (n3)) t (g 8) (g 9) (g 10)).2.2.2.2)))), (ad 11, .inl (ka 11, 32768, .inl (nA tw4))), (ad 12, .inl (ka 12, 64, .inl (nA (g 12))))] := hD
    obtain ⟨bw4, ebw4⟩ : ∃ b : BT, walkB (f 5) (upA (upA (upA (g) 1 (l1)) 2 (s2)) 3 (n3)) t (g 8) (g 9) (g 10) = b := ⟨_, rfl⟩
    rw [ebw4] at hP hD
    have hP : va_P D vwCl [(ad 0, .inr (5, [.ref (ad 1), .ref (ad 2), .ref (ad 3), .ref (ad 4), .ref (ad 5), .int (nI (f 5)), .ref (ad 6), .int (nI (f 7)), .int (nI (f 8)), .int (nI (f 9)), .int (nI (f 10)), .int (nI (f 11)), .int (nI (f 12)), .int (nI (f 13)), .ref (ad 7), .ref (ad 8), .ref (ad 9), .ref (ad 10), .ref (ad 11), .int (nI bw4.1), .int (nI (f 20)), .int (nI (f 21)), .ref (ad 12)])), (ad 1, .inl (ka 1, 5, .inl (nA l1))), (ad 2, .inl (ka 2, 40, .inl (nA s2))), (ad 3, .inl (ka 3, 160, .inl (nA n3))), (ad 4, .inl (ka 4, 4, .inl (nA (g 4)))), (ad 5, .inl (ka 5, 4, .inl (nA (g 5)))), (ad 6, .inl (ka 6, 200, .inl (nA (g 6)))), (ad 7, .inl (ka 7, 12001, .inr (.inl (lA bw4.2.1)))), (ad 8, .inl (ka 8, 12001, .inl (nA bw4.2.2.1))), (ad 9, .inl (ka 9, 12001, .inl (nA bw4.2.2.2.1))), (ad 10, .inl (ka 10, 12001, .inl (nA bw4.2.2.2.2))), (ad 11, .inl (ka 11, 32768, .inl (nA tw4))), (ad 12, .inl (ka 12, 64, .inl (nA (g 12))))] H := hP
    have hD : va_D Ar [(ad 0, .inr (5, [.ref (ad 1), .ref (ad 2), .ref (ad 3), .ref (ad 4), .ref (ad 5), .int (nI (f 5)), .ref (ad 6), .int (nI (f 7)), .int (nI (f 8)), .int (nI (f 9)), .int (nI (f 10)), .int (nI (f 11)), .int (nI (f 12)), .int (nI (f 13)), .ref (ad 7), .ref (ad 8), .ref (ad 9), .ref (ad 10), .ref (ad 11), .int (nI bw4.1), .int (nI (f 20)), .int (nI (f 21)), .ref (ad 12)])), (ad 1, .inl (ka 1, 5, .inl (nA l1))), (ad 2, .inl (ka 2, 40, .inl (nA s2))), (ad 3, .inl (ka 3, 160, .inl (nA n3))), (ad 4, .inl (ka 4, 4, .inl (nA (g 4)))), (ad 5, .inl (ka 5, 4, .inl (nA (g 5)))), (ad 6, .inl (ka 6, 200, .inl (nA (g 6)))), (ad 7, .inl (ka 7, 12001, .inr (.inl (lA bw4.2.1)))), (ad 8, .inl (ka 8, 12001, .inl (nA bw4.2.2.1))), (ad 9, .inl (ka 9, 12001, .inl (nA bw4.2.2.2.1))), (ad 10, .inl (ka 10, 12001, .inl (nA bw4.2.2.2.2))), (ad 11, .inl (ka 11, 32768, .inl (nA tw4))), (ad 12, .inl (ka 12, 64, .inl (nA (g 12))))] := hD
    have hK : va_K D vwCl (mT ka) s := hK.sub [0, 1, 2, 3, 4, 5, 6, 7, 8, 9, 10, 11] rfl
    refine lv_aload_n hx hb dX5_isWalked_16 rfl (lv_at hl 0 rfl) ?_
    refine lv_iconst (v := nI 1) hx hb dX5_isWalked_17 (by decide) ?_
    refine va_put (D := D) (ci := 5) (v := .int (nI 1)) (ty := .boolean) (C := RX5) (T := TX5) (N := 23) hx hb hU iX5 tyX5 tyX5_ok nmX5 hown hK hP hD hS 0 rfl rfl 20 (by decide) (hU _ mU_248) (fun _ h9 => h9) rfl (by decide +kernel) rfl rfl (Nat.le_of_ble_eq_true rfl) dX5_isWalked_18 (fun H locs hP hD hS => ?_)
    have hP : va_P D vwCl [(ad 0, .inr (5, [.ref (ad 1), .ref (ad 2), .ref (ad 3), .ref (ad 4), .ref (ad 5), .int (nI (f 5)), .ref (ad 6), .int (nI (f 7)), .int (nI (f 8)), .int (nI (f 9)), .int (nI (f 10)), .int (nI (f 11)), .int (nI (f 12)), .int (nI (f 13)), .ref (ad 7), .ref (ad 8), .ref (ad 9), .ref (ad 10), .ref (ad 11), .int (nI bw4.1), .int (nI 1), .int (nI (f 21)), .ref (ad 12)])), (ad 1, .inl (ka 1, 5, .inl (nA l1))), (ad 2, .inl (ka 2, 40, .inl (nA s2))), (ad 3, .inl (ka 3, 160, .inl (nA n3))), (ad 4, .inl (ka 4, 4, .inl (nA (g 4)))), (ad 5, .inl (ka 5, 4, .inl (nA (g 5)))), (ad 6, .inl (ka 6, 200, .inl (nA (g 6)))), (ad 7, .inl (ka 7, 12001, .inr (.inl (lA bw4.2.1)))), (ad 8, .inl (ka 8, 12001, .inl (nA bw4.2.2.1))), (ad 9, .inl (ka 9, 12001, .inl (nA bw4.2.2.2.1))), (ad 10, .inl (ka 10, 12001, .inl (nA bw4.2.2.2.2))), (ad 11, .inl (ka 11, 32768, .inl (nA tw4))), (ad 12, .inl (ka 12, 64, .inl (nA (g 12))))] H := hP
    have hD : va_D Ar [(ad 0, .inr (5, [.ref (ad 1), .ref (ad 2), .ref (ad 3), .ref (ad 4), .ref (ad 5), .int (nI (f 5)), .ref (ad 6), .int (nI (f 7)), .int (nI (f 8)), .int (nI (f 9)), .int (nI (f 10)), .int (nI (f 11)), .int (nI (f 12)), .int (nI (f 13)), .ref (ad 7), .ref (ad 8), .ref (ad 9), .ref (ad 10), .ref (ad 11), .int (nI bw4.1), .int (nI 1), .int (nI (f 21)), .ref (ad 12)])), (ad 1, .inl (ka 1, 5, .inl (nA l1))), (ad 2, .inl (ka 2, 40, .inl (nA s2))), (ad 3, .inl (ka 3, 160, .inl (nA n3))), (ad 4, .inl (ka 4, 4, .inl (nA (g 4)))), (ad 5, .inl (ka 5, 4, .inl (nA (g 5)))), (ad 6, .inl (ka 6, 200, .inl (nA (g 6)))), (ad 7, .inl (ka 7, 12001, .inr (.inl (lA bw4.2.1)))), (ad 8, .inl (ka 8, 12001, .inl (nA bw4.2.2.1))), (ad 9, .inl (ka 9, 12001, .inl (nA bw4.2.2.2.1))), (ad 10, .inl (ka 10, 12001, .inl (nA bw4.2.2.2.2))), (ad 11, .inl (ka 11, 32768, .inl (nA tw4))), (ad 12, .inl (ka 12, 64, .inl (nA (g 12))))] := hD
    have hwl := walked_lay (tb := tw4) (mf := f 5) (t := t) (p := g 8) (q := g 9) (r := g 10) hI.1.1 (lay7 hI.1.1 (fun h hh q => absurd q (fIn_no hh))) hI.1.2.2.2.1 hLA bw4 ebw4
    have h12 := hwl.2.1.1
    refine lv_aload_n hx hb dX5_isWalked_21 rfl (lv_at hl 0 rfl) ?_
    refine va_get (D := D) (ci := 5) (v := .int (nI bw4.1)) (C := RX5) (T := TX5) (N := 23) hx hb hU iX5 hown hK hP 0 rfl rfl 19 (by decide) (hU _ mU_467) (fun _ h9 => h9) rfl dX5_isWalked_22 ?_
    refine lv_sipush (v := nI 12000) hx hb dX5_isWalked_25 (by decide) ?_
    refine lv_icmp_gt (tgt := 35) hx hb dX5_isWalked_28 (by decide) (fun c28_6 => ?_) (fun c28_6 => ?_)
    · have c28_6 : 12000 < bw4.1 := (nI_ltI (a := 12000) (b := bw4.1) (by omega) (by omega)).mp c28_6
      refine lv_iconst (v := nI 0) hx hb dX5_isWalked_35 (by decide) ?_
      subst hQ
      exact rwz (upN (upN (f) 19 (bw4.1)) 20 (1), upA (upA (upA (upA (upA (upA (upA (g) 1 (l1)) 2 (s2)) 3 (n3)) 8 (bw4.2.2.1)) 9 (bw4.2.2.2.1)) 10 (bw4.2.2.2.2)) 11 (tw4), bw4.2.1) hx hb hr hlocks rfl (⟨bP_0 (show ¬ (bw4.1 ≤ 12000) from by omega), ⟨fun k h1 h2 => upN_le2 h1 h2, ⟨hLA.1, hLA.2.1, hLA.2.2.1⟩, rfl, rfl, rfl, rfl⟩, MBase_same hI.1 ⟨fun k h1 h2 => upN_le2 h1 h2, ⟨hLA.1, hLA.2.1, hLA.2.2.1⟩, rfl, rfl, rfl, rfl⟩ (hg_lay hI.1.2.1 hLB) (show (1 : Nat) < 2 from by decide), ⟨hwl.1, hwl.2.1, hwl.2.2.1⟩, (show (1 : Nat) ≠ 0 from by decide)⟩) hP hK hD hS dX5_isWalked_36
    · have c28_6 : ¬ (12000 < bw4.1) := fun h9 => c28_6 ((nI_ltI (a := 12000) (b := bw4.1) (by omega) (by omega)).mpr h9)
      refine lv_iconst (v := nI 1) hx hb dX5_isWalked_31 (by decide) ?_
      refine lv_goto (tgt := 36) hx hb dX5_isWalked_32 (by decide) ?_
      subst hQ
      exact rwz (upN (upN (f) 19 (bw4.1)) 20 (1), upA (upA (upA (upA (upA (upA (upA (g) 1 (l1)) 2 (s2)) 3 (n3)) 8 (bw4.2.2.1)) 9 (bw4.2.2.2.1)) 10 (bw4.2.2.2.2)) 11 (tw4), bw4.2.1) hx hb hr hlocks rfl (⟨bP_1 (show bw4.1 ≤ 12000 from by omega), ⟨fun k h1 h2 => upN_le2 h1 h2, ⟨hLA.1, hLA.2.1, hLA.2.2.1⟩, rfl, rfl, rfl, rfl⟩, MBase_same hI.1 ⟨fun k h1 h2 => upN_le2 h1 h2, ⟨hLA.1, hLA.2.1, hLA.2.2.1⟩, rfl, rfl, rfl, rfl⟩ (hg_lay hI.1.2.1 hLB) (show (1 : Nat) < 2 from by decide), ⟨hwl.1, hwl.2.1, hwl.2.2.1⟩, (show (1 : Nat) ≠ 0 from by decide)⟩) hP hK hD hS dX5_isWalked_36

set_option maxHeartbeats 4000000 in
set_option maxRecDepth 100000 in
theorem c_X5_walk (l : Launch) (D : va_G) (ad : Nat → Nat) (ka : Nat → ClassId) (f : Nat → Nat) (g : Nat → Nat → Nat) (t : Nat → Nat) (sz : Nat)  (hI : MInv f g t) : Met l yX5_walk (.code yX5_walk cX5_walk 1 (some .int) :: wsL_law) ({ frames := 7, cells := 0, slots := 0, locals := 171 }) (va_Pc [.ref (ad 0)] (PW D (mW ad ka f g t) (mT ka) sz)) (va_Qi (fun (r : Int32) (u : MSt) => r = nI (if u.1 19 ≤ 12000 then u.1 19 else 4294967294) ∧ sameM f u.1 g u.2.1 ∧ MBase u.1 u.2.1 ∧ Walked u.1 u.2.1 u.2.2 ∧ u.1 20 ≠ 0) (QW D (fun u : MSt => mW ad ka u.1 u.2.1 u.2.2) (fun _ => mT ka) (va_A (mW ad ka f g t) sz)) (va_A (mW ad ka f g t) sz)) 0 0 (va_A (mW ad ka f g t) sz) := by
  refine Met.ofW (cc := cX5_walk) (maxL := 1) (ret := (some .int)) (by decide) rfl ?_
  intro p e s m args below meth c s₁ B hml hv
  obtain ⟨rfl, hsz, hP, hK, hD0⟩ := hv
  have hx := B.exec
  have hb := B.bytes
  have hr := B.returns
  have hts := atoms_spec (ws := .code yX5_walk cX5_walk 1 (some .int) :: wsL_law) B.pre
  have hU : ∀ w ∈ wsL_law, w.before _ s = true := fun w h => hts w (List.mem_cons_of_mem _ h)
  have hown : s.vm.findClass RX5 = some m.cls := findClass_of_methodNamed B.named
  have hlocks := B.notSynchronized
  subst hsz
  have hD := hD0.self (sz := s.heap.size)
  generalize hAe : va_A (mW ad ka f g t) s.heap.size = Ar at hD ⊢
  have hA : ∀ q : Nat, s.heap.size ≤ q → Ar q := fun q h => by rw [← hAe]; exact Or.inr h
  have hS : va_S Ar s.heap s.heap [] := va_S.rf
  have hP : va_P D vwCl [(ad 0, .inr (5, [.ref (ad 1), .ref (ad 2), .ref (ad 3), .ref (ad 4), .ref (ad 5), .int (nI (f 5)), .ref (ad 6), .int (nI (f 7)), .int (nI (f 8)), .int (nI (f 9)), .int (nI (f 10)), .int (nI (f 11)), .int (nI (f 12)), .int (nI (f 13)), .ref (ad 7), .ref (ad 8), .ref (ad 9), .ref (ad 10), .ref (ad 11), .int (nI (f 19)), .int (nI (f 20)), .int (nI (f 21)), .ref (ad 12)])), (ad 1, .inl (ka 1, 5, .inl (nA (g 1)))), (ad 2, .inl (ka 2, 40, .inl (nA (g 2)))), (ad 3, .inl (ka 3, 160, .inl (nA (g 3)))), (ad 4, .inl (ka 4, 4, .inl (nA (g 4)))), (ad 5, .inl (ka 5, 4, .inl (nA (g 5)))), (ad 6, .inl (ka 6, 200, .inl (nA (g 6)))), (ad 7, .inl (ka 7, 12001, .inr (.inl (lA t)))), (ad 8, .inl (ka 8, 12001, .inl (nA (g 8)))), (ad 9, .inl (ka 9, 12001, .inl (nA (g 9)))), (ad 10, .inl (ka 10, 12001, .inl (nA (g 10)))), (ad 11, .inl (ka 11, 32768, .inl (nA (g 11)))), (ad 12, .inl (ka 12, 64, .inl (nA (g 12))))] s.heap := hP
  have hD : va_D Ar [(ad 0, .inr (5, [.ref (ad 1), .ref (ad 2), .ref (ad 3), .ref (ad 4), .ref (ad 5), .int (nI (f 5)), .ref (ad 6), .int (nI (f 7)), .int (nI (f 8)), .int (nI (f 9)), .int (nI (f 10)), .int (nI (f 11)), .int (nI (f 12)), .int (nI (f 13)), .ref (ad 7), .ref (ad 8), .ref (ad 9), .ref (ad 10), .ref (ad 11), .int (nI (f 19)), .int (nI (f 20)), .int (nI (f 21)), .ref (ad 12)])), (ad 1, .inl (ka 1, 5, .inl (nA (g 1)))), (ad 2, .inl (ka 2, 40, .inl (nA (g 2)))), (ad 3, .inl (ka 3, 160, .inl (nA (g 3)))), (ad 4, .inl (ka 4, 4, .inl (nA (g 4)))), (ad 5, .inl (ka 5, 4, .inl (nA (g 5)))), (ad 6, .inl (ka 6, 200, .inl (nA (g 6)))), (ad 7, .inl (ka 7, 12001, .inr (.inl (lA t)))), (ad 8, .inl (ka 8, 12001, .inl (nA (g 8)))), (ad 9, .inl (ka 9, 12001, .inl (nA (g 9)))), (ad 10, .inl (ka 10, 12001, .inl (nA (g 10)))), (ad 11, .inl (ka 11, 32768, .inl (nA (g 11)))), (ad 12, .inl (ka 12, 64, .inl (nA (g 12))))] := hD
  generalize hQ : MQ _ _ _ _ _ _ _ = Q
  have hl := lv_entry ([.ref (ad 0)]) (n := 1) (Nat.le_of_ble_eq_true rfl)
  rw [lg_entry_eq]
  generalize (lg_sl ([.ref (ad 0)]) ++ List.replicate (1 - (lg_sl ([.ref (ad 0)])).length) Slot.unset).toArray = ls at hl ⊢
  have hl : lv_has ls 1 [(0, .ref (ad 0))] := hl
  refine lv_aload_n hx hb dX5_walk_0 rfl (lv_at hl 0 rfl) ?_
  refine kVi (As := []) (rest := []) (wr := []) ⟨hx, hb, hml, hown, hts⟩ (c_X5_isWalked l D ad ka f g t s.heap.size  (show MInv f g t from hI)) (cwV 0 hts (gV mU_468 mU_469 mU_470 mU_6 mU_471) rfl rfl rfl (by decide +kernel) ⟨Nat.le_of_ble_eq_true rfl, Nat.le_of_ble_eq_true rfl⟩) (va_recv hK hP (ci := 5) (q0 := 0) rfl rfl) hP hK hD hS hA [0, 1, 2, 3, 4, 5, 6, 7, 8, 9, 10, 11, 12] [] [0, 1, 2, 3, 4, 5, 6, 7, 8, 9, 10, 11] [] rfl rfl rfl rfl (by decide) rfl rfl rfl hl.1 rfl (Nat.le_of_ble_eq_true rfl) dX5_walk_1 ⟨by decide, by decide⟩ (fun r_2 u H locs hw hP hD hK hS => ?_)
  obtain ⟨f1, g1, t1⟩ := u
  obtain ⟨hr1, hsm1, hMB1, hWk1, h201⟩ := hw
  subst hr1
  have hsm1 : sameM f f1 g g1 := hsm1
  have hMB1 : MBase f1 g1 := hMB1
  have hWk1 : Walked f1 g1 t1 := hWk1
  have h201 : f1 20 ≠ 0 := h201
  have hP : va_P D vwCl [(ad 0, .inr (5, [.ref (ad 1), .ref (ad 2), .ref (ad 3), .ref (ad 4), .ref (ad 5), .int (nI (f1 5)), .ref (ad 6), .int (nI (f1 7)), .int (nI (f1 8)), .int (nI (f1 9)), .int (nI (f1 10)), .int (nI (f1 11)), .int (nI (f1 12)), .int (nI (f1 13)), .ref (ad 7), .ref (ad 8), .ref (ad 9), .ref (ad 10), .ref (ad 11), .int (nI (f1 19)), .int (nI (f1 20)), .int (nI (f1 21)), .ref (ad 12)])), (ad 1, .inl (ka 1, 5, .inl (nA (g1 1)))), (ad 2, .inl (ka 2, 40, .inl (nA (g1 2)))), (ad 3, .inl (ka 3, 160, .inl (nA (g1 3)))), (ad 4, .inl (ka 4, 4, .inl (nA (g1 4)))), (ad 5, .inl (ka 5, 4, .inl (nA (g1 5)))), (ad 6, .inl (ka 6, 200, .inl (nA (g1 6)))), (ad 7, .inl (ka 7, 12001, .inr (.inl (lA t1)))), (ad 8, .inl (ka 8, 12001, .inl (nA (g1 8)))), (ad 9, .inl (ka 9, 12001, .inl (nA (g1 9)))), (ad 10, .inl (ka 10, 12001, .inl (nA (g1 10)))), (ad 11, .inl (ka 11, 32768, .inl (nA (g1 11)))), (ad 12, .inl (ka 12, 64, .inl (nA (g1 12))))] H := hP
  have hD : va_D Ar [(ad 0, .inr (5, [.ref (ad 1), .ref (ad 2), .ref (ad 3), .ref (ad 4), .ref (ad 5), .int (nI (f1 5)), .ref (ad 6), .int (nI (f1 7)), .int (nI (f1 8)), .int (nI (f1 9)), .int (nI (f1 10)), .int (nI (f1 11)), .int (nI (f1 12)), .int (nI (f1 13)), .ref (ad 7), .ref (ad 8), .ref (ad 9), .ref (ad 10), .ref (ad 11), .int (nI (f1 19)), .int (nI (f1 20)), .int (nI (f1 21)), .ref (ad 12)])), (ad 1, .inl (ka 1, 5, .inl (nA (g1 1)))), (ad 2, .inl (ka 2, 40, .inl (nA (g1 2)))), (ad 3, .inl (ka 3, 160, .inl (nA (g1 3)))), (ad 4, .inl (ka 4, 4, .inl (nA (g1 4)))), (ad 5, .inl (ka 5, 4, .inl (nA (g1 5)))), (ad 6, .inl (ka 6, 200, .inl (nA (g1 6)))), (ad 7, .inl (ka 7, 12001, .inr (.inl (lA t1)))), (ad 8, .inl (ka 8, 12001, .inl (nA (g1 8)))), (ad 9, .inl (ka 9, 12001, .inl (nA (g1 9)))), (ad 10, .inl (ka 10, 12001, .inl (nA (g1 10)))), (ad 11, .inl (ka 11, 32768, .inl (nA (g1 11)))), (ad 12, .inl (ka 12, 64, .inl (nA (g1 12))))] := hD
  have hK : va_K D vwCl (mT ka) s := hK.sub [0, 1, 2, 3, 4, 5, 6, 7, 8, 9, 10, 11] rfl
  refine lv_if_eq (tgt := 14) hx hb dX5_walk_4 (by decide) (fun c4_3 => ?_) (fun c4_3 => ?_)
  · have c4_3 : ¬ (f1 19 ≤ 12000) := bP_f c4_3
    refine lv_bipush (v := nI 4294967294) hx hb dX5_walk_14 (by decide) ?_
    subst hQ
    exact rwi (f1, g1, t1) hx hb hr hlocks (⟨by rw [if_neg c4_3], hsm1, hMB1, hWk1, h201⟩) hP hK hD hS dX5_walk_16
  · have c4_3 : f1 19 ≤ 12000 := bP_t c4_3
    refine lv_aload_n hx hb dX5_walk_7 rfl (lv_at hl 0 rfl) ?_
    refine va_get (D := D) (ci := 5) (v := .int (nI (f1 19))) (C := RX5) (T := TX5) (N := 23) hx hb hU iX5 hown hK hP 0 rfl rfl 19 (by decide) (hU _ mU_467) (fun _ h9 => h9) rfl dX5_walk_8 ?_
    refine lv_goto (tgt := 16) hx hb dX5_walk_11 (by decide) ?_
    subst hQ
    exact rwi (f1, g1, t1) hx hb hr hlocks (⟨by rw [if_pos c4_3], hsm1, hMB1, hWk1, h201⟩) hP hK hD hS dX5_walk_16

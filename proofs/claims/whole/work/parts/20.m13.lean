def missN (mf : Nat) (g : Nat → Nat → Nat) (n : Nat) (t : Nat → Nat) (en pa pb : Nat) : Nat := if en = 0 then findN (fun i => decide (bitsN (t i) 16 3 = pa ∧ bitsN (t i) 19 3 = pb)) n else findN (fun i => endM mf g pa pb (t i)) n
theorem sameM_20 {f f' : Nat → Nat} {g g' : Nat → Nat → Nat} (h : sameM f f' g g') : sameM f (upN f' 20 0) g g' := ⟨fun k h1 h2 => (upN_n h2).trans (h.1 k h1 h2), h.2⟩
theorem MBase_20 {f : Nat → Nat} {g : Nat → Nat → Nat} (h : MBase f g) : MBase (upN f 20 0) g := by
  obtain ⟨a1, a2, a3, a4, a5, a6, a7, a8, a9, a10, a11, a12⟩ := h
  exact ⟨a1, a2, a3, a4, a5, a6, a7, a8, a9, (show (0 : Nat) < 2 from by decide), a11, a12⟩
set_option maxHeartbeats 4000000 in
set_option maxRecDepth 100000 in
theorem c_X5_missing (l : Launch) (D : va_G) (ad : Nat → Nat) (ka : Nat → ClassId) (f : Nat → Nat) (g : Nat → Nat → Nat) (t : Nat → Nat) (sz : Nat) (en : Nat) (pa : Nat) (pb : Nat) (hI : MInv f g t) (hen : en < 2) (ha9 : pa < 4294967296) (hb9 : pb < 4294967296) : Met l yX5_missing (.code yX5_missing cX5_missing 5 (some .int) :: wsL_law) ({ frames := 10, cells := 0, slots := 0, locals := 244 }) (va_Pc [.ref (ad 0), .int (nI en), .int (nI pa), .int (nI pb)] (PW D (mW ad ka f g t) (mT ka) sz)) (va_Qi (fun (r : Int32) (u : MSt) => (¬ ((en = 0 → pa ≤ g 1 0 ∧ pb ≤ g 1 1) ∧ (¬ en = 0 → pa ≤ 255 ∧ pb ≤ 15)) → r = nI 4294967295 ∧ u = (f, g, t)) ∧ (((en = 0 → pa ≤ g 1 0 ∧ pb ≤ g 1 1) ∧ (¬ en = 0 → pa ≤ 255 ∧ pb ≤ 15)) → ∃ f1 g1 t1, sameM f f1 g g1 ∧ MBase f1 g1 ∧ Walked f1 g1 t1 ∧ f1 20 ≠ 0 ∧ (¬ f1 19 ≤ 12000 → r = nI 4294967294 ∧ u = (f1, g1, t1)) ∧ (f1 19 ≤ 12000 → (2147483648 ≤ missN (f1 5) g1 (f1 19) t1 en pa pb → r = nI 4294967295 ∧ u = (f1, g1, t1)) ∧ (¬ 2147483648 ≤ missN (f1 5) g1 (f1 19) t1 en pa pb → r = nI (findR (f1 5) g1 en pa pb 16 0) ∧ sameM f1 u.1 g1 u.2.1 ∧ MBase u.1 u.2.1 ∧ u.1 20 = 0)))) (QW D (fun u : MSt => mW ad ka u.1 u.2.1 u.2.2) (fun _ => mT ka) (va_A (mW ad ka f g t) sz)) (va_A (mW ad ka f g t) sz)) 0 0 (va_A (mW ad ka f g t) sz) := by
  refine Met.ofW (cc := cX5_missing) (maxL := 5) (ret := (some .int)) (by decide) rfl ?_
  intro p e s m args below meth c s₁ B hml hv
  obtain ⟨rfl, hsz, hP, hK, hD0⟩ := hv
  have hx := B.exec
  have hb := B.bytes
  have hr := B.returns
  have hts := atoms_spec (ws := .code yX5_missing cX5_missing 5 (some .int) :: wsL_law) B.pre
  have hU : ∀ w ∈ wsL_law, w.before _ s = true := fun w h => hts w (List.mem_cons_of_mem _ h)
  have hown : s.vm.findClass RX5 = some m.cls := findClass_of_methodNamed B.named
  have hlocks := B.notSynchronized
  subst hsz
  have hD := hD0.self (sz := s.heap.size)
  generalize hAe : va_A (mW ad ka f g t) s.heap.size = Ar at hD ⊢
  have hA : ∀ q : Nat, s.heap.size ≤ q → Ar q := fun q h => by rw [← hAe]; exact Or.inr h
  have hS : va_S Ar s.heap s.heap [] := va_S.rf
  have hP : va_P D vwCl [(ad 0, .inr (5, [.ref (ad 1), .ref (ad 2), .ref (ad 3), .ref (ad 4), .ref (ad 5), .int (nI (f 5)), .ref (ad 6), .int (nI (f 7)), .int (nI (f 8)), .int (nI (f 9)), .int (nI (f 10)), .int (nI (f 11)), .int (nI (f 12)), .int (nI (f 13)), .ref (ad 7), .ref (ad 8), .ref (ad 9), .ref (ad 10), .ref (ad 11), .int (nI (f 19)), .int (nI (f 20)), .int (nI (f 21)), .ref (ad 12)])), (ad 1, .inl (ka 1, 5, .inl (nA (g 1)))), (ad 2, .inl (ka 2, 40, .inl (nA (g 2)))), (ad 3, .inl (ka 3, 160, .inl (nA (g 3)))), (ad 4, .inl (ka 4, 4, .inl (nA (g 4)))), (ad 5, .inl (ka 5, 4, .inl (nA (g 5)))), (ad 6, .inl (ka 6, 200, .inl (nA (g 6)))), (ad 7, .inl (ka 7, 12001, .inr (.inl (lA t)))), (ad 8, .inl (ka 8, 12001, .inl (nA (g 8)))), (ad 9, .inl (ka 9, 12001, .inl (nA (g 9)))), (ad 10, .inl (ka 10, 12001, .inl (nA (g 10)))), (ad 11, .inl (ka 11, 32768, .inl (nA (g 11)))), (ad 12, .inl (ka 12, 64, .inl (nA (g 12))))] s.heap := hP
  have hD : va_D Ar [(ad 0, .inr (5, [.ref (ad 1), .ref (ad 2), .ref (ad 3), .ref (ad 4), .ref (ad 5), .int (nI (f 5)), .ref (ad 6), .int (nI (f 7)), .int (nI (f 8)), .int (nI (f 9)), .int (nI (f 10)), .int (nI (f 11)), .int (nI (f 12)), .int (nI (f 13)), .ref (ad 7), .ref (ad 8), .ref (ad 9), .ref (ad 10), .ref (ad 11), .int (nI (f 19)), .int (nI (f 20)), .int (nI (f 21)), .ref (ad 12)])), (ad 1, .inl (ka 1, 5, .inl (nA (g 1)))), (ad 2, .inl (ka 2, 40, .inl (nA (g 2)))), (ad 3, .inl (ka 3, 160, .inl (nA (g 3)))), (ad 4, .inl (ka 4, 4, .inl (nA (g 4)))), (ad 5, .inl (ka 5, 4, .inl (nA (g 5)))), (ad 6, .inl (ka 6, 200, .inl (nA (g 6)))), (ad 7, .inl (ka 7, 12001, .inr (.inl (lA t)))), (ad 8, .inl (ka 8, 12001, .inl (nA (g 8)))), (ad 9, .inl (ka 9, 12001, .inl (nA (g 9)))), (ad 10, .inl (ka 10, 12001, .inl (nA (g 10)))), (ad 11, .inl (ka 11, 32768, .inl (nA (g 11)))), (ad 12, .inl (ka 12, 64, .inl (nA (g 12))))] := hD
  generalize hQ : MQ _ _ _ _ _ _ _ = Q
  have hl := lv_entry ([.ref (ad 0), .int (nI en), .int (nI pa), .int (nI pb)]) (n := 5) (Nat.le_of_ble_eq_true rfl)
  rw [lg_entry_eq]
  generalize (lg_sl ([.ref (ad 0), .int (nI en), .int (nI pa), .int (nI pb)]) ++ List.replicate (5 - (lg_sl ([.ref (ad 0), .int (nI en), .int (nI pa), .int (nI pb)])).length) Slot.unset).toArray = ls at hl ⊢
  have hl : lv_has ls 5 [(0, .ref (ad 0)), (1, .int (nI en)), (2, .int (nI pa)), (3, .int (nI pb))] := hl
  have hl0 := (hI.1.1 0 (by decide)).1
  have hl1 := (hI.1.1 1 (by decide)).1
  refine lv_iload_n hx hb dX5_missing_0 rfl (lv_at hl 1 rfl) ?_
  refine lv_if_eq (tgt := 15) hx hb dX5_missing_1 (by decide) (fun c1_1 => ?_) (fun c1_1 => ?_)
  · have c1_1 : en = 0 := (nI_eqG (a := en) (b := 0) (by omega) (by omega)).mp c1_1
    refine lv_iload_n hx hb dX5_missing_15 rfl (lv_at hl 2 rfl) ?_
    refine lv_iconst (v := nI 0) hx hb dX5_missing_16 (by decide) ?_
    refine lv_aload_n hx hb dX5_missing_17 rfl (lv_at hl 0 rfl) ?_
    refine va_get (D := D) (ci := 5) (v := .ref (ad 1)) (C := RX5) (T := TX5) (N := 23) hx hb hU iX5 hown hK hP 0 rfl rfl 0 (by decide) (hU _ mU_75) (fun _ h9 => h9) rfl dX5_missing_18 ?_
    refine lv_iconst (v := nI 0) hx hb dX5_missing_21 (by decide) ?_
    refine n_iald hx hb hK hP 1 0 rfl rfl (i := 0) (by omega) (by decide) dX5_missing_22 ?_
    refine cSi (As := [.int (nI pa), .int (nI 0), .int (nI ((g 1) 0))]) (rest := []) ⟨hx, hb, hml, hown, hts⟩ (c_X5_isIn l  pa 0 ((g 1) 0) (by omega) (by omega) (by omega)) (va_cwS 3 hts (gS mU_116 mU_117 mU_6 mU_118) rfl rfl rfl (by decide +kernel) ⟨Nat.le_of_ble_eq_true rfl, Nat.le_of_ble_eq_true rfl⟩) fbU (fun _ _ _ => trivial) rfl hl.1 rfl (Nat.le_of_ble_eq_true rfl) dX5_missing_23 ⟨Nat.zero_le _, Nat.zero_le _⟩ ?_
    refine lv_if_eq (tgt := 43) hx hb dX5_missing_26 (by decide) (fun c26_2 => ?_) (fun c26_2 => ?_)
    · have c26_2 : ¬ (0 ≤ pa ∧ pa ≤ ((g 1) 0)) := bP_f c26_2
      refine lv_iconst (v := nI 4294967295) hx hb dX5_missing_43 (by decide) ?_
      subst hQ
      exact rwi (f, g, t) hx hb hr hlocks (⟨fun _ => ⟨rfl, rfl⟩, fun h9 => absurd ⟨Nat.zero_le _, (h9.1 c1_1).1⟩ c26_2⟩) hP hK hD hS dX5_missing_44
    · have c26_2 : 0 ≤ pa ∧ pa ≤ ((g 1) 0) := bP_t c26_2
      refine lv_iload_n hx hb dX5_missing_29 rfl (lv_at hl 3 rfl) ?_
      refine lv_iconst (v := nI 0) hx hb dX5_missing_30 (by decide) ?_
      refine lv_aload_n hx hb dX5_missing_31 rfl (lv_at hl 0 rfl) ?_
      refine va_get (D := D) (ci := 5) (v := .ref (ad 1)) (C := RX5) (T := TX5) (N := 23) hx hb hU iX5 hown hK hP 0 rfl rfl 0 (by decide) (hU _ mU_75) (fun _ h9 => h9) rfl dX5_missing_32 ?_
      refine lv_iconst (v := nI 1) hx hb dX5_missing_35 (by decide) ?_
      refine n_iald hx hb hK hP 1 0 rfl rfl (i := 1) (by omega) (by decide) dX5_missing_36 ?_
      refine cSi (As := [.int (nI pb), .int (nI 0), .int (nI ((g 1) 1))]) (rest := []) ⟨hx, hb, hml, hown, hts⟩ (c_X5_isIn l  pb 0 ((g 1) 1) (by omega) (by omega) (by omega)) (va_cwS 3 hts (gS mU_116 mU_117 mU_6 mU_118) rfl rfl rfl (by decide +kernel) ⟨Nat.le_of_ble_eq_true rfl, Nat.le_of_ble_eq_true rfl⟩) fbU (fun _ _ _ => trivial) rfl hl.1 rfl (Nat.le_of_ble_eq_true rfl) dX5_missing_37 ⟨Nat.zero_le _, Nat.zero_le _⟩ ?_
      refine lv_if_ne (tgt := 45) hx hb dX5_missing_40 (by decide) (fun c40_3 => ?_) (fun c40_3 => ?_)
      · have c40_3 : 0 ≤ pb ∧ pb ≤ ((g 1) 1) := bP_t c40_3
        refine lv_aload_n hx hb dX5_missing_45 rfl (lv_at hl 0 rfl) ?_
        refine kVi (As := []) (rest := []) (wr := []) ⟨hx, hb, hml, hown, hts⟩ (c_X5_isWalked l D ad ka f g t s.heap.size  (show MInv f g t from hI)) (cwV 0 hts (gV mU_468 mU_469 mU_470 mU_6 mU_471) rfl rfl rfl (by decide +kernel) ⟨Nat.le_of_ble_eq_true rfl, Nat.le_of_ble_eq_true rfl⟩) (va_recv hK hP (ci := 5) (q0 := 0) rfl rfl) hP hK hD hS hA [0, 1, 2, 3, 4, 5, 6, 7, 8, 9, 10, 11, 12] [] [0, 1, 2, 3, 4, 5, 6, 7, 8, 9, 10, 11] [] rfl rfl rfl rfl (by decide) rfl rfl rfl hl.1 rfl (Nat.le_of_ble_eq_true rfl) dX5_missing_46 ⟨by decide, by decide⟩ (fun r_5 u H locs hw hP hD hK hS => ?_)
        obtain ⟨f4, g4, t4⟩ := u
        obtain ⟨hr4, hsm4, hMB4, hWk4, h204⟩ := hw
        subst hr4
        have hsm4 : sameM f f4 g g4 := hsm4
        have hMB4 : MBase f4 g4 := hMB4
        have hWk4 : Walked f4 g4 t4 := hWk4
        have h204 : f4 20 ≠ 0 := h204
        have hP : va_P D vwCl [(ad 0, .inr (5, [.ref (ad 1), .ref (ad 2), .ref (ad 3), .ref (ad 4), .ref (ad 5), .int (nI (f4 5)), .ref (ad 6), .int (nI (f4 7)), .int (nI (f4 8)), .int (nI (f4 9)), .int (nI (f4 10)), .int (nI (f4 11)), .int (nI (f4 12)), .int (nI (f4 13)), .ref (ad 7), .ref (ad 8), .ref (ad 9), .ref (ad 10), .ref (ad 11), .int (nI (f4 19)), .int (nI (f4 20)), .int (nI (f4 21)), .ref (ad 12)])), (ad 1, .inl (ka 1, 5, .inl (nA (g4 1)))), (ad 2, .inl (ka 2, 40, .inl (nA (g4 2)))), (ad 3, .inl (ka 3, 160, .inl (nA (g4 3)))), (ad 4, .inl (ka 4, 4, .inl (nA (g4 4)))), (ad 5, .inl (ka 5, 4, .inl (nA (g4 5)))), (ad 6, .inl (ka 6, 200, .inl (nA (g4 6)))), (ad 7, .inl (ka 7, 12001, .inr (.inl (lA t4)))), (ad 8, .inl (ka 8, 12001, .inl (nA (g4 8)))), (ad 9, .inl (ka 9, 12001, .inl (nA (g4 9)))), (ad 10, .inl (ka 10, 12001, .inl (nA (g4 10)))), (ad 11, .inl (ka 11, 32768, .inl (nA (g4 11)))), (ad 12, .inl (ka 12, 64, .inl (nA (g4 12))))] H := hP
        have hD : va_D Ar [(ad 0, .inr (5, [.ref (ad 1), .ref (ad 2), .ref (ad 3), .ref (ad 4), .ref (ad 5), .int (nI (f4 5)), .ref (ad 6), .int (nI (f4 7)), .int (nI (f4 8)), .int (nI (f4 9)), .int (nI (f4 10)), .int (nI (f4 11)), .int (nI (f4 12)), .int (nI (f4 13)), .ref (ad 7), .ref (ad 8), .ref (ad 9), .ref (ad 10), .ref (ad 11), .int (nI (f4 19)), .int (nI (f4 20)), .int (nI (f4 21)), .ref (ad 12)])), (ad 1, .inl (ka 1, 5, .inl (nA (g4 1)))), (ad 2, .inl (ka 2, 40, .inl (nA (g4 2)))), (ad 3, .inl (ka 3, 160, .inl (nA (g4 3)))), (ad 4, .inl (ka 4, 4, .inl (nA (g4 4)))), (ad 5, .inl (ka 5, 4, .inl (nA (g4 5)))), (ad 6, .inl (ka 6, 200, .inl (nA (g4 6)))), (ad 7, .inl (ka 7, 12001, .inr (.inl (lA t4)))), (ad 8, .inl (ka 8, 12001, .inl (nA (g4 8)))), (ad 9, .inl (ka 9, 12001, .inl (nA (g4 9)))), (ad 10, .inl (ka 10, 12001, .inl (nA (g4 10)))), (ad 11, .inl (ka 11, 32768, .inl (nA (g4 11)))), (ad 12, .inl (ka 12, 64, .inl (nA (g4 12))))] := hD
        have hK : va_K D vwCl (mT ka) s := hK.sub [0, 1, 2, 3, 4, 5, 6, 7, 8, 9, 10, 11] rfl
        refine lv_if_ne (tgt := 55) hx hb dX5_missing_49 (by decide) (fun c49_6 => ?_) (fun c49_6 => ?_)
        · have c49_6 : f4 19 ≤ 12000 := bP_t c49_6
          refine lv_iload_n hx hb dX5_missing_55 rfl (lv_at hl 1 rfl) ?_
          refine lv_if_eq (tgt := 68) hx hb dX5_missing_56 (by decide) (fun c56_7 => ?_) (fun c56_7 => ?_)
          · have c56_7 : en = 0 := (nI_eqG (a := en) (b := 0) (by omega) (by omega)).mp c56_7
            refine lv_aload_n hx hb dX5_missing_68 rfl (lv_at hl 0 rfl) ?_
            refine lv_iload_n hx hb dX5_missing_69 rfl (lv_at hl 2 rfl) ?_
            refine lv_iload_n hx hb dX5_missing_70 rfl (lv_at hl 3 rfl) ?_
            refine cVi (As := [.int (nI pa), .int (nI pb)]) (rest := []) ⟨hx, hb, hml, hown, hts⟩ (c_X5_findBoth l D ad ka f4 g4 t4 pa pb (show ∀ a, a < 6 → ∀ i, g4 a i < 2147483648 from hMB4.2.1) (show ∀ i, i < (f4 19) → wfM g4 (t4 i) from fun i hi => (hWk4.2.1.2 i hi).1) (show (f4 19) ≤ 12001 from hWk4.2.1.1) (show pa < 8 from by omega) (show pb < 8 from by omega)) (cwV 2 hts (gV mU_592 mU_593 mU_594 mU_6 mU_595) rfl rfl rfl (by decide +kernel) ⟨Nat.le_of_ble_eq_true rfl, Nat.le_of_ble_eq_true rfl⟩) fbR (va_recv hK hP (ci := 5) (q0 := 0) rfl rfl) (PR.of hP hK) rfl hl.1 rfl (Nat.le_of_ble_eq_true rfl) dX5_missing_71 ⟨Nat.zero_le _, Nat.zero_le _⟩ ?_
            have hor := findN_or ((fun i => decide (bitsN (t4 i) 16 3 = pa ∧ bitsN (t4 i) 19 3 = pb))) (f4 19)
            have hst9 := hWk4.2.1.1
            simp only at hst9
            have hmn : missN (f4 5) g4 (f4 19) t4 en pa pb = findN (fun i => decide (bitsN (t4 i) 16 3 = pa ∧ bitsN (t4 i) 19 3 = pb)) ((f4 19)) := by rw [missN, if_pos c56_7]
            refine lv_if_ge (tgt := 79) hx hb dX5_missing_74 (by decide) (fun c74_8 => ?_) (fun c74_8 => ?_)
            · have c74_8 : findN (fun i => decide (bitsN (t4 i) 16 3 = pa ∧ bitsN (t4 i) 19 3 = pb)) ((f4 19)) < 2147483648 := (nI_ge0 (a := findN (fun i => decide (bitsN (t4 i) 16 3 = pa ∧ bitsN (t4 i) 19 3 = pb)) ((f4 19))) (by omega)).mp c74_8
              refine lv_aload_n hx hb dX5_missing_79 rfl (lv_at hl 0 rfl) ?_
              refine lv_iload_n hx hb dX5_missing_80 rfl (lv_at hl 1 rfl) ?_
              refine lv_iload_n hx hb dX5_missing_81 rfl (lv_at hl 2 rfl) ?_
              refine lv_iload_n hx hb dX5_missing_82 rfl (lv_at hl 3 rfl) ?_
              refine kVi (As := [.int (nI en), .int (nI pa), .int (nI pb)]) (rest := []) (wr := []) ⟨hx, hb, hml, hown, hts⟩ (c_X5_find l D ad ka f4 g4 t4 H.size en pa pb (show MBase f4 g4 from hMB4) (show en < 2 from by omega) (show (en = 0 → pa ≤ (g4 1) 0 ∧ pb ≤ (g4 1) 1) ∧ (¬ en = 0 → pa < 256 ∧ pb < 16) from ⟨fun _ => ⟨by rw [hsm4.2.1.1.1]; exact c26_2.2, by rw [hsm4.2.1.1.2]; exact c40_3.2⟩, fun h9 => absurd c1_1 h9⟩)) (cwV 3 hts (gV mU_648 mU_649 mU_650 mU_6 mU_651) rfl rfl rfl (by decide +kernel) ⟨Nat.le_of_ble_eq_true rfl, Nat.le_of_ble_eq_true rfl⟩) (va_recv hK hP (ci := 5) (q0 := 0) rfl rfl) hP hK hD hS hA [0, 1, 2, 3, 4, 5, 6, 7, 8, 9, 10, 11, 12] [] [0, 1, 2, 3, 4, 5, 6, 7, 8, 9, 10, 11] [] rfl rfl rfl rfl (by decide) rfl rfl rfl hl.1 rfl (Nat.le_of_ble_eq_true rfl) dX5_missing_83 ⟨by decide, by decide⟩ (fun r_10 u H locs hw hP hD hK hS => ?_)
              obtain ⟨f9, g9, t9⟩ := u
              obtain ⟨hsf9, hMf9, hrf9⟩ := hw
              have hsf9 : sameM f4 f9 g4 g9 := hsf9
              have hMf9 : MBase f9 g9 := hMf9
              subst hrf9
              have hP : va_P D vwCl [(ad 0, .inr (5, [.ref (ad 1), .ref (ad 2), .ref (ad 3), .ref (ad 4), .ref (ad 5), .int (nI (f9 5)), .ref (ad 6), .int (nI (f9 7)), .int (nI (f9 8)), .int (nI (f9 9)), .int (nI (f9 10)), .int (nI (f9 11)), .int (nI (f9 12)), .int (nI (f9 13)), .ref (ad 7), .ref (ad 8), .ref (ad 9), .ref (ad 10), .ref (ad 11), .int (nI (f9 19)), .int (nI (f9 20)), .int (nI (f9 21)), .ref (ad 12)])), (ad 1, .inl (ka 1, 5, .inl (nA (g9 1)))), (ad 2, .inl (ka 2, 40, .inl (nA (g9 2)))), (ad 3, .inl (ka 3, 160, .inl (nA (g9 3)))), (ad 4, .inl (ka 4, 4, .inl (nA (g9 4)))), (ad 5, .inl (ka 5, 4, .inl (nA (g9 5)))), (ad 6, .inl (ka 6, 200, .inl (nA (g9 6)))), (ad 7, .inl (ka 7, 12001, .inr (.inl (lA t9)))), (ad 8, .inl (ka 8, 12001, .inl (nA (g9 8)))), (ad 9, .inl (ka 9, 12001, .inl (nA (g9 9)))), (ad 10, .inl (ka 10, 12001, .inl (nA (g9 10)))), (ad 11, .inl (ka 11, 32768, .inl (nA (g9 11)))), (ad 12, .inl (ka 12, 64, .inl (nA (g9 12))))] H := hP
              have hD : va_D Ar [(ad 0, .inr (5, [.ref (ad 1), .ref (ad 2), .ref (ad 3), .ref (ad 4), .ref (ad 5), .int (nI (f9 5)), .ref (ad 6), .int (nI (f9 7)), .int (nI (f9 8)), .int (nI (f9 9)), .int (nI (f9 10)), .int (nI (f9 11)), .int (nI (f9 12)), .int (nI (f9 13)), .ref (ad 7), .ref (ad 8), .ref (ad 9), .ref (ad 10), .ref (ad 11), .int (nI (f9 19)), .int (nI (f9 20)), .int (nI (f9 21)), .ref (ad 12)])), (ad 1, .inl (ka 1, 5, .inl (nA (g9 1)))), (ad 2, .inl (ka 2, 40, .inl (nA (g9 2)))), (ad 3, .inl (ka 3, 160, .inl (nA (g9 3)))), (ad 4, .inl (ka 4, 4, .inl (nA (g9 4)))), (ad 5, .inl (ka 5, 4, .inl (nA (g9 5)))), (ad 6, .inl (ka 6, 200, .inl (nA (g9 6)))), (ad 7, .inl (ka 7, 12001, .inr (.inl (lA t9)))), (ad 8, .inl (ka 8, 12001, .inl (nA (g9 8)))), (ad 9, .inl (ka 9, 12001, .inl (nA (g9 9)))), (ad 10, .inl (ka 10, 12001, .inl (nA (g9 10)))), (ad 11, .inl (ka 11, 32768, .inl (nA (g9 11)))), (ad 12, .inl (ka 12, 64, .inl (nA (g9 12))))] := hD
              have hK : va_K D vwCl (mT ka) s := hK.sub [0, 1, 2, 3, 4, 5, 6, 7, 8, 9, 10, 11] rfl
              refine lv_istore (lv' := [(4, .int (nI (findR ((f4 5)) g4 en pa pb 16 0))), (0, .ref (ad 0)), (1, .int (nI en)), (2, .int (nI pa)), (3, .int (nI pb))]) hx hb dX5_missing_86 hl (by decide) rfl (fun ls hl => ?_)
              refine lv_aload_n hx hb dX5_missing_88 rfl (lv_at hl 1 rfl) ?_
              refine lv_iconst (v := nI 0) hx hb dX5_missing_89 (by decide) ?_
              refine va_put (D := D) (ci := 5) (v := .int (nI 0)) (ty := .boolean) (C := RX5) (T := TX5) (N := 23) hx hb hU iX5 tyX5 tyX5_ok nmX5 hown hK hP hD hS 0 rfl rfl 20 (by decide) (hU _ mU_248) (fun _ h9 => h9) rfl (by decide +kernel) rfl rfl (Nat.le_of_ble_eq_true rfl) dX5_missing_90 (fun H locs hP hD hS => ?_)
              have hP : va_P D vwCl [(ad 0, .inr (5, [.ref (ad 1), .ref (ad 2), .ref (ad 3), .ref (ad 4), .ref (ad 5), .int (nI (f9 5)), .ref (ad 6), .int (nI (f9 7)), .int (nI (f9 8)), .int (nI (f9 9)), .int (nI (f9 10)), .int (nI (f9 11)), .int (nI (f9 12)), .int (nI (f9 13)), .ref (ad 7), .ref (ad 8), .ref (ad 9), .ref (ad 10), .ref (ad 11), .int (nI (f9 19)), .int (nI 0), .int (nI (f9 21)), .ref (ad 12)])), (ad 1, .inl (ka 1, 5, .inl (nA (g9 1)))), (ad 2, .inl (ka 2, 40, .inl (nA (g9 2)))), (ad 3, .inl (ka 3, 160, .inl (nA (g9 3)))), (ad 4, .inl (ka 4, 4, .inl (nA (g9 4)))), (ad 5, .inl (ka 5, 4, .inl (nA (g9 5)))), (ad 6, .inl (ka 6, 200, .inl (nA (g9 6)))), (ad 7, .inl (ka 7, 12001, .inr (.inl (lA t9)))), (ad 8, .inl (ka 8, 12001, .inl (nA (g9 8)))), (ad 9, .inl (ka 9, 12001, .inl (nA (g9 9)))), (ad 10, .inl (ka 10, 12001, .inl (nA (g9 10)))), (ad 11, .inl (ka 11, 32768, .inl (nA (g9 11)))), (ad 12, .inl (ka 12, 64, .inl (nA (g9 12))))] H := hP
              have hD : va_D Ar [(ad 0, .inr (5, [.ref (ad 1), .ref (ad 2), .ref (ad 3), .ref (ad 4), .ref (ad 5), .int (nI (f9 5)), .ref (ad 6), .int (nI (f9 7)), .int (nI (f9 8)), .int (nI (f9 9)), .int (nI (f9 10)), .int (nI (f9 11)), .int (nI (f9 12)), .int (nI (f9 13)), .ref (ad 7), .ref (ad 8), .ref (ad 9), .ref (ad 10), .ref (ad 11), .int (nI (f9 19)), .int (nI 0), .int (nI (f9 21)), .ref (ad 12)])), (ad 1, .inl (ka 1, 5, .inl (nA (g9 1)))), (ad 2, .inl (ka 2, 40, .inl (nA (g9 2)))), (ad 3, .inl (ka 3, 160, .inl (nA (g9 3)))), (ad 4, .inl (ka 4, 4, .inl (nA (g9 4)))), (ad 5, .inl (ka 5, 4, .inl (nA (g9 5)))), (ad 6, .inl (ka 6, 200, .inl (nA (g9 6)))), (ad 7, .inl (ka 7, 12001, .inr (.inl (lA t9)))), (ad 8, .inl (ka 8, 12001, .inl (nA (g9 8)))), (ad 9, .inl (ka 9, 12001, .inl (nA (g9 9)))), (ad 10, .inl (ka 10, 12001, .inl (nA (g9 10)))), (ad 11, .inl (ka 11, 32768, .inl (nA (g9 11)))), (ad 12, .inl (ka 12, 64, .inl (nA (g9 12))))] := hD
              refine lv_iload hx hb dX5_missing_93 (lv_at hl 0 rfl) ?_
              subst hQ
              exact rwi (upN (f9) 20 (0), g9, t9) hx hb hr hlocks (⟨fun h9 => absurd (⟨fun _ => ⟨c26_2.2, c40_3.2⟩, fun h9 => absurd c1_1 h9⟩) h9, fun _ => ⟨f4, g4, t4, hsm4, hMB4, hWk4, h204, fun h9 => absurd c49_6 h9, fun _ => ⟨fun h9 => absurd h9 (by rw [hmn]; omega), fun _ => ⟨rfl, sameM_20 hsf9, MBase_20 hMf9, rfl⟩⟩⟩⟩) hP hK hD hS dX5_missing_95
            · have c74_8 : ¬ (findN (fun i => decide (bitsN (t4 i) 16 3 = pa ∧ bitsN (t4 i) 19 3 = pb)) ((f4 19)) < 2147483648) := fun h9 => c74_8 ((nI_ge0 (a := findN (fun i => decide (bitsN (t4 i) 16 3 = pa ∧ bitsN (t4 i) 19 3 = pb)) ((f4 19))) (by omega)).mpr h9)
              refine lv_iconst (v := nI 4294967295) hx hb dX5_missing_77 (by decide) ?_
              subst hQ
              exact rwi (f4, g4, t4) hx hb hr hlocks (⟨fun h9 => absurd (⟨fun _ => ⟨c26_2.2, c40_3.2⟩, fun h9 => absurd c1_1 h9⟩) h9, fun _ => ⟨f4, g4, t4, hsm4, hMB4, hWk4, h204, fun h9 => absurd c49_6 h9, fun _ => ⟨fun _ => ⟨rfl, rfl⟩, fun h9 => absurd (by rw [hmn]; omega) h9⟩⟩⟩) hP hK hD hS dX5_missing_78
          · have c56_7 : ¬ (en = 0) := fun h9 => c56_7 ((nI_eqG (a := en) (b := 0) (by omega) (by omega)).mpr h9)
            exact absurd c1_1 c56_7
        · have c49_6 : ¬ (f4 19 ≤ 12000) := bP_f c49_6
          refine lv_bipush (v := nI 4294967294) hx hb dX5_missing_52 (by decide) ?_
          subst hQ
          exact rwi (f4, g4, t4) hx hb hr hlocks (⟨fun h9 => absurd (⟨fun _ => ⟨c26_2.2, c40_3.2⟩, fun h9 => absurd c1_1 h9⟩) h9, fun _ => ⟨f4, g4, t4, hsm4, hMB4, hWk4, h204, fun _ => ⟨rfl, rfl⟩, fun h9 => absurd h9 c49_6⟩⟩) hP hK hD hS dX5_missing_54
      · have c40_3 : ¬ (0 ≤ pb ∧ pb ≤ ((g 1) 1)) := bP_f c40_3
        refine lv_iconst (v := nI 4294967295) hx hb dX5_missing_43 (by decide) ?_
        subst hQ
        exact rwi (f, g, t) hx hb hr hlocks (⟨fun _ => ⟨rfl, rfl⟩, fun h9 => absurd ⟨Nat.zero_le _, (h9.1 c1_1).2⟩ c40_3⟩) hP hK hD hS dX5_missing_44
  · have c1_1 : ¬ (en = 0) := fun h9 => c1_1 ((nI_eqG (a := en) (b := 0) (by omega) (by omega)).mpr h9)
    refine lv_iload_n hx hb dX5_missing_4 rfl (lv_at hl 2 rfl) ?_
    refine lv_iload_n hx hb dX5_missing_5 rfl (lv_at hl 3 rfl) ?_
    refine cSi (As := [.int (nI pa), .int (nI pb)]) (rest := []) ⟨hx, hb, hml, hown, hts⟩ (c_X5_isAsked l  pa pb (by omega) (by omega)) (va_cwS 2 hts (gS mU_612 mU_613 mU_6 mU_614) rfl rfl rfl (by decide +kernel) ⟨Nat.le_of_ble_eq_true rfl, Nat.le_of_ble_eq_true rfl⟩) fbU (fun _ _ _ => trivial) rfl hl.1 rfl (Nat.le_of_ble_eq_true rfl) dX5_missing_6 ⟨Nat.zero_le _, Nat.zero_le _⟩ ?_
    refine lv_if_ne (tgt := 45) hx hb dX5_missing_9 (by decide) (fun c9_11 => ?_) (fun c9_11 => ?_)
    · have c9_11 : pa ≤ 255 ∧ pb ≤ 15 := bP_t c9_11
      refine lv_aload_n hx hb dX5_missing_45 rfl (lv_at hl 0 rfl) ?_
      refine kVi (As := []) (rest := []) (wr := []) ⟨hx, hb, hml, hown, hts⟩ (c_X5_isWalked l D ad ka f g t s.heap.size  (show MInv f g t from hI)) (cwV 0 hts (gV mU_468 mU_469 mU_470 mU_6 mU_471) rfl rfl rfl (by decide +kernel) ⟨Nat.le_of_ble_eq_true rfl, Nat.le_of_ble_eq_true rfl⟩) (va_recv hK hP (ci := 5) (q0 := 0) rfl rfl) hP hK hD hS hA [0, 1, 2, 3, 4, 5, 6, 7, 8, 9, 10, 11, 12] [] [0, 1, 2, 3, 4, 5, 6, 7, 8, 9, 10, 11] [] rfl rfl rfl rfl (by decide) rfl rfl rfl hl.1 rfl (Nat.le_of_ble_eq_true rfl) dX5_missing_46 ⟨by decide, by decide⟩ (fun r_13 u H locs hw hP hD hK hS => ?_)
      obtain ⟨f12, g12, t12⟩ := u
      obtain ⟨hr12, hsm12, hMB12, hWk12, h2012⟩ := hw
      subst hr12
      have hsm12 : sameM f f12 g g12 := hsm12
      have hMB12 : MBase f12 g12 := hMB12
      have hWk12 : Walked f12 g12 t12 := hWk12
      have h2012 : f12 20 ≠ 0 := h2012
      have hP : va_P D vwCl [(ad 0, .inr (5, [.ref (ad 1), .ref (ad 2), .ref (ad 3), .ref (ad 4), .ref (ad 5), .int (nI (f12 5)), .ref (ad 6), .int (nI (f12 7)), .int (nI (f12 8)), .int (nI (f12 9)), .int (nI (f12 10)), .int (nI (f12 11)), .int (nI (f12 12)), .int (nI (f12 13)), .ref (ad 7), .ref (ad 8), .ref (ad 9), .ref (ad 10), .ref (ad 11), .int (nI (f12 19)), .int (nI (f12 20)), .int (nI (f12 21)), .ref (ad 12)])), (ad 1, .inl (ka 1, 5, .inl (nA (g12 1)))), (ad 2, .inl (ka 2, 40, .inl (nA (g12 2)))), (ad 3, .inl (ka 3, 160, .inl (nA (g12 3)))), (ad 4, .inl (ka 4, 4, .inl (nA (g12 4)))), (ad 5, .inl (ka 5, 4, .inl (nA (g12 5)))), (ad 6, .inl (ka 6, 200, .inl (nA (g12 6)))), (ad 7, .inl (ka 7, 12001, .inr (.inl (lA t12)))), (ad 8, .inl (ka 8, 12001, .inl (nA (g12 8)))), (ad 9, .inl (ka 9, 12001, .inl (nA (g12 9)))), (ad 10, .inl (ka 10, 12001, .inl (nA (g12 10)))), (ad 11, .inl (ka 11, 32768, .inl (nA (g12 11)))), (ad 12, .inl (ka 12, 64, .inl (nA (g12 12))))] H := hP
      have hD : va_D Ar [(ad 0, .inr (5, [.ref (ad 1), .ref (ad 2), .ref (ad 3), .ref (ad 4), .ref (ad 5), .int (nI (f12 5)), .ref (ad 6), .int (nI (f12 7)), .int (nI (f12 8)), .int (nI (f12 9)), .int (nI (f12 10)), .int (nI (f12 11)), .int (nI (f12 12)), .int (nI (f12 13)), .ref (ad 7), .ref (ad 8), .ref (ad 9), .ref (ad 10), .ref (ad 11), .int (nI (f12 19)), .int (nI (f12 20)), .int (nI (f12 21)), .ref (ad 12)])), (ad 1, .inl (ka 1, 5, .inl (nA (g12 1)))), (ad 2, .inl (ka 2, 40, .inl (nA (g12 2)))), (ad 3, .inl (ka 3, 160, .inl (nA (g12 3)))), (ad 4, .inl (ka 4, 4, .inl (nA (g12 4)))), (ad 5, .inl (ka 5, 4, .inl (nA (g12 5)))), (ad 6, .inl (ka 6, 200, .inl (nA (g12 6)))), (ad 7, .inl (ka 7, 12001, .inr (.inl (lA t12)))), (ad 8, .inl (ka 8, 12001, .inl (nA (g12 8)))), (ad 9, .inl (ka 9, 12001, .inl (nA (g12 9)))), (ad 10, .inl (ka 10, 12001, .inl (nA (g12 10)))), (ad 11, .inl (ka 11, 32768, .inl (nA (g12 11)))), (ad 12, .inl (ka 12, 64, .inl (nA (g12 12))))] := hD
      have hK : va_K D vwCl (mT ka) s := hK.sub [0, 1, 2, 3, 4, 5, 6, 7, 8, 9, 10, 11] rfl
      refine lv_if_ne (tgt := 55) hx hb dX5_missing_49 (by decide) (fun c49_14 => ?_) (fun c49_14 => ?_)
      · have c49_14 : f12 19 ≤ 12000 := bP_t c49_14
        refine lv_iload_n hx hb dX5_missing_55 rfl (lv_at hl 1 rfl) ?_
        refine lv_if_eq (tgt := 68) hx hb dX5_missing_56 (by decide) (fun c56_15 => ?_) (fun c56_15 => ?_)
        · have c56_15 : en = 0 := (nI_eqG (a := en) (b := 0) (by omega) (by omega)).mp c56_15
          exact absurd c56_15 c1_1
        · have c56_15 : ¬ (en = 0) := fun h9 => c56_15 ((nI_eqG (a := en) (b := 0) (by omega) (by omega)).mpr h9)
          refine lv_aload_n hx hb dX5_missing_59 rfl (lv_at hl 0 rfl) ?_
          refine lv_iload_n hx hb dX5_missing_60 rfl (lv_at hl 2 rfl) ?_
          refine lv_iload_n hx hb dX5_missing_61 rfl (lv_at hl 3 rfl) ?_
          refine cVi (As := [.int (nI pa), .int (nI pb)]) (rest := []) ⟨hx, hb, hml, hown, hts⟩ (c_X5_findEnd l D ad ka f12 g12 t12 pa pb (show ∀ a, a < 6 → ∀ i, g12 a i < 2147483648 from hMB12.2.1) (show okL g12 from hWk12.okL hMB12) (show (f12 5) < 2 from hMB12.2.2.1) (show ∀ i, i < (f12 19) → wfM g12 (t12 i) from fun i hi => (hWk12.2.1.2 i hi).1) (show (f12 19) ≤ 12001 from hWk12.2.1.1) (show pa < 256 from by omega) (show pb < 16 from by omega)) (cwV 2 hts (gV mU_615 mU_616 mU_617 mU_6 mU_618) rfl rfl rfl (by decide +kernel) ⟨Nat.le_of_ble_eq_true rfl, Nat.le_of_ble_eq_true rfl⟩) fbR (va_recv hK hP (ci := 5) (q0 := 0) rfl rfl) (PR.of hP hK) rfl hl.1 rfl (Nat.le_of_ble_eq_true rfl) dX5_missing_62 ⟨Nat.zero_le _, Nat.zero_le _⟩ ?_
          refine lv_goto (tgt := 74) hx hb dX5_missing_65 (by decide) ?_
          have hor := findN_or ((fun i => endM ((f12 5)) g12 pa pb (t12 i))) (f12 19)
          have hst9 := hWk12.2.1.1
          simp only at hst9
          have hmn : missN (f12 5) g12 (f12 19) t12 en pa pb = findN (fun i => endM ((f12 5)) g12 pa pb (t12 i)) ((f12 19)) := by rw [missN, if_neg c56_15]
          refine lv_if_ge (tgt := 79) hx hb dX5_missing_74 (by decide) (fun c74_16 => ?_) (fun c74_16 => ?_)
          · have c74_16 : findN (fun i => endM ((f12 5)) g12 pa pb (t12 i)) ((f12 19)) < 2147483648 := (nI_ge0 (a := findN (fun i => endM ((f12 5)) g12 pa pb (t12 i)) ((f12 19))) (by omega)).mp c74_16
            refine lv_aload_n hx hb dX5_missing_79 rfl (lv_at hl 0 rfl) ?_
            refine lv_iload_n hx hb dX5_missing_80 rfl (lv_at hl 1 rfl) ?_
            refine lv_iload_n hx hb dX5_missing_81 rfl (lv_at hl 2 rfl) ?_
            refine lv_iload_n hx hb dX5_missing_82 rfl (lv_at hl 3 rfl) ?_
            refine kVi (As := [.int (nI en), .int (nI pa), .int (nI pb)]) (rest := []) (wr := []) ⟨hx, hb, hml, hown, hts⟩ (c_X5_find l D ad ka f12 g12 t12 H.size en pa pb (show MBase f12 g12 from hMB12) (show en < 2 from by omega) (show (en = 0 → pa ≤ (g12 1) 0 ∧ pb ≤ (g12 1) 1) ∧ (¬ en = 0 → pa < 256 ∧ pb < 16) from ⟨fun h9 => absurd h9 c1_1, fun _ => ⟨by omega, by omega⟩⟩)) (cwV 3 hts (gV mU_648 mU_649 mU_650 mU_6 mU_651) rfl rfl rfl (by decide +kernel) ⟨Nat.le_of_ble_eq_true rfl, Nat.le_of_ble_eq_true rfl⟩) (va_recv hK hP (ci := 5) (q0 := 0) rfl rfl) hP hK hD hS hA [0, 1, 2, 3, 4, 5, 6, 7, 8, 9, 10, 11, 12] [] [0, 1, 2, 3, 4, 5, 6, 7, 8, 9, 10, 11] [] rfl rfl rfl rfl (by decide) rfl rfl rfl hl.1 rfl (Nat.le_of_ble_eq_true rfl) dX5_missing_83 ⟨by decide, by decide⟩ (fun r_18 u H locs hw hP hD hK hS => ?_)
            obtain ⟨f17, g17, t17⟩ := u
            obtain ⟨hsf17, hMf17, hrf17⟩ := hw
            have hsf17 : sameM f12 f17 g12 g17 := hsf17
            have hMf17 : MBase f17 g17 := hMf17
            subst hrf17
            have hP : va_P D vwCl [(ad 0, .inr (5, [.ref (ad 1), .ref (ad 2), .ref (ad 3), .ref (ad 4), .ref (ad 5), .int (nI (f17 5)), .ref (ad 6), .int (nI (f17 7)), .int (nI (f17 8)), .int (nI (f17 9)), .int (nI (f17 10)), .int (nI (f17 11)), .int (nI (f17 12)), .int (nI (f17 13)), .ref (ad 7), .ref (ad 8), .ref (ad 9), .ref (ad 10), .ref (ad 11), .int (nI (f17 19)), .int (nI (f17 20)), .int (nI (f17 21)), .ref (ad 12)])), (ad 1, .inl (ka 1, 5, .inl (nA (g17 1)))), (ad 2, .inl (ka 2, 40, .inl (nA (g17 2)))), (ad 3, .inl (ka 3, 160, .inl (nA (g17 3)))), (ad 4, .inl (ka 4, 4, .inl (nA (g17 4)))), (ad 5, .inl (ka 5, 4, .inl (nA (g17 5)))), (ad 6, .inl (ka 6, 200, .inl (nA (g17 6)))), (ad 7, .inl (ka 7, 12001, .inr (.inl (lA t17)))), (ad 8, .inl (ka 8, 12001, .inl (nA (g17 8)))), (ad 9, .inl (ka 9, 12001, .inl (nA (g17 9)))), (ad 10, .inl (ka 10, 12001, .inl (nA (g17 10)))), (ad 11, .inl (ka 11, 32768, .inl (nA (g17 11)))), (ad 12, .inl (ka 12, 64, .inl (nA (g17 12))))] H := hP
            have hD : va_D Ar [(ad 0, .inr (5, [.ref (ad 1), .ref (ad 2), .ref (ad 3), .ref (ad 4), .ref (ad 5), .int (nI (f17 5)), .ref (ad 6), .int (nI (f17 7)), .int (nI (f17 8)), .int (nI (f17 9)), .int (nI (f17 10)), .int (nI (f17 11)), .int (nI (f17 12)), .int (nI (f17 13)), .ref (ad 7), .ref (ad 8), .ref (ad 9), .ref (ad 10), .ref (ad 11), .int (nI (f17 19)), .int (nI (f17 20)), .int (nI (f17 21)), .ref (ad 12)])), (ad 1, .inl (ka 1, 5, .inl (nA (g17 1)))), (ad 2, .inl (ka 2, 40, .inl (nA (g17 2)))), (ad 3, .inl (ka 3, 160, .inl (nA (g17 3)))), (ad 4, .inl (ka 4, 4, .inl (nA (g17 4)))), (ad 5, .inl (ka 5, 4, .inl (nA (g17 5)))), (ad 6, .inl (ka 6, 200, .inl (nA (g17 6)))), (ad 7, .inl (ka 7, 12001, .inr (.inl (lA t17)))), (ad 8, .inl (ka 8, 12001, .inl (nA (g17 8)))), (ad 9, .inl (ka 9, 12001, .inl (nA (g17 9)))), (ad 10, .inl (ka 10, 12001, .inl (nA (g17 10)))), (ad 11, .inl (ka 11, 32768, .inl (nA (g17 11)))), (ad 12, .inl (ka 12, 64, .inl (nA (g17 12))))] := hD
            have hK : va_K D vwCl (mT ka) s := hK.sub [0, 1, 2, 3, 4, 5, 6, 7, 8, 9, 10, 11] rfl
            refine lv_istore (lv' := [(4, .int (nI (findR ((f12 5)) g12 en pa pb 16 0))), (0, .ref (ad 0)), (1, .int (nI en)), (2, .int (nI pa)), (3, .int (nI pb))]) hx hb dX5_missing_86 hl (by decide) rfl (fun ls hl => ?_)
            refine lv_aload_n hx hb dX5_missing_88 rfl (lv_at hl 1 rfl) ?_
            refine lv_iconst (v := nI 0) hx hb dX5_missing_89 (by decide) ?_
            refine va_put (D := D) (ci := 5) (v := .int (nI 0)) (ty := .boolean) (C := RX5) (T := TX5) (N := 23) hx hb hU iX5 tyX5 tyX5_ok nmX5 hown hK hP hD hS 0 rfl rfl 20 (by decide) (hU _ mU_248) (fun _ h9 => h9) rfl (by decide +kernel) rfl rfl (Nat.le_of_ble_eq_true rfl) dX5_missing_90 (fun H locs hP hD hS => ?_)
            have hP : va_P D vwCl [(ad 0, .inr (5, [.ref (ad 1), .ref (ad 2), .ref (ad 3), .ref (ad 4), .ref (ad 5), .int (nI (f17 5)), .ref (ad 6), .int (nI (f17 7)), .int (nI (f17 8)), .int (nI (f17 9)), .int (nI (f17 10)), .int (nI (f17 11)), .int (nI (f17 12)), .int (nI (f17 13)), .ref (ad 7), .ref (ad 8), .ref (ad 9), .ref (ad 10), .ref (ad 11), .int (nI (f17 19)), .int (nI 0), .int (nI (f17 21)), .ref (ad 12)])), (ad 1, .inl (ka 1, 5, .inl (nA (g17 1)))), (ad 2, .inl (ka 2, 40, .inl (nA (g17 2)))), (ad 3, .inl (ka 3, 160, .inl (nA (g17 3)))), (ad 4, .inl (ka 4, 4, .inl (nA (g17 4)))), (ad 5, .inl (ka 5, 4, .inl (nA (g17 5)))), (ad 6, .inl (ka 6, 200, .inl (nA (g17 6)))), (ad 7, .inl (ka 7, 12001, .inr (.inl (lA t17)))), (ad 8, .inl (ka 8, 12001, .inl (nA (g17 8)))), (ad 9, .inl (ka 9, 12001, .inl (nA (g17 9)))), (ad 10, .inl (ka 10, 12001, .inl (nA (g17 10)))), (ad 11, .inl (ka 11, 32768, .inl (nA (g17 11)))), (ad 12, .inl (ka 12, 64, .inl (nA (g17 12))))] H := hP
            have hD : va_D Ar [(ad 0, .inr (5, [.ref (ad 1), .ref (ad 2), .ref (ad 3), .ref (ad 4), .ref (ad 5), .int (nI (f17 5)), .ref (ad 6), .int (nI (f17 7)), .int (nI (f17 8)), .int (nI (f17 9)), .int (nI (f17 10)), .int (nI (f17 11)), .int (nI (f17 12)), .int (nI (f17 13)), .ref (ad 7), .ref (ad 8), .ref (ad 9), .ref (ad 10), .ref (ad 11), .int (nI (f17 19)), .int (nI 0), .int (nI (f17 21)), .ref (ad 12)])), (ad 1, .inl (ka 1, 5, .inl (nA (g17 1)))), (ad 2, .inl (ka 2, 40, .inl (nA (g17 2)))), (ad 3, .inl (ka 3, 160, .inl (nA (g17 3)))), (ad 4, .inl (ka 4, 4, .inl (nA (g17 4)))), (ad 5, .inl (ka 5, 4, .inl (nA (g17 5)))), (ad 6, .inl (ka 6, 200, .inl (nA (g17 6)))), (ad 7, .inl (ka 7, 12001, .inr (.inl (lA t17)))), (ad 8, .inl (ka 8, 12001, .inl (nA (g17 8)))), (ad 9, .inl (ka 9, 12001, .inl (nA (g17 9)))), (ad 10, .inl (ka 10, 12001, .inl (nA (g17 10)))), (ad 11, .inl (ka 11, 32768, .inl (nA (g17 11)))), (ad 12, .inl (ka 12, 64, .inl (nA (g17 12))))] := hD
            refine lv_iload hx hb dX5_missing_93 (lv_at hl 0 rfl) ?_
            subst hQ
            exact rwi (upN (f17) 20 (0), g17, t17) hx hb hr hlocks (⟨fun h9 => absurd (⟨fun h9 => absurd h9 c1_1, fun _ => ⟨c9_11.1, c9_11.2⟩⟩) h9, fun _ => ⟨f12, g12, t12, hsm12, hMB12, hWk12, h2012, fun h9 => absurd c49_14 h9, fun _ => ⟨fun h9 => absurd h9 (by rw [hmn]; omega), fun _ => ⟨rfl, sameM_20 hsf17, MBase_20 hMf17, rfl⟩⟩⟩⟩) hP hK hD hS dX5_missing_95
          · have c74_16 : ¬ (findN (fun i => endM ((f12 5)) g12 pa pb (t12 i)) ((f12 19)) < 2147483648) := fun h9 => c74_16 ((nI_ge0 (a := findN (fun i => endM ((f12 5)) g12 pa pb (t12 i)) ((f12 19))) (by omega)).mpr h9)
            refine lv_iconst (v := nI 4294967295) hx hb dX5_missing_77 (by decide) ?_
            subst hQ
            exact rwi (f12, g12, t12) hx hb hr hlocks (⟨fun h9 => absurd (⟨fun h9 => absurd h9 c1_1, fun _ => ⟨c9_11.1, c9_11.2⟩⟩) h9, fun _ => ⟨f12, g12, t12, hsm12, hMB12, hWk12, h2012, fun h9 => absurd c49_14 h9, fun _ => ⟨fun _ => ⟨rfl, rfl⟩, fun h9 => absurd (by rw [hmn]; omega) h9⟩⟩⟩) hP hK hD hS dX5_missing_78
      · have c49_14 : ¬ (f12 19 ≤ 12000) := bP_f c49_14
        refine lv_bipush (v := nI 4294967294) hx hb dX5_missing_52 (by decide) ?_
        subst hQ
        exact rwi (f12, g12, t12) hx hb hr hlocks (⟨fun h9 => absurd (⟨fun h9 => absurd h9 c1_1, fun _ => ⟨c9_11.1, c9_11.2⟩⟩) h9, fun _ => ⟨f12, g12, t12, hsm12, hMB12, hWk12, h2012, fun _ => ⟨rfl, rfl⟩, fun h9 => absurd h9 c49_14⟩⟩) hP hK hD hS dX5_missing_54
    · have c9_11 : ¬ (pa ≤ 255 ∧ pb ≤ 15) := bP_f c9_11
      refine lv_goto (tgt := 43) hx hb dX5_missing_12 (by decide) ?_
      refine lv_iconst (v := nI 4294967295) hx hb dX5_missing_43 (by decide) ?_
      subst hQ
      exact rwi (f, g, t) hx hb hr hlocks (⟨fun _ => ⟨rfl, rfl⟩, fun h9 => absurd (h9.2 c1_1) c9_11⟩) hP hK hD hS dX5_missing_44

theorem dstep {P : Nat → Prop} {d z : Nat} (h : d ≤ z) (hz : P z) (hn : ¬ P d) : d + 1 ≤ z := by
  rcases Nat.lt_or_ge d z with q | q
  · exact q
  · exact absurd (show P d by rw [show d = z by omega]; exact hz) hn
set_option maxHeartbeats 4000000 in
set_option maxRecDepth 100000 in
theorem c_X5_placeOf (l : Launch) (sx : Nat) : Met l yX5_placeOf (.code yX5_placeOf cX5_placeOf 4 (some .int) :: wsL_law) ({ frames := 0, cells := 0, slots := 0, locals := 0 }) (va_Pc [.long (lN sx)] PU) (QrI (nI (placeM sx))) 0 0 (fun _ => False) := by
  refine Met.ofW (cc := cX5_placeOf) (maxL := 4) (ret := (some .int)) (by decide) rfl ?_
  intro p e s m args below meth c s₁ B hml hv
  obtain ⟨rfl, hv⟩ := hv
  have hx := B.exec
  have hb := B.bytes
  have hr := B.returns
  have hts := atoms_spec (ws := .code yX5_placeOf cX5_placeOf 4 (some .int) :: wsL_law) B.pre
  have hU : ∀ w ∈ wsL_law, w.before _ s = true := fun w h => hts w (List.mem_cons_of_mem _ h)
  have hown : s.vm.findClass RX5 = some m.cls := findClass_of_methodNamed B.named
  have hlocks := B.notSynchronized
  generalize hQ : MQ _ _ _ _ _ _ _ = Q
  have hl := lv_entry ([.long (lN sx)]) (n := 4) (Nat.le_of_ble_eq_true rfl)
  rw [lg_entry_eq]
  generalize (lg_sl ([.long (lN sx)]) ++ List.replicate (4 - (lg_sl ([.long (lN sx)])).length) Slot.unset).toArray = ls at hl ⊢
  have hl : lv_has ls 4 [(0, .long (lN sx))] := hl
  refine lv_lload_n hx hb dX5_placeOf_0 rfl (lv_at hl 0 rfl) ?_
  refine lv_ldc2 (v := (2654435761)) hx hb hown (hU _ mU_491) dX5_placeOf_1 ?_
  refine lv_topEl (lN 2654435761) (by decide) ?_
  refine lv_lmul hx hb dX5_placeOf_4 ?_
  refine lv_lstore_n (lv' := [(2, .long ((lN sx) * (lN 2654435761))), (0, .long (lN sx))]) hx hb dX5_placeOf_5 rfl hl (by decide) rfl (fun ls hl => ?_)
  refine lv_lload_n hx hb dX5_placeOf_6 rfl (lv_at hl 0 rfl) ?_
  refine lv_bipush (v := nI 20) hx hb dX5_placeOf_7 (by decide) ?_
  refine lv_lshr hx hb dX5_placeOf_9 rfl ?_
  refine lv_lload_n hx hb dX5_placeOf_10 rfl (lv_at hl 0 rfl) ?_
  refine lv_bipush (v := nI 37) hx hb dX5_placeOf_11 (by decide) ?_
  refine lv_lshr hx hb dX5_placeOf_13 rfl ?_
  refine lv_lxor hx hb dX5_placeOf_14 ?_
  refine lv_l2i hx hb dX5_placeOf_15 rfl ?_
  refine lv_sipush (v := nI 32767) hx hb dX5_placeOf_16 (by decide) ?_
  refine lv_iand hx hb dX5_placeOf_19 ?_
  subst hQ
  exact rti hx hb hr hlocks rfl (pk_and _ 15 (by decide)) dX5_placeOf_20

set_option maxHeartbeats 4000000 in
set_option maxRecDepth 100000 in
theorem c_X5_come (l : Launch) (D : va_G) (ad : Nat → Nat) (ka : Nat → ClassId) (f : Nat → Nat) (g : Nat → Nat → Nat) (t : Nat → Nat) (sz : Nat) (sx : Nat) (fr : Nat) (ki : Nat) (hsx : sx < 2 ^ 48) (hfr : fr = 4294967295 ∨ fr < f 19) (hki : ki < 10) (hst : f 19 ≤ 12001) (htab : tabI (f 19) t (g 11)) (ht48 : ∀ i, i < f 19 → t i < 2 ^ 48) (hfa : ∀ i, i < f 19 → g 10 i ≤ 12000) : Met l yX5_come (.code yX5_come cX5_come 6 none :: wsL_law) ({ frames := 1, cells := 0, slots := 0, locals := 23 }) (va_Pc [.ref (ad 0), .long (lN sx), .int (nI fr), .int (nI ki)] (PW D (mW ad ka f g t) (mT ka) sz)) (va_Qv (fun u : MSt => ∃ tb, tabI (insB (f 19, t, g 8, g 9, g 10) sx fr ki).1 (insB (f 19, t, g 8, g 9, g 10) sx fr ki).2.1 tb ∧ u = mB f g (insB (f 19, t, g 8, g 9, g 10) sx fr ki) tb) (QW D (fun u : MSt => mW ad ka u.1 u.2.1 u.2.2) (fun _ => mT ka) (va_A (mW ad ka f g t) sz)) (va_A (mW ad ka f g t) sz)) 0 0 (va_A (mW ad ka f g t) sz) := by
  refine Met.ofW (cc := cX5_come) (maxL := 6) (ret := none) (by decide) rfl ?_
  intro p e s m args below meth c s₁ B hml hv
  obtain ⟨rfl, hsz, hP, hK, hD0⟩ := hv
  have hx := B.exec
  have hb := B.bytes
  have hr := B.returns
  have hts := atoms_spec (ws := .code yX5_come cX5_come 6 none :: wsL_law) B.pre
  have hU : ∀ w ∈ wsL_law, w.before _ s = true := fun w h => hts w (List.mem_cons_of_mem _ h)
  have hown : s.vm.findClass RX5 = some m.cls := findClass_of_methodNamed B.named
  have hlocks := B.notSynchronized
  subst hsz
  have hD := hD0.self (sz := s.heap.size)
  generalize hAe : va_A (mW ad ka f g t) s.heap.size = Ar at hD ⊢
  have hA : ∀ q : Nat, s.heap.size ≤ q → Ar q := fun q h => by rw [← hAe]; exact Or.inr h
  have hS : va_S Ar s.heap s.heap [] := va_S.rf
  have hP : va_P D vwCl [(ad 0, .inr (5, [.ref (ad 1), .ref (ad 2), .ref (ad 3), .ref (ad 4), .ref (ad 5), .int (nI (f 5)), .ref (ad 6), .int (nI (f 7)), .int (nI (f 8)), .int (nI (f 9)), .int (nI (f 10)), .int (nI (f 11)), .int (nI (f 12)), .int (nI (f 13)), .ref (ad 7), .ref (ad 8), .ref (ad 9), .ref (ad 10), .ref (ad 11), .int (nI (f 19)), .int (nI (f 20)), .int (nI (f 21)), .ref (ad 12)])), (ad 1, .inl (ka 1, 5, .inl (nA (g 1)))), (ad 2, .inl (ka 2, 40, .inl (nA (g 2)))), (ad 3, .inl (ka 3, 160, .inl (nA (g 3)))), (ad 4, .inl (ka 4, 4, .inl (nA (g 4)))), (ad 5, .inl (ka 5, 4, .inl (nA (g 5)))), (ad 6, .inl (ka 6, 200, .inl (nA (g 6)))), (ad 7, .inl (ka 7, 12001, .inr (.inl (lA t)))), (ad 8, .inl (ka 8, 12001, .inl (nA (g 8)))), (ad 9, .inl (ka 9, 12001, .inl (nA (g 9)))), (ad 10, .inl (ka 10, 12001, .inl (nA (g 10)))), (ad 11, .inl (ka 11, 32768, .inl (nA (g 11)))), (ad 12, .inl (ka 12, 64, .inl (nA (g 12))))] s.heap := hP
  have hD : va_D Ar [(ad 0, .inr (5, [.ref (ad 1), .ref (ad 2), .ref (ad 3), .ref (ad 4), .ref (ad 5), .int (nI (f 5)), .ref (ad 6), .int (nI (f 7)), .int (nI (f 8)), .int (nI (f 9)), .int (nI (f 10)), .int (nI (f 11)), .int (nI (f 12)), .int (nI (f 13)), .ref (ad 7), .ref (ad 8), .ref (ad 9), .ref (ad 10), .ref (ad 11), .int (nI (f 19)), .int (nI (f 20)), .int (nI (f 21)), .ref (ad 12)])), (ad 1, .inl (ka 1, 5, .inl (nA (g 1)))), (ad 2, .inl (ka 2, 40, .inl (nA (g 2)))), (ad 3, .inl (ka 3, 160, .inl (nA (g 3)))), (ad 4, .inl (ka 4, 4, .inl (nA (g 4)))), (ad 5, .inl (ka 5, 4, .inl (nA (g 5)))), (ad 6, .inl (ka 6, 200, .inl (nA (g 6)))), (ad 7, .inl (ka 7, 12001, .inr (.inl (lA t)))), (ad 8, .inl (ka 8, 12001, .inl (nA (g 8)))), (ad 9, .inl (ka 9, 12001, .inl (nA (g 9)))), (ad 10, .inl (ka 10, 12001, .inl (nA (g 10)))), (ad 11, .inl (ka 11, 32768, .inl (nA (g 11)))), (ad 12, .inl (ka 12, 64, .inl (nA (g 12))))] := hD
  generalize hQ : MQ _ _ _ _ _ _ _ = Q
  have hl := lv_entry ([.ref (ad 0), .long (lN sx), .int (nI fr), .int (nI ki)]) (n := 6) (Nat.le_of_ble_eq_true rfl)
  rw [lg_entry_eq]
  generalize (lg_sl ([.ref (ad 0), .long (lN sx), .int (nI fr), .int (nI ki)]) ++ List.replicate (6 - (lg_sl ([.ref (ad 0), .long (lN sx), .int (nI fr), .int (nI ki)])).length) Slot.unset).toArray = ls at hl ⊢
  have hl : lv_has ls 6 [(0, .ref (ad 0)), (1, .long (lN sx)), (3, .int (nI fr)), (4, .int (nI ki))] := hl
  obtain ⟨z, hz9, hz⟩ := tab_zero htab (by omega) (placeM sx)
  refine lv_lload_n hx hb dX5_come_0 rfl (lv_at hl 1 rfl) ?_
  refine cSi (As := [.long (lN sx)]) (rest := []) ⟨hx, hb, hml, hown, hts⟩ (c_X5_placeOf l  sx ) (va_cwS 1 hts (gS mU_488 mU_489 mU_6 mU_490) rfl rfl rfl (by decide +kernel) ⟨Nat.le_of_ble_eq_true rfl, Nat.le_of_ble_eq_true rfl⟩) fbU (fun _ _ _ => trivial) rfl hl.1 rfl (Nat.le_of_ble_eq_true rfl) dX5_come_1 ⟨Nat.zero_le _, Nat.zero_le _⟩ ?_
  have hf_1 : placeM sx < 32768 := placeM_lt _
  refine lv_topE (nI ((placeM sx + 0) % 32768)) (congrArg nI (by omega)) ?_
  refine lv_istore (lv' := [(5, .int (nI ((placeM sx + 0) % 32768))), (0, .ref (ad 0)), (1, .long (lN sx)), (3, .int (nI fr)), (4, .int (nI ki))]) hx hb dX5_come_4 hl (by decide) rfl (fun ls hl => ?_)
  have L6_28 : ∀ (n : Nat) (d : Nat), (d ≤ z) → (∀ q, q < d → g 11 ((placeM sx + q) % 32768) ≠ 0 ∧ ¬ t (g 11 ((placeM sx + q) % 32768) - 1) = sx) → (z - d) < n → ∀ (H : Heap) (locs : List Loc), va_P D vwCl [(ad 0, .inr (5, [.ref (ad 1), .ref (ad 2), .ref (ad 3), .ref (ad 4), .ref (ad 5), .int (nI (f 5)), .ref (ad 6), .int (nI (f 7)), .int (nI (f 8)), .int (nI (f 9)), .int (nI (f 10)), .int (nI (f 11)), .int (nI (f 12)), .int (nI (f 13)), .ref (ad 7), .ref (ad 8), .ref (ad 9), .ref (ad 10), .ref (ad 11), .int (nI (f 19)), .int (nI (f 20)), .int (nI (f 21)), .ref (ad 12)])), (ad 1, .inl (ka 1, 5, .inl (nA (g 1)))), (ad 2, .inl (ka 2, 40, .inl (nA (g 2)))), (ad 3, .inl (ka 3, 160, .inl (nA (g 3)))), (ad 4, .inl (ka 4, 4, .inl (nA (g 4)))), (ad 5, .inl (ka 5, 4, .inl (nA (g 5)))), (ad 6, .inl (ka 6, 200, .inl (nA (g 6)))), (ad 7, .inl (ka 7, 12001, .inr (.inl (lA t)))), (ad 8, .inl (ka 8, 12001, .inl (nA (g 8)))), (ad 9, .inl (ka 9, 12001, .inl (nA (g 9)))), (ad 10, .inl (ka 10, 12001, .inl (nA (g 10)))), (ad 11, .inl (ka 11, 32768, .inl (nA (g 11)))), (ad 12, .inl (ka 12, 64, .inl (nA (g 12))))] H → va_D Ar [(ad 0, .inr (5, [.ref (ad 1), .ref (ad 2), .ref (ad 3), .ref (ad 4), .ref (ad 5), .int (nI (f 5)), .ref (ad 6), .int (nI (f 7)), .int (nI (f 8)), .int (nI (f 9)), .int (nI (f 10)), .int (nI (f 11)), .int (nI (f 12)), .int (nI (f 13)), .ref (ad 7), .ref (ad 8), .ref (ad 9), .ref (ad 10), .ref (ad 11), .int (nI (f 19)), .int (nI (f 20)), .int (nI (f 21)), .ref (ad 12)])), (ad 1, .inl (ka 1, 5, .inl (nA (g 1)))), (ad 2, .inl (ka 2, 40, .inl (nA (g 2)))), (ad 3, .inl (ka 3, 160, .inl (nA (g 3)))), (ad 4, .inl (ka 4, 4, .inl (nA (g 4)))), (ad 5, .inl (ka 5, 4, .inl (nA (g 5)))), (ad 6, .inl (ka 6, 200, .inl (nA (g 6)))), (ad 7, .inl (ka 7, 12001, .inr (.inl (lA t)))), (ad 8, .inl (ka 8, 12001, .inl (nA (g 8)))), (ad 9, .inl (ka 9, 12001, .inl (nA (g 9)))), (ad 10, .inl (ka 10, 12001, .inl (nA (g 10)))), (ad 11, .inl (ka 11, 32768, .inl (nA (g 11)))), (ad 12, .inl (ka 12, 64, .inl (nA (g 12))))] → va_S Ar s.heap H locs → ∀ ls : Array Slot, lv_has ls 6 [(0, .ref (ad 0)), (1, .long (lN sx)), (3, .int (nI fr)), (4, .int (nI ki)), (5, .int (nI ((placeM sx + d) % 32768)))] → W p l e ({ frames := 1, cells := 0, slots := 0, locals := 23 } : Room) s m (([.ref (ad 0), .long (lN sx), .int (nI fr), .int (nI ki)] : List Value).toArray) below meth c H locs 0 0 Q (F0 m 6 ls []) := by
    intro n6
    induction n6 with
    | zero => intro d hd hne hm6; exact absurd hm6 (Nat.not_lt_zero _)
    | succ n6 ih6 =>
      intro d hd hne hm6 H locs hP hD hS ls hl
      refine lv_aload_n hx hb dX5_come_6 rfl (lv_at hl 0 rfl) ?_
      refine va_get (D := D) (ci := 5) (v := .ref (ad 11)) (C := RX5) (T := TX5) (N := 23) hx hb hU iX5 hown hK hP 0 rfl rfl 18 (by decide) (hU _ mU_89) (fun _ h9 => h9) rfl dX5_come_7 ?_
      refine lv_iload hx hb dX5_come_10 (lv_at hl 4 rfl) ?_
      refine n_iald hx hb hK hP 11 10 rfl rfl (i := (placeM sx + d) % 32768) (by omega) (by decide) dX5_come_12 ?_
      have hle := htab.1 ((placeM sx + d) % 32768) (by omega)
      refine lv_if_eq (tgt := 49) hx hb dX5_come_13 (by decide) (fun c13_2 => ?_) (fun c13_2 => ?_)
      · have c13_2 : (g 11) ((placeM sx + d) % 32768) = 0 := (nI_eqG (a := (g 11) ((placeM sx + d) % 32768)) (b := 0) (by omega) (by omega)).mp c13_2
        have hz0 : g 11 ((placeM sx + d) % 32768) = 0 := c13_2
        have hab := tab_absent htab hz0 hne
        refine lv_aload_n hx hb dX5_come_49 rfl (lv_at hl 0 rfl) ?_
        refine va_get (D := D) (ci := 5) (v := .int (nI (f 19))) (C := RX5) (T := TX5) (N := 23) hx hb hU iX5 hown hK hP 0 rfl rfl 19 (by decide) (hU _ mU_467) (fun _ h9 => h9) rfl dX5_come_50 ?_
        refine lv_sipush (v := nI 12000) hx hb dX5_come_53 (by decide) ?_
        refine lv_icmp_le (tgt := 60) hx hb dX5_come_56 (by decide) (fun c56_3 => ?_) (fun c56_3 => ?_)
        · have c56_3 : f 19 ≤ 12000 := (nI_leI (a := f 19) (b := 12000) (by omega) (by omega)).mp c56_3
          refine lv_aload_n hx hb dX5_come_60 rfl (lv_at hl 0 rfl) ?_
          refine va_get (D := D) (ci := 5) (v := .ref (ad 7)) (C := RX5) (T := TX5) (N := 23) hx hb hU iX5 hown hK hP 0 rfl rfl 14 (by decide) (hU _ mU_83) (fun _ h9 => h9) rfl dX5_come_61 ?_
          refine lv_aload_n hx hb dX5_come_64 rfl (lv_at hl 0 rfl) ?_
          refine va_get (D := D) (ci := 5) (v := .int (nI (f 19))) (C := RX5) (T := TX5) (N := 23) hx hb hU iX5 hown hK hP 0 rfl rfl 19 (by decide) (hU _ mU_467) (fun _ h9 => h9) rfl dX5_come_65 ?_
          refine lv_lload_n hx hb dX5_come_68 rfl (lv_at hl 1 rfl) ?_
          refine n_last hx hb hK hP hD hS 7 6 rfl rfl (i := f 19) (v := sx) (by omega) (by decide) dX5_come_69 (fun H locs hP hD hS => ?_)
          have hP : va_P D vwCl [(ad 0, .inr (5, [.ref (ad 1), .ref (ad 2), .ref (ad 3), .ref (ad 4), .ref (ad 5), .int (nI (f 5)), .ref (ad 6), .int (nI (f 7)), .int (nI (f 8)), .int (nI (f 9)), .int (nI (f 10)), .int (nI (f 11)), .int (nI (f 12)), .int (nI (f 13)), .ref (ad 7), .ref (ad 8), .ref (ad 9), .ref (ad 10), .ref (ad 11), .int (nI (f 19)), .int (nI (f 20)), .int (nI (f 21)), .ref (ad 12)])), (ad 1, .inl (ka 1, 5, .inl (nA (g 1)))), (ad 2, .inl (ka 2, 40, .inl (nA (g 2)))), (ad 3, .inl (ka 3, 160, .inl (nA (g 3)))), (ad 4, .inl (ka 4, 4, .inl (nA (g 4)))), (ad 5, .inl (ka 5, 4, .inl (nA (g 5)))), (ad 6, .inl (ka 6, 200, .inl (nA (g 6)))), (ad 7, .inl (ka 7, 12001, .inr (.inl (lA (upN t (f 19) sx))))), (ad 8, .inl (ka 8, 12001, .inl (nA (g 8)))), (ad 9, .inl (ka 9, 12001, .inl (nA (g 9)))), (ad 10, .inl (ka 10, 12001, .inl (nA (g 10)))), (ad 11, .inl (ka 11, 32768, .inl (nA (g 11)))), (ad 12, .inl (ka 12, 64, .inl (nA (g 12))))] H := hP
          have hD : va_D Ar [(ad 0, .inr (5, [.ref (ad 1), .ref (ad 2), .ref (ad 3), .ref (ad 4), .ref (ad 5), .int (nI (f 5)), .ref (ad 6), .int (nI (f 7)), .int (nI (f 8)), .int (nI (f 9)), .int (nI (f 10)), .int (nI (f 11)), .int (nI (f 12)), .int (nI (f 13)), .ref (ad 7), .ref (ad 8), .ref (ad 9), .ref (ad 10), .ref (ad 11), .int (nI (f 19)), .int (nI (f 20)), .int (nI (f 21)), .ref (ad 12)])), (ad 1, .inl (ka 1, 5, .inl (nA (g 1)))), (ad 2, .inl (ka 2, 40, .inl (nA (g 2)))), (ad 3, .inl (ka 3, 160, .inl (nA (g 3)))), (ad 4, .inl (ka 4, 4, .inl (nA (g 4)))), (ad 5, .inl (ka 5, 4, .inl (nA (g 5)))), (ad 6, .inl (ka 6, 200, .inl (nA (g 6)))), (ad 7, .inl (ka 7, 12001, .inr (.inl (lA (upN t (f 19) sx))))), (ad 8, .inl (ka 8, 12001, .inl (nA (g 8)))), (ad 9, .inl (ka 9, 12001, .inl (nA (g 9)))), (ad 10, .inl (ka 10, 12001, .inl (nA (g 10)))), (ad 11, .inl (ka 11, 32768, .inl (nA (g 11)))), (ad 12, .inl (ka 12, 64, .inl (nA (g 12))))] := hD
          refine lv_aload_n hx hb dX5_come_70 rfl (lv_at hl 0 rfl) ?_
          refine va_get (D := D) (ci := 5) (v := .ref (ad 8)) (C := RX5) (T := TX5) (N := 23) hx hb hU iX5 hown hK hP 0 rfl rfl 15 (by decide) (hU _ mU_84) (fun _ h9 => h9) rfl dX5_come_71 ?_
          refine lv_aload_n hx hb dX5_come_74 rfl (lv_at hl 0 rfl) ?_
          refine va_get (D := D) (ci := 5) (v := .int (nI (f 19))) (C := RX5) (T := TX5) (N := 23) hx hb hU iX5 hown hK hP 0 rfl rfl 19 (by decide) (hU _ mU_467) (fun _ h9 => h9) rfl dX5_come_75 ?_
          refine lv_iload_n hx hb dX5_come_78 rfl (lv_at hl 2 rfl) ?_
          refine n_iast hx hb hK hP hD hS 8 7 rfl rfl (i := f 19) (v := fr) (by omega) (by decide) dX5_come_79 (fun H locs hP hD hS => ?_)
          have hP : va_P D vwCl [(ad 0, .inr (5, [.ref (ad 1), .ref (ad 2), .ref (ad 3), .ref (ad 4), .ref (ad 5), .int (nI (f 5)), .ref (ad 6), .int (nI (f 7)), .int (nI (f 8)), .int (nI (f 9)), .int (nI (f 10)), .int (nI (f 11)), .int (nI (f 12)), .int (nI (f 13)), .ref (ad 7), .ref (ad 8), .ref (ad 9), .ref (ad 10), .ref (ad 11), .int (nI (f 19)), .int (nI (f 20)), .int (nI (f 21)), .ref (ad 12)])), (ad 1, .inl (ka 1, 5, .inl (nA (g 1)))), (ad 2, .inl (ka 2, 40, .inl (nA (g 2)))), (ad 3, .inl (ka 3, 160, .inl (nA (g 3)))), (ad 4, .inl (ka 4, 4, .inl (nA (g 4)))), (ad 5, .inl (ka 5, 4, .inl (nA (g 5)))), (ad 6, .inl (ka 6, 200, .inl (nA (g 6)))), (ad 7, .inl (ka 7, 12001, .inr (.inl (lA (upN t (f 19) sx))))), (ad 8, .inl (ka 8, 12001, .inl (nA (upN (g 8) (f 19) fr)))), (ad 9, .inl (ka 9, 12001, .inl (nA (g 9)))), (ad 10, .inl (ka 10, 12001, .inl (nA (g 10)))), (ad 11, .inl (ka 11, 32768, .inl (nA (g 11)))), (ad 12, .inl (ka 12, 64, .inl (nA (g 12))))] H := hP
          have hD : va_D Ar [(ad 0, .inr (5, [.ref (ad 1), .ref (ad 2), .ref (ad 3), .ref (ad 4), .ref (ad 5), .int (nI (f 5)), .ref (ad 6), .int (nI (f 7)), .int (nI (f 8)), .int (nI (f 9)), .int (nI (f 10)), .int (nI (f 11)), .int (nI (f 12)), .int (nI (f 13)), .ref (ad 7), .ref (ad 8), .ref (ad 9), .ref (ad 10), .ref (ad 11), .int (nI (f 19)), .int (nI (f 20)), .int (nI (f 21)), .ref (ad 12)])), (ad 1, .inl (ka 1, 5, .inl (nA (g 1)))), (ad 2, .inl (ka 2, 40, .inl (nA (g 2)))), (ad 3, .inl (ka 3, 160, .inl (nA (g 3)))), (ad 4, .inl (ka 4, 4, .inl (nA (g 4)))), (ad 5, .inl (ka 5, 4, .inl (nA (g 5)))), (ad 6, .inl (ka 6, 200, .inl (nA (g 6)))), (ad 7, .inl (ka 7, 12001, .inr (.inl (lA (upN t (f 19) sx))))), (ad 8, .inl (ka 8, 12001, .inl (nA (upN (g 8) (f 19) fr)))), (ad 9, .inl (ka 9, 12001, .inl (nA (g 9)))), (ad 10, .inl (ka 10, 12001, .inl (nA (g 10)))), (ad 11, .inl (ka 11, 32768, .inl (nA (g 11)))), (ad 12, .inl (ka 12, 64, .inl (nA (g 12))))] := hD
          refine lv_aload_n hx hb dX5_come_80 rfl (lv_at hl 0 rfl) ?_
          refine va_get (D := D) (ci := 5) (v := .ref (ad 9)) (C := RX5) (T := TX5) (N := 23) hx hb hU iX5 hown hK hP 0 rfl rfl 16 (by decide) (hU _ mU_85) (fun _ h9 => h9) rfl dX5_come_81 ?_
          refine lv_aload_n hx hb dX5_come_84 rfl (lv_at hl 0 rfl) ?_
          refine va_get (D := D) (ci := 5) (v := .int (nI (f 19))) (C := RX5) (T := TX5) (N := 23) hx hb hU iX5 hown hK hP 0 rfl rfl 19 (by decide) (hU _ mU_467) (fun _ h9 => h9) rfl dX5_come_85 ?_
          refine lv_iload hx hb dX5_come_88 (lv_at hl 3 rfl) ?_
          refine lv_i2b hx hb dX5_come_90 rfl ?_
          refine lv_topE (nI ki) (vp_nar_b (Or.inl (by omega))) ?_
          refine n_bast hx hb hK hP hD hS 9 8 rfl rfl (i := f 19) (v := ki) (by omega) (by decide) (by omega) dX5_come_91 (fun H locs hP hD hS => ?_)
          have hP : va_P D vwCl [(ad 0, .inr (5, [.ref (ad 1), .ref (ad 2), .ref (ad 3), .ref (ad 4), .ref (ad 5), .int (nI (f 5)), .ref (ad 6), .int (nI (f 7)), .int (nI (f 8)), .int (nI (f 9)), .int (nI (f 10)), .int (nI (f 11)), .int (nI (f 12)), .int (nI (f 13)), .ref (ad 7), .ref (ad 8), .ref (ad 9), .ref (ad 10), .ref (ad 11), .int (nI (f 19)), .int (nI (f 20)), .int (nI (f 21)), .ref (ad 12)])), (ad 1, .inl (ka 1, 5, .inl (nA (g 1)))), (ad 2, .inl (ka 2, 40, .inl (nA (g 2)))), (ad 3, .inl (ka 3, 160, .inl (nA (g 3)))), (ad 4, .inl (ka 4, 4, .inl (nA (g 4)))), (ad 5, .inl (ka 5, 4, .inl (nA (g 5)))), (ad 6, .inl (ka 6, 200, .inl (nA (g 6)))), (ad 7, .inl (ka 7, 12001, .inr (.inl (lA (upN t (f 19) sx))))), (ad 8, .inl (ka 8, 12001, .inl (nA (upN (g 8) (f 19) fr)))), (ad 9, .inl (ka 9, 12001, .inl (nA (upN (g 9) (f 19) ki)))), (ad 10, .inl (ka 10, 12001, .inl (nA (g 10)))), (ad 11, .inl (ka 11, 32768, .inl (nA (g 11)))), (ad 12, .inl (ka 12, 64, .inl (nA (g 12))))] H := hP
          have hD : va_D Ar [(ad 0, .inr (5, [.ref (ad 1), .ref (ad 2), .ref (ad 3), .ref (ad 4), .ref (ad 5), .int (nI (f 5)), .ref (ad 6), .int (nI (f 7)), .int (nI (f 8)), .int (nI (f 9)), .int (nI (f 10)), .int (nI (f 11)), .int (nI (f 12)), .int (nI (f 13)), .ref (ad 7), .ref (ad 8), .ref (ad 9), .ref (ad 10), .ref (ad 11), .int (nI (f 19)), .int (nI (f 20)), .int (nI (f 21)), .ref (ad 12)])), (ad 1, .inl (ka 1, 5, .inl (nA (g 1)))), (ad 2, .inl (ka 2, 40, .inl (nA (g 2)))), (ad 3, .inl (ka 3, 160, .inl (nA (g 3)))), (ad 4, .inl (ka 4, 4, .inl (nA (g 4)))), (ad 5, .inl (ka 5, 4, .inl (nA (g 5)))), (ad 6, .inl (ka 6, 200, .inl (nA (g 6)))), (ad 7, .inl (ka 7, 12001, .inr (.inl (lA (upN t (f 19) sx))))), (ad 8, .inl (ka 8, 12001, .inl (nA (upN (g 8) (f 19) fr)))), (ad 9, .inl (ka 9, 12001, .inl (nA (upN (g 9) (f 19) ki)))), (ad 10, .inl (ka 10, 12001, .inl (nA (g 10)))), (ad 11, .inl (ka 11, 32768, .inl (nA (g 11)))), (ad 12, .inl (ka 12, 64, .inl (nA (g 12))))] := hD
          refine lv_aload_n hx hb dX5_come_92 rfl (lv_at hl 0 rfl) ?_
          refine va_get (D := D) (ci := 5) (v := .ref (ad 10)) (C := RX5) (T := TX5) (N := 23) hx hb hU iX5 hown hK hP 0 rfl rfl 17 (by decide) (hU _ mU_87) (fun _ h9 => h9) rfl dX5_come_93 ?_
          refine lv_aload_n hx hb dX5_come_96 rfl (lv_at hl 0 rfl) ?_
          refine va_get (D := D) (ci := 5) (v := .int (nI (f 19))) (C := RX5) (T := TX5) (N := 23) hx hb hU iX5 hown hK hP 0 rfl rfl 19 (by decide) (hU _ mU_467) (fun _ h9 => h9) rfl dX5_come_97 ?_
          refine lv_iload_n hx hb dX5_come_100 rfl (lv_at hl 2 rfl) ?_
          refine lv_if_ge (tgt := 108) hx hb dX5_come_101 (by decide) (fun c101_4 => ?_) (fun c101_4 => ?_)
          · have c101_4 : fr < 2147483648 := (nI_ge0 (a := fr) (by omega)).mp c101_4
            refine lv_aload_n hx hb dX5_come_108 rfl (lv_at hl 0 rfl) ?_
            refine va_get (D := D) (ci := 5) (v := .ref (ad 10)) (C := RX5) (T := TX5) (N := 23) hx hb hU iX5 hown hK hP 0 rfl rfl 17 (by decide) (hU _ mU_87) (fun _ h9 => h9) rfl dX5_come_109 ?_
            refine lv_iload_n hx hb dX5_come_112 rfl (lv_at hl 2 rfl) ?_
            refine n_sald hx hb hK hP 10 9 rfl rfl (i := fr) (by omega) (by decide) dX5_come_113 ?_
            have hfl := hfa fr (by omega)
            refine lv_iconst (v := nI 1) hx hb dX5_come_114 (by decide) ?_
            refine lv_iadd hx hb dX5_come_115 ?_
            refine lv_topE (nI (((g 10) fr) + 1)) (nI_add _ _) ?_
            refine lv_i2s hx hb dX5_come_116 rfl ?_
            refine lv_topE (nI (((g 10) fr) + 1)) (vp_nar_s (by omega)) ?_
            refine n_sast hx hb hK hP hD hS 10 9 rfl rfl (i := f 19) (v := ((g 10) fr) + 1) (by omega) (by decide) (by omega) dX5_come_117 (fun H locs hP hD hS => ?_)
            have hP : va_P D vwCl [(ad 0, .inr (5, [.ref (ad 1), .ref (ad 2), .ref (ad 3), .ref (ad 4), .ref (ad 5), .int (nI (f 5)), .ref (ad 6), .int (nI (f 7)), .int (nI (f 8)), .int (nI (f 9)), .int (nI (f 10)), .int (nI (f 11)), .int (nI (f 12)), .int (nI (f 13)), .ref (ad 7), .ref (ad 8), .ref (ad 9), .ref (ad 10), .ref (ad 11), .int (nI (f 19)), .int (nI (f 20)), .int (nI (f 21)), .ref (ad 12)])), (ad 1, .inl (ka 1, 5, .inl (nA (g 1)))), (ad 2, .inl (ka 2, 40, .inl (nA (g 2)))), (ad 3, .inl (ka 3, 160, .inl (nA (g 3)))), (ad 4, .inl (ka 4, 4, .inl (nA (g 4)))), (ad 5, .inl (ka 5, 4, .inl (nA (g 5)))), (ad 6, .inl (ka 6, 200, .inl (nA (g 6)))), (ad 7, .inl (ka 7, 12001, .inr (.inl (lA (upN t (f 19) sx))))), (ad 8, .inl (ka 8, 12001, .inl (nA (upN (g 8) (f 19) fr)))), (ad 9, .inl (ka 9, 12001, .inl (nA (upN (g 9) (f 19) ki)))), (ad 10, .inl (ka 10, 12001, .inl (nA (upN (g 10) (f 19) (((g 10) fr) + 1))))), (ad 11, .inl (ka 11, 32768, .inl (nA (g 11)))), (ad 12, .inl (ka 12, 64, .inl (nA (g 12))))] H := hP
            have hD : va_D Ar [(ad 0, .inr (5, [.ref (ad 1), .ref (ad 2), .ref (ad 3), .ref (ad 4), .ref (ad 5), .int (nI (f 5)), .ref (ad 6), .int (nI (f 7)), .int (nI (f 8)), .int (nI (f 9)), .int (nI (f 10)), .int (nI (f 11)), .int (nI (f 12)), .int (nI (f 13)), .ref (ad 7), .ref (ad 8), .ref (ad 9), .ref (ad 10), .ref (ad 11), .int (nI (f 19)), .int (nI (f 20)), .int (nI (f 21)), .ref (ad 12)])), (ad 1, .inl (ka 1, 5, .inl (nA (g 1)))), (ad 2, .inl (ka 2, 40, .inl (nA (g 2)))), (ad 3, .inl (ka 3, 160, .inl (nA (g 3)))), (ad 4, .inl (ka 4, 4, .inl (nA (g 4)))), (ad 5, .inl (ka 5, 4, .inl (nA (g 5)))), (ad 6, .inl (ka 6, 200, .inl (nA (g 6)))), (ad 7, .inl (ka 7, 12001, .inr (.inl (lA (upN t (f 19) sx))))), (ad 8, .inl (ka 8, 12001, .inl (nA (upN (g 8) (f 19) fr)))), (ad 9, .inl (ka 9, 12001, .inl (nA (upN (g 9) (f 19) ki)))), (ad 10, .inl (ka 10, 12001, .inl (nA (upN (g 10) (f 19) (((g 10) fr) + 1))))), (ad 11, .inl (ka 11, 32768, .inl (nA (g 11)))), (ad 12, .inl (ka 12, 64, .inl (nA (g 12))))] := hD
            refine lv_aload_n hx hb dX5_come_118 rfl (lv_at hl 0 rfl) ?_
            refine lv_dup hx hb dX5_come_119 rfl ?_
            refine va_get (D := D) (ci := 5) (v := .int (nI (f 19))) (C := RX5) (T := TX5) (N := 23) hx hb hU iX5 hown hK hP 0 rfl rfl 19 (by decide) (hU _ mU_467) (fun _ h9 => h9) rfl dX5_come_120 ?_
            refine lv_iconst (v := nI 1) hx hb dX5_come_123 (by decide) ?_
            refine lv_iadd hx hb dX5_come_124 ?_
            refine lv_topE (nI ((f 19) + 1)) (nI_add _ _) ?_
            refine va_put (D := D) (ci := 5) (v := .int (nI ((f 19) + 1))) (ty := .int) (C := RX5) (T := TX5) (N := 23) hx hb hU iX5 tyX5 tyX5_ok nmX5 hown hK hP hD hS 0 rfl rfl 19 (by decide) (hU _ mU_467) (fun _ h9 => h9) rfl (by decide +kernel) rfl rfl (Nat.le_of_ble_eq_true rfl) dX5_come_125 (fun H locs hP hD hS => ?_)
            have hP : va_P D vwCl [(ad 0, .inr (5, [.ref (ad 1), .ref (ad 2), .ref (ad 3), .ref (ad 4), .ref (ad 5), .int (nI (f 5)), .ref (ad 6), .int (nI (f 7)), .int (nI (f 8)), .int (nI (f 9)), .int (nI (f 10)), .int (nI (f 11)), .int (nI (f 12)), .int (nI (f 13)), .ref (ad 7), .ref (ad 8), .ref (ad 9), .ref (ad 10), .ref (ad 11), .int (nI ((f 19) + 1)), .int (nI (f 20)), .int (nI (f 21)), .ref (ad 12)])), (ad 1, .inl (ka 1, 5, .inl (nA (g 1)))), (ad 2, .inl (ka 2, 40, .inl (nA (g 2)))), (ad 3, .inl (ka 3, 160, .inl (nA (g 3)))), (ad 4, .inl (ka 4, 4, .inl (nA (g 4)))), (ad 5, .inl (ka 5, 4, .inl (nA (g 5)))), (ad 6, .inl (ka 6, 200, .inl (nA (g 6)))), (ad 7, .inl (ka 7, 12001, .inr (.inl (lA (upN t (f 19) sx))))), (ad 8, .inl (ka 8, 12001, .inl (nA (upN (g 8) (f 19) fr)))), (ad 9, .inl (ka 9, 12001, .inl (nA (upN (g 9) (f 19) ki)))), (ad 10, .inl (ka 10, 12001, .inl (nA (upN (g 10) (f 19) (((g 10) fr) + 1))))), (ad 11, .inl (ka 11, 32768, .inl (nA (g 11)))), (ad 12, .inl (ka 12, 64, .inl (nA (g 12))))] H := hP
            have hD : va_D Ar [(ad 0, .inr (5, [.ref (ad 1), .ref (ad 2), .ref (ad 3), .ref (ad 4), .ref (ad 5), .int (nI (f 5)), .ref (ad 6), .int (nI (f 7)), .int (nI (f 8)), .int (nI (f 9)), .int (nI (f 10)), .int (nI (f 11)), .int (nI (f 12)), .int (nI (f 13)), .ref (ad 7), .ref (ad 8), .ref (ad 9), .ref (ad 10), .ref (ad 11), .int (nI ((f 19) + 1)), .int (nI (f 20)), .int (nI (f 21)), .ref (ad 12)])), (ad 1, .inl (ka 1, 5, .inl (nA (g 1)))), (ad 2, .inl (ka 2, 40, .inl (nA (g 2)))), (ad 3, .inl (ka 3, 160, .inl (nA (g 3)))), (ad 4, .inl (ka 4, 4, .inl (nA (g 4)))), (ad 5, .inl (ka 5, 4, .inl (nA (g 5)))), (ad 6, .inl (ka 6, 200, .inl (nA (g 6)))), (ad 7, .inl (ka 7, 12001, .inr (.inl (lA (upN t (f 19) sx))))), (ad 8, .inl (ka 8, 12001, .inl (nA (upN (g 8) (f 19) fr)))), (ad 9, .inl (ka 9, 12001, .inl (nA (upN (g 9) (f 19) ki)))), (ad 10, .inl (ka 10, 12001, .inl (nA (upN (g 10) (f 19) (((g 10) fr) + 1))))), (ad 11, .inl (ka 11, 32768, .inl (nA (g 11)))), (ad 12, .inl (ka 12, 64, .inl (nA (g 12))))] := hD
            refine lv_aload_n hx hb dX5_come_128 rfl (lv_at hl 0 rfl) ?_
            refine va_get (D := D) (ci := 5) (v := .ref (ad 11)) (C := RX5) (T := TX5) (N := 23) hx hb hU iX5 hown hK hP 0 rfl rfl 18 (by decide) (hU _ mU_89) (fun _ h9 => h9) rfl dX5_come_129 ?_
            refine lv_iload hx hb dX5_come_132 (lv_at hl 4 rfl) ?_
            refine lv_aload_n hx hb dX5_come_134 rfl (lv_at hl 0 rfl) ?_
            refine va_get (D := D) (ci := 5) (v := .int (nI ((f 19) + 1))) (C := RX5) (T := TX5) (N := 23) hx hb hU iX5 hown hK hP 0 rfl rfl 19 (by decide) (hU _ mU_467) (fun _ h9 => h9) rfl dX5_come_135 ?_
            refine n_iast hx hb hK hP hD hS 11 10 rfl rfl (i := (placeM sx + d) % 32768) (v := (f 19) + 1) (by omega) (by decide) dX5_come_138 (fun H locs hP hD hS => ?_)
            have hP : va_P D vwCl [(ad 0, .inr (5, [.ref (ad 1), .ref (ad 2), .ref (ad 3), .ref (ad 4), .ref (ad 5), .int (nI (f 5)), .ref (ad 6), .int (nI (f 7)), .int (nI (f 8)), .int (nI (f 9)), .int (nI (f 10)), .int (nI (f 11)), .int (nI (f 12)), .int (nI (f 13)), .ref (ad 7), .ref (ad 8), .ref (ad 9), .ref (ad 10), .ref (ad 11), .int (nI ((f 19) + 1)), .int (nI (f 20)), .int (nI (f 21)), .ref (ad 12)])), (ad 1, .inl (ka 1, 5, .inl (nA (g 1)))), (ad 2, .inl (ka 2, 40, .inl (nA (g 2)))), (ad 3, .inl (ka 3, 160, .inl (nA (g 3)))), (ad 4, .inl (ka 4, 4, .inl (nA (g 4)))), (ad 5, .inl (ka 5, 4, .inl (nA (g 5)))), (ad 6, .inl (ka 6, 200, .inl (nA (g 6)))), (ad 7, .inl (ka 7, 12001, .inr (.inl (lA (upN t (f 19) sx))))), (ad 8, .inl (ka 8, 12001, .inl (nA (upN (g 8) (f 19) fr)))), (ad 9, .inl (ka 9, 12001, .inl (nA (upN (g 9) (f 19) ki)))), (ad 10, .inl (ka 10, 12001, .inl (nA (upN (g 10) (f 19) (((g 10) fr) + 1))))), (ad 11, .inl (ka 11, 32768, .inl (nA (upN (g 11) ((placeM sx + d) % 32768) ((f 19) + 1))))), (ad 12, .inl (ka 12, 64, .inl (nA (g 12))))] H := hP
            have hD : va_D Ar [(ad 0, .inr (5, [.ref (ad 1), .ref (ad 2), .ref (ad 3), .ref (ad 4), .ref (ad 5), .int (nI (f 5)), .ref (ad 6), .int (nI (f 7)), .int (nI (f 8)), .int (nI (f 9)), .int (nI (f 10)), .int (nI (f 11)), .int (nI (f 12)), .int (nI (f 13)), .ref (ad 7), .ref (ad 8), .ref (ad 9), .ref (ad 10), .ref (ad 11), .int (nI ((f 19) + 1)), .int (nI (f 20)), .int (nI (f 21)), .ref (ad 12)])), (ad 1, .inl (ka 1, 5, .inl (nA (g 1)))), (ad 2, .inl (ka 2, 40, .inl (nA (g 2)))), (ad 3, .inl (ka 3, 160, .inl (nA (g 3)))), (ad 4, .inl (ka 4, 4, .inl (nA (g 4)))), (ad 5, .inl (ka 5, 4, .inl (nA (g 5)))), (ad 6, .inl (ka 6, 200, .inl (nA (g 6)))), (ad 7, .inl (ka 7, 12001, .inr (.inl (lA (upN t (f 19) sx))))), (ad 8, .inl (ka 8, 12001, .inl (nA (upN (g 8) (f 19) fr)))), (ad 9, .inl (ka 9, 12001, .inl (nA (upN (g 9) (f 19) ki)))), (ad 10, .inl (ka 10, 12001, .inl (nA (upN (g 10) (f 19) (((g 10) fr) + 1))))), (ad 11, .inl (ka 11, 32768, .inl (nA (upN (g 11) ((placeM sx + d) % 32768) ((f 19) + 1))))), (ad 12, .inl (ka 12, 64, .inl (nA (g 12))))] := hD
            subst hQ
            exact rwv (mB f g (f 19 + 1, upN t (f 19) sx, upN (g 8) (f 19) fr, upN (g 9) (f 19) ki, upN (g 10) (f 19) (g 10 fr + 1)) (upN (g 11) ((placeM sx + d) % 32768) (f 19 + 1))) hx hb hr hlocks (by rw [insB, if_neg (hasB_f hab), if_pos c56_3, if_pos c101_4]; exact ⟨_, tab_new htab hz0 (fun q hq => (hne q hq).1), rfl⟩) hP hK hD hS dX5_come_139
          · have c101_4 : ¬ (fr < 2147483648) := fun h9 => c101_4 ((nI_ge0 (a := fr) (by omega)).mpr h9)
            refine lv_iconst (v := nI 0) hx hb dX5_come_104 (by decide) ?_
            refine lv_goto (tgt := 116) hx hb dX5_come_105 (by decide) ?_
            refine lv_i2s hx hb dX5_come_116 rfl ?_
            refine lv_topE (nI 0) (vp_nar_s (by omega)) ?_
            refine n_sast hx hb hK hP hD hS 10 9 rfl rfl (i := f 19) (v := 0) (by omega) (by decide) (by omega) dX5_come_117 (fun H locs hP hD hS => ?_)
            have hP : va_P D vwCl [(ad 0, .inr (5, [.ref (ad 1), .ref (ad 2), .ref (ad 3), .ref (ad 4), .ref (ad 5), .int (nI (f 5)), .ref (ad 6), .int (nI (f 7)), .int (nI (f 8)), .int (nI (f 9)), .int (nI (f 10)), .int (nI (f 11)), .int (nI (f 12)), .int (nI (f 13)), .ref (ad 7), .ref (ad 8), .ref (ad 9), .ref (ad 10), .ref (ad 11), .int (nI (f 19)), .int (nI (f 20)), .int (nI (f 21)), .ref (ad 12)])), (ad 1, .inl (ka 1, 5, .inl (nA (g 1)))), (ad 2, .inl (ka 2, 40, .inl (nA (g 2)))), (ad 3, .inl (ka 3, 160, .inl (nA (g 3)))), (ad 4, .inl (ka 4, 4, .inl (nA (g 4)))), (ad 5, .inl (ka 5, 4, .inl (nA (g 5)))), (ad 6, .inl (ka 6, 200, .inl (nA (g 6)))), (ad 7, .inl (ka 7, 12001, .inr (.inl (lA (upN t (f 19) sx))))), (ad 8, .inl (ka 8, 12001, .inl (nA (upN (g 8) (f 19) fr)))), (ad 9, .inl (ka 9, 12001, .inl (nA (upN (g 9) (f 19) ki)))), (ad 10, .inl (ka 10, 12001, .inl (nA (upN (g 10) (f 19) 0)))), (ad 11, .inl (ka 11, 32768, .inl (nA (g 11)))), (ad 12, .inl (ka 12, 64, .inl (nA (g 12))))] H := hP
            have hD : va_D Ar [(ad 0, .inr (5, [.ref (ad 1), .ref (ad 2), .ref (ad 3), .ref (ad 4), .ref (ad 5), .int (nI (f 5)), .ref (ad 6), .int (nI (f 7)), .int (nI (f 8)), .int (nI (f 9)), .int (nI (f 10)), .int (nI (f 11)), .int (nI (f 12)), .int (nI (f 13)), .ref (ad 7), .ref (ad 8), .ref (ad 9), .ref (ad 10), .ref (ad 11), .int (nI (f 19)), .int (nI (f 20)), .int (nI (f 21)), .ref (ad 12)])), (ad 1, .inl (ka 1, 5, .inl (nA (g 1)))), (ad 2, .inl (ka 2, 40, .inl (nA (g 2)))), (ad 3, .inl (ka 3, 160, .inl (nA (g 3)))), (ad 4, .inl (ka 4, 4, .inl (nA (g 4)))), (ad 5, .inl (ka 5, 4, .inl (nA (g 5)))), (ad 6, .inl (ka 6, 200, .inl (nA (g 6)))), (ad 7, .inl (ka 7, 12001, .inr (.inl (lA (upN t (f 19) sx))))), (ad 8, .inl (ka 8, 12001, .inl (nA (upN (g 8) (f 19) fr)))), (ad 9, .inl (ka 9, 12001, .inl (nA (upN (g 9) (f 19) ki)))), (ad 10, .inl (ka 10, 12001, .inl (nA (upN (g 10) (f 19) 0)))), (ad 11, .inl (ka 11, 32768, .inl (nA (g 11)))), (ad 12, .inl (ka 12, 64, .inl (nA (g 12))))] := hD
            refine lv_aload_n hx hb dX5_come_118 rfl (lv_at hl 0 rfl) ?_
            refine lv_dup hx hb dX5_come_119 rfl ?_
            refine va_get (D := D) (ci := 5) (v := .int (nI (f 19))) (C := RX5) (T := TX5) (N := 23) hx hb hU iX5 hown hK hP 0 rfl rfl 19 (by decide) (hU _ mU_467) (fun _ h9 => h9) rfl dX5_come_120 ?_
            refine lv_iconst (v := nI 1) hx hb dX5_come_123 (by decide) ?_
            refine lv_iadd hx hb dX5_come_124 ?_
            refine lv_topE (nI ((f 19) + 1)) (nI_add _ _) ?_
            refine va_put (D := D) (ci := 5) (v := .int (nI ((f 19) + 1))) (ty := .int) (C := RX5) (T := TX5) (N := 23) hx hb hU iX5 tyX5 tyX5_ok nmX5 hown hK hP hD hS 0 rfl rfl 19 (by decide) (hU _ mU_467) (fun _ h9 => h9) rfl (by decide +kernel) rfl rfl (Nat.le_of_ble_eq_true rfl) dX5_come_125 (fun H locs hP hD hS => ?_)
            have hP : va_P D vwCl [(ad 0, .inr (5, [.ref (ad 1), .ref (ad 2), .ref (ad 3), .ref (ad 4), .ref (ad 5), .int (nI (f 5)), .ref (ad 6), .int (nI (f 7)), .int (nI (f 8)), .int (nI (f 9)), .int (nI (f 10)), .int (nI (f 11)), .int (nI (f 12)), .int (nI (f 13)), .ref (ad 7), .ref (ad 8), .ref (ad 9), .ref (ad 10), .ref (ad 11), .int (nI ((f 19) + 1)), .int (nI (f 20)), .int (nI (f 21)), .ref (ad 12)])), (ad 1, .inl (ka 1, 5, .inl (nA (g 1)))), (ad 2, .inl (ka 2, 40, .inl (nA (g 2)))), (ad 3, .inl (ka 3, 160, .inl (nA (g 3)))), (ad 4, .inl (ka 4, 4, .inl (nA (g 4)))), (ad 5, .inl (ka 5, 4, .inl (nA (g 5)))), (ad 6, .inl (ka 6, 200, .inl (nA (g 6)))), (ad 7, .inl (ka 7, 12001, .inr (.inl (lA (upN t (f 19) sx))))), (ad 8, .inl (ka 8, 12001, .inl (nA (upN (g 8) (f 19) fr)))), (ad 9, .inl (ka 9, 12001, .inl (nA (upN (g 9) (f 19) ki)))), (ad 10, .inl (ka 10, 12001, .inl (nA (upN (g 10) (f 19) 0)))), (ad 11, .inl (ka 11, 32768, .inl (nA (g 11)))), (ad 12, .inl (ka 12, 64, .inl (nA (g 12))))] H := hP
            have hD : va_D Ar [(ad 0, .inr (5, [.ref (ad 1), .ref (ad 2), .ref (ad 3), .ref (ad 4), .ref (ad 5), .int (nI (f 5)), .ref (ad 6), .int (nI (f 7)), .int (nI (f 8)), .int (nI (f 9)), .int (nI (f 10)), .int (nI (f 11)), .int (nI (f 12)), .int (nI (f 13)), .ref (ad 7), .ref (ad 8), .ref (ad 9), .ref (ad 10), .ref (ad 11), .int (nI ((f 19) + 1)), .int (nI (f 20)), .int (nI (f 21)), .ref (ad 12)])), (ad 1, .inl (ka 1, 5, .inl (nA (g 1)))), (ad 2, .inl (ka 2, 40, .inl (nA (g 2)))), (ad 3, .inl (ka 3, 160, .inl (nA (g 3)))), (ad 4, .inl (ka 4, 4, .inl (nA (g 4)))), (ad 5, .inl (ka 5, 4, .inl (nA (g 5)))), (ad 6, .inl (ka 6, 200, .inl (nA (g 6)))), (ad 7, .inl (ka 7, 12001, .inr (.inl (lA (upN t (f 19) sx))))), (ad 8, .inl (ka 8, 12001, .inl (nA (upN (g 8) (f 19) fr)))), (ad 9, .inl (ka 9, 12001, .inl (nA (upN (g 9) (f 19) ki)))), (ad 10, .inl (ka 10, 12001, .inl (nA (upN (g 10) (f 19) 0)))), (ad 11, .inl (ka 11, 32768, .inl (nA (g 11)))), (ad 12, .inl (ka 12, 64, .inl (nA (g 12))))] := hD
            refine lv_aload_n hx hb dX5_come_128 rfl (lv_at hl 0 rfl) ?_
            refine va_get (D := D) (ci := 5) (v := .ref (ad 11)) (C := RX5) (T := TX5) (N := 23) hx hb hU iX5 hown hK hP 0 rfl rfl 18 (by decide) (hU _ mU_89) (fun _ h9 => h9) rfl dX5_come_129 ?_
            refine lv_iload hx hb dX5_come_132 (lv_at hl 4 rfl) ?_
            refine lv_aload_n hx hb dX5_come_134 rfl (lv_at hl 0 rfl) ?_
            refine va_get (D := D) (ci := 5) (v := .int (nI ((f 19) + 1))) (C := RX5) (T := TX5) (N := 23) hx hb hU iX5 hown hK hP 0 rfl rfl 19 (by decide) (hU _ mU_467) (fun _ h9 => h9) rfl dX5_come_135 ?_
            refine n_iast hx hb hK hP hD hS 11 10 rfl rfl (i := (placeM sx + d) % 32768) (v := (f 19) + 1) (by omega) (by decide) dX5_come_138 (fun H locs hP hD hS => ?_)
            have hP : va_P D vwCl [(ad 0, .inr (5, [.ref (ad 1), .ref (ad 2), .ref (ad 3), .ref (ad 4), .ref (ad 5), .int (nI (f 5)), .ref (ad 6), .int (nI (f 7)), .int (nI (f 8)), .int (nI (f 9)), .int (nI (f 10)), .int (nI (f 11)), .int (nI (f 12)), .int (nI (f 13)), .ref (ad 7), .ref (ad 8), .ref (ad 9), .ref (ad 10), .ref (ad 11), .int (nI ((f 19) + 1)), .int (nI (f 20)), .int (nI (f 21)), .ref (ad 12)])), (ad 1, .inl (ka 1, 5, .inl (nA (g 1)))), (ad 2, .inl (ka 2, 40, .inl (nA (g 2)))), (ad 3, .inl (ka 3, 160, .inl (nA (g 3)))), (ad 4, .inl (ka 4, 4, .inl (nA (g 4)))), (ad 5, .inl (ka 5, 4, .inl (nA (g 5)))), (ad 6, .inl (ka 6, 200, .inl (nA (g 6)))), (ad 7, .inl (ka 7, 12001, .inr (.inl (lA (upN t (f 19) sx))))), (ad 8, .inl (ka 8, 12001, .inl (nA (upN (g 8) (f 19) fr)))), (ad 9, .inl (ka 9, 12001, .inl (nA (upN (g 9) (f 19) ki)))), (ad 10, .inl (ka 10, 12001, .inl (nA (upN (g 10) (f 19) 0)))), (ad 11, .inl (ka 11, 32768, .inl (nA (upN (g 11) ((placeM sx + d) % 32768) ((f 19) + 1))))), (ad 12, .inl (ka 12, 64, .inl (nA (g 12))))] H := hP
            have hD : va_D Ar [(ad 0, .inr (5, [.ref (ad 1), .ref (ad 2), .ref (ad 3), .ref (ad 4), .ref (ad 5), .int (nI (f 5)), .ref (ad 6), .int (nI (f 7)), .int (nI (f 8)), .int (nI (f 9)), .int (nI (f 10)), .int (nI (f 11)), .int (nI (f 12)), .int (nI (f 13)), .ref (ad 7), .ref (ad 8), .ref (ad 9), .ref (ad 10), .ref (ad 11), .int (nI ((f 19) + 1)), .int (nI (f 20)), .int (nI (f 21)), .ref (ad 12)])), (ad 1, .inl (ka 1, 5, .inl (nA (g 1)))), (ad 2, .inl (ka 2, 40, .inl (nA (g 2)))), (ad 3, .inl (ka 3, 160, .inl (nA (g 3)))), (ad 4, .inl (ka 4, 4, .inl (nA (g 4)))), (ad 5, .inl (ka 5, 4, .inl (nA (g 5)))), (ad 6, .inl (ka 6, 200, .inl (nA (g 6)))), (ad 7, .inl (ka 7, 12001, .inr (.inl (lA (upN t (f 19) sx))))), (ad 8, .inl (ka 8, 12001, .inl (nA (upN (g 8) (f 19) fr)))), (ad 9, .inl (ka 9, 12001, .inl (nA (upN (g 9) (f 19) ki)))), (ad 10, .inl (ka 10, 12001, .inl (nA (upN (g 10) (f 19) 0)))), (ad 11, .inl (ka 11, 32768, .inl (nA (upN (g 11) ((placeM sx + d) % 32768) ((f 19) + 1))))), (ad 12, .inl (ka 12, 64, .inl (nA (g 12))))] := hD
            subst hQ
            exact rwv (mB f g (f 19 + 1, upN t (f 19) sx, upN (g 8) (f 19) fr, upN (g 9) (f 19) ki, upN (g 10) (f 19) (0)) (upN (g 11) ((placeM sx + d) % 32768) (f 19 + 1))) hx hb hr hlocks (by rw [insB, if_neg (hasB_f hab), if_pos c56_3, if_neg c101_4]; exact ⟨_, tab_new htab hz0 (fun q hq => (hne q hq).1), rfl⟩) hP hK hD hS dX5_come_139
        · have c56_3 : ¬ (f 19 ≤ 12000) := fun h9 => c56_3 ((nI_leI (a := f 19) (b := 12000) (by omega) (by omega)).mpr h9)
          subst hQ
          exact rwv (mB f g (f 19, t, g 8, g 9, g 10) (g 11)) hx hb hr hlocks (by rw [insB, if_neg (hasB_f hab), if_neg c56_3]; exact ⟨_, htab, rfl⟩) hP hK hD hS dX5_come_59
      · have c13_2 : ¬ ((g 11) ((placeM sx + d) % 32768) = 0) := fun h9 => c13_2 ((nI_eqG (a := (g 11) ((placeM sx + d) % 32768)) (b := 0) (by omega) (by omega)).mpr h9)
        refine lv_aload_n hx hb dX5_come_16 rfl (lv_at hl 0 rfl) ?_
        refine va_get (D := D) (ci := 5) (v := .ref (ad 7)) (C := RX5) (T := TX5) (N := 23) hx hb hU iX5 hown hK hP 0 rfl rfl 14 (by decide) (hU _ mU_83) (fun _ h9 => h9) rfl dX5_come_17 ?_
        refine lv_aload_n hx hb dX5_come_20 rfl (lv_at hl 0 rfl) ?_
        refine va_get (D := D) (ci := 5) (v := .ref (ad 11)) (C := RX5) (T := TX5) (N := 23) hx hb hU iX5 hown hK hP 0 rfl rfl 18 (by decide) (hU _ mU_89) (fun _ h9 => h9) rfl dX5_come_21 ?_
        refine lv_iload hx hb dX5_come_24 (lv_at hl 4 rfl) ?_
        refine n_iald hx hb hK hP 11 10 rfl rfl (i := (placeM sx + d) % 32768) (by omega) (by decide) dX5_come_26 ?_
        refine lv_iconst (v := nI 1) hx hb dX5_come_27 (by decide) ?_
        refine lv_isub hx hb dX5_come_28 ?_
        refine lv_topE (nI (((g 11) ((placeM sx + d) % 32768)) - 1)) (pk_sub (by omega)) ?_
        refine n_lald hx hb hK hP 7 6 rfl rfl (i := ((g 11) ((placeM sx + d) % 32768)) - 1) (by omega) (by decide) dX5_come_29 ?_
        have htl := ht48 (g 11 ((placeM sx + d) % 32768) - 1) (by omega)
        refine lv_lload_n hx hb dX5_come_30 rfl (lv_at hl 1 rfl) ?_
        refine W.lcmp hx hb dX5_come_31 ?_
        refine lv_if_ne (tgt := 36) hx hb dX5_come_32 (by decide) (fun c32_5 => ?_) (fun c32_5 => ?_)
        · have c32_5 : ¬ (t (((g 11) ((placeM sx + d) % 32768)) - 1) = sx) := fun h9 => c32_5 ((lg_cmp_eq _ _).mpr ((pk_lEQ (a := t (((g 11) ((placeM sx + d) % 32768)) - 1)) (b := sx) (by omega) (by omega)).mpr h9))
          have hdz := dstep (P := fun q => g 11 ((placeM sx + q) % 32768) = 0) hd hz c13_2
          refine lv_iload hx hb dX5_come_36 (lv_at hl 4 rfl) ?_
          refine lv_iconst (v := nI 1) hx hb dX5_come_38 (by decide) ?_
          refine lv_iadd hx hb dX5_come_39 ?_
          refine lv_topE (nI (((placeM sx + d) % 32768) + 1)) (nI_add _ _) ?_
          refine lv_sipush (v := nI 32767) hx hb dX5_come_40 (by decide) ?_
          refine lv_iand hx hb dX5_come_43 ?_
          refine lv_topE (nI ((placeM sx + (d + 1)) % 32768)) ((fa_mask _ 15).trans (congrArg nI (by omega))) ?_
          refine lv_istore (lv' := [(5, .int (nI ((placeM sx + (d + 1)) % 32768))), (0, .ref (ad 0)), (1, .long (lN sx)), (3, .int (nI fr)), (4, .int (nI ki))]) hx hb dX5_come_44 hl (by decide) rfl (fun ls hl => ?_)
          refine lv_goto (tgt := 6) hx hb dX5_come_46 (by decide) ?_
          exact ih6 (d + 1) (hdz) (lt_s (p := fun q => g 11 ((placeM sx + q) % 32768) ≠ 0 ∧ ¬ t (g 11 ((placeM sx + q) % 32768) - 1) = sx) hne ⟨c13_2, c32_5⟩) (by omega) _ _ hP hD hS _ (lv_sub hl [1, 2, 3, 4, 0] rfl)
        · have c32_5 : t (((g 11) ((placeM sx + d) % 32768)) - 1) = sx := (pk_lEQ (a := t (((g 11) ((placeM sx + d) % 32768)) - 1)) (b := sx) (by omega) (by omega)).mp ((lg_cmp_eq _ _).mp c32_5)
          subst hQ
          exact rwv (mB f g (f 19, t, g 8, g 9, g 10) (g 11)) hx hb hr hlocks (by rw [insB, if_pos (hasB_iff.mpr ⟨_, by omega, c32_5⟩)]; exact ⟨_, htab, rfl⟩) hP hK hD hS dX5_come_35
  exact L6_28 ((z - 0) + 1) 0 (Nat.zero_le _) (fun q hq => absurd hq (Nat.not_lt_zero q)) (Nat.lt_succ_self _) _ _ hP hD hS _ (lv_sub hl [1, 2, 3, 4, 0] rfl)

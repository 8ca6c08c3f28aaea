theorem z_min {x y : Nat} (hx : x < 2 ^ 31) (hy : y < 2 ^ 31) : (if nI y < nI x then nI y else nI x) = nI (if y < x then y else x) := by
  by_cases h : y < x
  · rw [if_pos h, if_pos ((nI_ltI hy hx).mpr h)]
  · rw [if_neg h, if_neg (fun q => h ((nI_ltI hy hx).mp q))]
abbrev hasGetC (so : Nat → Nat) (qu : Nat) : Prop := (¬ wishA qu 0 = 4294967295 ∧ so (wishA qu 0) = 1) ∨ (¬ wishA qu 1 = 4294967295 ∧ so (wishA qu 1) = 1) ∨ (¬ wishA qu 2 = 4294967295 ∧ so (wishA qu 2) = 1)
abbrev isGetC (so : Nat → Nat) (qu pl : Nat) : Prop := ¬ wishA qu pl = 4294967295 ∧ so (wishA qu pl) = 1
abbrev mayC (so : Nat → Nat) (qu pl : Nat) : Prop := pl = 0 ∨ (pl = 1 ∧ ¬ isGetC so qu 1 ∧ isGetC so qu 0) ∨ (pl = 2 ∧ ¬ isGetC so qu 2 ∧ isGetC so qu 0 ∧ isGetC so qu 1)
set_option maxHeartbeats 4000000 in
set_option maxRecDepth 100000 in
theorem c_X1_placeBehindIf (l : Launch) (D : va_G) (pa pb pc : Nat) (kb kc : ClassId) (n : Nat) (so nu : Nat → Nat) (i : Nat) (hi : i < 7) (hn : n < 8) (hnu : nu (i * 4 + 2) < 16) : Met l yX1_placeBehindIf (.code yX1_placeBehindIf cX1_placeBehindIf 2 (some .int) :: wsL_law) ({ frames := 1, cells := 0, slots := 0, locals := 22 }) (va_Pc [.ref pa, .int (nI i)] (PR D (pW pa pb pc kb kc n so nu) (pT kb kc))) (QrI (nI (if n < i + 1 + nu (i * 4 + 2) then n else i + 1 + nu (i * 4 + 2)))) 0 0 (fun _ => False) := by
  refine Met.ofW (cc := cX1_placeBehindIf) (maxL := 2) (ret := (some .int)) (by decide) rfl ?_
  intro p e s m args below meth c s₁ B hml hv
  obtain ⟨rfl, hP, hK⟩ := hv
  have hx := B.exec
  have hb := B.bytes
  have hr := B.returns
  have hts := atoms_spec (ws := .code yX1_placeBehindIf cX1_placeBehindIf 2 (some .int) :: wsL_law) B.pre
  have hU : ∀ w ∈ wsL_law, w.before _ s = true := fun w h => hts w (List.mem_cons_of_mem _ h)
  have hown : s.vm.findClass RX1 = some m.cls := findClass_of_methodNamed B.named
  have hlocks := B.notSynchronized
  generalize hQ : MQ _ _ _ _ _ _ _ = Q
  have hl := lv_entry ([.ref pa, .int (nI i)]) (n := 2) (Nat.le_of_ble_eq_true rfl)
  rw [lg_entry_eq]
  generalize (lg_sl ([.ref pa, .int (nI i)]) ++ List.replicate (2 - (lg_sl ([.ref pa, .int (nI i)])).length) Slot.unset).toArray = ls at hl ⊢
  have hl : lv_has ls 2 [(0, .ref pa), (1, .int (nI i))] := hl
  refine lv_iload_n hx hb dX1_placeBehindIf_0 rfl (lv_at hl 1 rfl) ?_
  refine lv_iconst (v := nI 1) hx hb dX1_placeBehindIf_1 (by decide) ?_
  refine lv_iadd hx hb dX1_placeBehindIf_2 ?_
  refine lv_topE (nI (i + 1)) (nI_add _ _) ?_
  refine lv_aload_n hx hb dX1_placeBehindIf_3 rfl (lv_at hl 0 rfl) ?_
  refine lv_iload_n hx hb dX1_placeBehindIf_4 rfl (lv_at hl 1 rfl) ?_
  refine lv_iconst (v := nI 2) hx hb dX1_placeBehindIf_5 (by decide) ?_
  refine cVi (As := [.int (nI i), .int (nI 2)]) (rest := [.int (nI (i + 1))]) ⟨hx, hb, hml, hown, hts⟩ (c_X1_number l D pa pb pc kb kc n so nu i 2 (by omega)) (cwV 2 hts (gV mU_431 mU_417 mU_418 mU_22 mU_419) rfl rfl rfl (by decide +kernel) ⟨Nat.le_of_ble_eq_true rfl, Nat.le_of_ble_eq_true rfl⟩) fbR (va_recv hK hP (ci := 1) (q0 := 0) rfl rfl) (PR.of hP hK) rfl hl.1 rfl (Nat.le_of_ble_eq_true rfl) dX1_placeBehindIf_6 ⟨Nat.zero_le _, Nat.zero_le _⟩ ?_
  refine lv_iadd hx hb dX1_placeBehindIf_9 ?_
  refine lv_topE (nI ((i + 1) + (nu (i * 4 + 2)))) (nI_add _ _) ?_
  refine lv_aload_n hx hb dX1_placeBehindIf_10 rfl (lv_at hl 0 rfl) ?_
  refine va_get (D := D) (ci := 1) (v := .int (nI n)) (C := RX1) (T := TX1) (N := 3) hx hb hU iX1 hown hK hP 0 rfl rfl 0 (by decide) (hU _ mU_47) (fun _ h9 => h9) rfl dX1_placeBehindIf_11 ?_
  refine va_mmin hx hb (hml.trans hl.1.symm) hown (hU _ mU_430) (hU _ mU_229) (hU _ mU_230) (hU _ mU_231) (Nat.le_of_ble_eq_true rfl) (Nat.le_of_ble_eq_true rfl) (Nat.zero_le _) (Nat.zero_le _) dX1_placeBehindIf_14 ?_
  refine lv_topE (nI (if n < (i + 1) + (nu (i * 4 + 2)) then n else (i + 1) + (nu (i * 4 + 2)))) (z_min (by omega) (by omega)) ?_
  subst hQ
  exact rti hx hb hr hlocks rfl (rfl) dX1_placeBehindIf_17

set_option maxHeartbeats 4000000 in
set_option maxRecDepth 100000 in
theorem c_X0_isGet (l : Launch) (D : va_G) (pb pc : Nat) (kb kc : ClassId) (n : Nat) (so nu : Nat → Nat) (pa : Nat) (qu : Nat) (pl : Nat) (hqu : qu < 512) (hpl : pl < 3) (hso : ∀ j, so j < 2147483648) : Met l yX0_isGet (.code yX0_isGet cX0_isGet 4 (some .boolean) :: wsL_law) ({ frames := 1, cells := 0, slots := 0, locals := 21 }) (va_Pc [.ref pa, .int (nI qu), .int (nI pl)] (PR D (pW pa pb pc kb kc n so nu) (pT kb kc))) (QrI (bP (isGetC so qu pl))) 0 0 (fun _ => False) := by
  refine Met.ofW (cc := cX0_isGet) (maxL := 4) (ret := (some .boolean)) (by decide) rfl ?_
  intro p e s m args below meth c s₁ B hml hv
  obtain ⟨rfl, hP, hK⟩ := hv
  have hx := B.exec
  have hb := B.bytes
  have hr := B.returns
  have hts := atoms_spec (ws := .code yX0_isGet cX0_isGet 4 (some .boolean) :: wsL_law) B.pre
  have hU : ∀ w ∈ wsL_law, w.before _ s = true := fun w h => hts w (List.mem_cons_of_mem _ h)
  have hown : s.vm.findClass RX0 = some m.cls := findClass_of_methodNamed B.named
  have hlocks := B.notSynchronized
  generalize hQ : MQ _ _ _ _ _ _ _ = Q
  have hl := lv_entry ([.ref pa, .int (nI qu), .int (nI pl)]) (n := 4) (Nat.le_of_ble_eq_true rfl)
  rw [lg_entry_eq]
  generalize (lg_sl ([.ref pa, .int (nI qu), .int (nI pl)]) ++ List.replicate (4 - (lg_sl ([.ref pa, .int (nI qu), .int (nI pl)])).length) Slot.unset).toArray = ls at hl ⊢
  have hl : lv_has ls 4 [(0, .ref pa), (1, .int (nI qu)), (2, .int (nI pl))] := hl
  refine lv_iload_n hx hb dX0_isGet_0 rfl (lv_at hl 1 rfl) ?_
  refine lv_iload_n hx hb dX0_isGet_1 rfl (lv_at hl 2 rfl) ?_
  refine cSi (As := [.int (nI qu), .int (nI pl)]) (rest := []) ⟨hx, hb, hml, hown, hts⟩ (c_X0_wishAt l  qu pl (by omega) (by omega)) (va_cwS 2 hts (gS mU_413 mU_414 mU_27 mU_415) rfl rfl rfl (by decide +kernel) ⟨Nat.le_of_ble_eq_true rfl, Nat.le_of_ble_eq_true rfl⟩) fbU (fun _ _ _ => trivial) rfl hl.1 rfl (Nat.le_of_ble_eq_true rfl) dX0_isGet_2 ⟨Nat.zero_le _, Nat.zero_le _⟩ ?_
  have hf_1 : wishA qu pl < 7 ∨ wishA qu pl = 4294967295 := wishA_or _ _
  refine lv_istore_n (lv' := [(3, .int (nI (wishA qu pl))), (0, .ref pa), (1, .int (nI qu)), (2, .int (nI pl))]) hx hb dX0_isGet_5 rfl hl (by decide) rfl (fun ls hl => ?_)
  refine lv_iload_n hx hb dX0_isGet_6 rfl (lv_at hl 0 rfl) ?_
  refine lv_iconst (v := nI 4294967295) hx hb dX0_isGet_7 (by decide) ?_
  refine lv_icmp_eq (tgt := 25) hx hb dX0_isGet_8 (by decide) (fun c8_2 => ?_) (fun c8_2 => ?_)
  · have c8_2 : wishA qu pl = 4294967295 := (nI_eqG (a := wishA qu pl) (b := 4294967295) (by omega) (by omega)).mp c8_2
    refine lv_iconst (v := nI 0) hx hb dX0_isGet_25 (by decide) ?_
    subst hQ
    exact rtz hx hb hr hlocks rfl rfl (bP_0 (by unfold isGetC; omega)) dX0_isGet_26
  · have c8_2 : ¬ (wishA qu pl = 4294967295) := fun h9 => c8_2 ((nI_eqG (a := wishA qu pl) (b := 4294967295) (by omega) (by omega)).mpr h9)
    refine lv_aload_n hx hb dX0_isGet_11 rfl (lv_at hl 1 rfl) ?_
    refine va_get (D := D) (ci := 1) (v := .ref pb) (C := RX1) (T := TX1) (N := 3) hx hb hU iX1 hown hK hP 0 rfl rfl 1 (by decide) (hU _ mU_397) (fun _ h9 => h9) rfl dX0_isGet_12 ?_
    refine lv_iload_n hx hb dX0_isGet_15 rfl (lv_at hl 0 rfl) ?_
    refine n_iald hx hb hK hP 1 0 rfl rfl (i := wishA qu pl) (by omega) (by decide) dX0_isGet_16 ?_
    have hb_3 := hso  (wishA qu pl)
    refine lv_iconst (v := nI 1) hx hb dX0_isGet_17 (by decide) ?_
    refine lv_icmp_ne (tgt := 25) hx hb dX0_isGet_18 (by decide) (fun c18_4 => ?_) (fun c18_4 => ?_)
    · have c18_4 : ¬ (so (wishA qu pl) = 1) := fun h9 => c18_4 ((nI_eqG (a := so (wishA qu pl)) (b := 1) (by omega) (by omega)).mpr h9)
      refine lv_iconst (v := nI 0) hx hb dX0_isGet_25 (by decide) ?_
      subst hQ
      exact rtz hx hb hr hlocks rfl rfl (bP_0 (by unfold isGetC; omega)) dX0_isGet_26
    · have c18_4 : so (wishA qu pl) = 1 := (nI_eqG (a := so (wishA qu pl)) (b := 1) (by omega) (by omega)).mp c18_4
      refine lv_iconst (v := nI 1) hx hb dX0_isGet_21 (by decide) ?_
      refine lv_goto (tgt := 26) hx hb dX0_isGet_22 (by decide) ?_
      subst hQ
      exact rtz hx hb hr hlocks rfl rfl (bP_1 (by unfold isGetC; omega)) dX0_isGet_26

set_option maxHeartbeats 4000000 in
set_option maxRecDepth 100000 in
theorem c_X0_hasGet (l : Launch) (D : va_G) (pb pc : Nat) (kb kc : ClassId) (n : Nat) (so nu : Nat → Nat) (pa : Nat) (qu : Nat) (hqu : qu < 512) (hso : ∀ j, so j < 2147483648) : Met l yX0_hasGet (.code yX0_hasGet cX0_hasGet 2 (some .boolean) :: wsL_law) ({ frames := 2, cells := 0, slots := 0, locals := 44 }) (va_Pc [.ref pa, .int (nI qu)] (PR D (pW pa pb pc kb kc n so nu) (pT kb kc))) (QrI (bP (hasGetC so qu))) 0 0 (fun _ => False) := by
  refine Met.ofW (cc := cX0_hasGet) (maxL := 2) (ret := (some .boolean)) (by decide) rfl ?_
  intro p e s m args below meth c s₁ B hml hv
  obtain ⟨rfl, hP, hK⟩ := hv
  have hx := B.exec
  have hb := B.bytes
  have hr := B.returns
  have hts := atoms_spec (ws := .code yX0_hasGet cX0_hasGet 2 (some .boolean) :: wsL_law) B.pre
  have hU : ∀ w ∈ wsL_law, w.before _ s = true := fun w h => hts w (List.mem_cons_of_mem _ h)
  have hown : s.vm.findClass RX0 = some m.cls := findClass_of_methodNamed B.named
  have hlocks := B.notSynchronized
  generalize hQ : MQ _ _ _ _ _ _ _ = Q
  have hl := lv_entry ([.ref pa, .int (nI qu)]) (n := 2) (Nat.le_of_ble_eq_true rfl)
  rw [lg_entry_eq]
  generalize (lg_sl ([.ref pa, .int (nI qu)]) ++ List.replicate (2 - (lg_sl ([.ref pa, .int (nI qu)])).length) Slot.unset).toArray = ls at hl ⊢
  have hl : lv_has ls 2 [(0, .ref pa), (1, .int (nI qu))] := hl
  refine lv_aload_n hx hb dX0_hasGet_0 rfl (lv_at hl 0 rfl) ?_
  refine lv_iload_n hx hb dX0_hasGet_1 rfl (lv_at hl 1 rfl) ?_
  refine lv_iconst (v := nI 0) hx hb dX0_hasGet_2 (by decide) ?_
  refine cSi (As := [.ref pa, .int (nI qu), .int (nI 0)]) (rest := []) ⟨hx, hb, hml, hown, hts⟩ (c_X0_isGet l D pb pc kb kc n so nu pa qu 0 (by omega) (by omega) (hso)) (va_cwS 3 hts (gS mU_410 mU_411 mU_27 mU_412) rfl rfl rfl (by decide +kernel) ⟨Nat.le_of_ble_eq_true rfl, Nat.le_of_ble_eq_true rfl⟩) fbR (PR.of hP hK) rfl hl.1 rfl (Nat.le_of_ble_eq_true rfl) dX0_hasGet_3 ⟨Nat.zero_le _, Nat.zero_le _⟩ ?_
  refine lv_if_ne (tgt := 27) hx hb dX0_hasGet_6 (by decide) (fun c6_1 => ?_) (fun c6_1 => ?_)
  · have c6_1 : isGetC so qu 0 := bP_t c6_1
    refine lv_iconst (v := nI 1) hx hb dX0_hasGet_27 (by decide) ?_
    refine lv_goto (tgt := 32) hx hb dX0_hasGet_28 (by decide) ?_
    subst hQ
    exact rtz hx hb hr hlocks rfl rfl (bP_1 (Or.inl c6_1)) dX0_hasGet_32
  · have c6_1 : ¬ (isGetC so qu 0) := bP_f c6_1
    refine lv_aload_n hx hb dX0_hasGet_9 rfl (lv_at hl 0 rfl) ?_
    refine lv_iload_n hx hb dX0_hasGet_10 rfl (lv_at hl 1 rfl) ?_
    refine lv_iconst (v := nI 1) hx hb dX0_hasGet_11 (by decide) ?_
    refine cSi (As := [.ref pa, .int (nI qu), .int (nI 1)]) (rest := []) ⟨hx, hb, hml, hown, hts⟩ (c_X0_isGet l D pb pc kb kc n so nu pa qu 1 (by omega) (by omega) (hso)) (va_cwS 3 hts (gS mU_410 mU_411 mU_27 mU_412) rfl rfl rfl (by decide +kernel) ⟨Nat.le_of_ble_eq_true rfl, Nat.le_of_ble_eq_true rfl⟩) fbR (PR.of hP hK) rfl hl.1 rfl (Nat.le_of_ble_eq_true rfl) dX0_hasGet_12 ⟨Nat.zero_le _, Nat.zero_le _⟩ ?_
    refine lv_if_ne (tgt := 27) hx hb dX0_hasGet_15 (by decide) (fun c15_2 => ?_) (fun c15_2 => ?_)
    · have c15_2 : isGetC so qu 1 := bP_t c15_2
      refine lv_iconst (v := nI 1) hx hb dX0_hasGet_27 (by decide) ?_
      refine lv_goto (tgt := 32) hx hb dX0_hasGet_28 (by decide) ?_
      subst hQ
      exact rtz hx hb hr hlocks rfl rfl (bP_1 (Or.inr (Or.inl c15_2))) dX0_hasGet_32
    · have c15_2 : ¬ (isGetC so qu 1) := bP_f c15_2
      refine lv_aload_n hx hb dX0_hasGet_18 rfl (lv_at hl 0 rfl) ?_
      refine lv_iload_n hx hb dX0_hasGet_19 rfl (lv_at hl 1 rfl) ?_
      refine lv_iconst (v := nI 2) hx hb dX0_hasGet_20 (by decide) ?_
      refine cSi (As := [.ref pa, .int (nI qu), .int (nI 2)]) (rest := []) ⟨hx, hb, hml, hown, hts⟩ (c_X0_isGet l D pb pc kb kc n so nu pa qu 2 (by omega) (by omega) (hso)) (va_cwS 3 hts (gS mU_410 mU_411 mU_27 mU_412) rfl rfl rfl (by decide +kernel) ⟨Nat.le_of_ble_eq_true rfl, Nat.le_of_ble_eq_true rfl⟩) fbR (PR.of hP hK) rfl hl.1 rfl (Nat.le_of_ble_eq_true rfl) dX0_hasGet_21 ⟨Nat.zero_le _, Nat.zero_le _⟩ ?_
      refine lv_if_eq (tgt := 31) hx hb dX0_hasGet_24 (by decide) (fun c24_3 => ?_) (fun c24_3 => ?_)
      · have c24_3 : ¬ (isGetC so qu 2) := bP_f c24_3
        refine lv_iconst (v := nI 0) hx hb dX0_hasGet_31 (by decide) ?_
        subst hQ
        exact rtz hx hb hr hlocks rfl rfl (bP_0 (fun q => q.elim c6_1 (fun q => q.elim c15_2 c24_3))) dX0_hasGet_32
      · have c24_3 : isGetC so qu 2 := bP_t c24_3
        refine lv_iconst (v := nI 1) hx hb dX0_hasGet_27 (by decide) ?_
        refine lv_goto (tgt := 32) hx hb dX0_hasGet_28 (by decide) ?_
        subst hQ
        exact rtz hx hb hr hlocks rfl rfl (bP_1 (Or.inr (Or.inr c24_3))) dX0_hasGet_32

set_option maxHeartbeats 4000000 in
set_option maxRecDepth 100000 in
theorem c_X0_mayBeDone (l : Launch) (D : va_G) (pb pc : Nat) (kb kc : ClassId) (n : Nat) (so nu : Nat → Nat) (pa : Nat) (qu : Nat) (pl : Nat) (hqu : qu < 512) (hpl : pl < 3) (hso : ∀ j, so j < 2147483648) : Met l yX0_mayBeDone (.code yX0_mayBeDone cX0_mayBeDone 4 (some .boolean) :: wsL_law) ({ frames := 2, cells := 0, slots := 0, locals := 44 }) (va_Pc [.ref pa, .int (nI qu), .int (nI pl)] (PR D (pW pa pb pc kb kc n so nu) (pT kb kc))) (QrI (bP (mayC so qu pl))) 0 0 (fun _ => False) := by
  refine Met.ofW (cc := cX0_mayBeDone) (maxL := 4) (ret := (some .boolean)) (by decide) rfl ?_
  intro p e s m args below meth c s₁ B hml hv
  obtain ⟨rfl, hP, hK⟩ := hv
  have hx := B.exec
  have hb := B.bytes
  have hr := B.returns
  have hts := atoms_spec (ws := .code yX0_mayBeDone cX0_mayBeDone 4 (some .boolean) :: wsL_law) B.pre
  have hU : ∀ w ∈ wsL_law, w.before _ s = true := fun w h => hts w (List.mem_cons_of_mem _ h)
  have hown : s.vm.findClass RX0 = some m.cls := findClass_of_methodNamed B.named
  have hlocks := B.notSynchronized
  generalize hQ : MQ _ _ _ _ _ _ _ = Q
  have hl := lv_entry ([.ref pa, .int (nI qu), .int (nI pl)]) (n := 4) (Nat.le_of_ble_eq_true rfl)
  rw [lg_entry_eq]
  generalize (lg_sl ([.ref pa, .int (nI qu), .int (nI pl)]) ++ List.replicate (4 - (lg_sl ([.ref pa, .int (nI qu), .int (nI pl)])).length) Slot.unset).toArray = ls at hl ⊢
  have hl : lv_has ls 4 [(0, .ref pa), (1, .int (nI qu)), (2, .int (nI pl))] := hl
  rcases (show pl = 0 ∨ pl = 1 ∨ pl = 2 from by omega) with rfl | rfl | rfl
  · have hl : lv_has ls 4 [(0, .ref pa), (1, .int (nI qu)), (2, .int (nI 0))] := hl
    refine lv_iload_n hx hb dX0_mayBeDone_0 rfl (lv_at hl 2 rfl) ?_
    refine lv_if_le (tgt := 15) hx hb dX0_mayBeDone_1 (by decide) (fun c1_1 => ?_) (fun c1_1 => absurd (by decide) c1_1)
    refine lv_iconst (v := nI 0) hx hb dX0_mayBeDone_15 (by decide) ?_
    refine lv_istore_n (lv' := [(3, .int (nI 0)), (0, .ref pa), (1, .int (nI qu)), (2, .int (nI 0))]) hx hb dX0_mayBeDone_16 rfl hl (by decide) rfl (fun ls hl => ?_)
    refine lv_iload_n hx hb dX0_mayBeDone_17 rfl (lv_at hl 0 rfl) ?_
    refine lv_iload_n hx hb dX0_mayBeDone_18 rfl (lv_at hl 3 rfl) ?_
    refine lv_icmp_ge (tgt := 39) hx hb dX0_mayBeDone_19 (by decide) (fun c19_2 => ?_) (fun c19_2 => absurd (by decide) c19_2)
    refine lv_iconst (v := nI 1) hx hb dX0_mayBeDone_39 (by decide) ?_
    subst hQ
    exact rtz hx hb hr hlocks rfl rfl (bP_1 (Or.inl rfl)) dX0_mayBeDone_40
  · have hl : lv_has ls 4 [(0, .ref pa), (1, .int (nI qu)), (2, .int (nI 1))] := hl
    refine lv_iload_n hx hb dX0_mayBeDone_0 rfl (lv_at hl 2 rfl) ?_
    refine lv_if_le (tgt := 15) hx hb dX0_mayBeDone_1 (by decide) (fun c1_3 => absurd c1_3 (by decide)) (fun c1_3 => ?_)
    refine lv_aload_n hx hb dX0_mayBeDone_4 rfl (lv_at hl 0 rfl) ?_
    refine lv_iload_n hx hb dX0_mayBeDone_5 rfl (lv_at hl 1 rfl) ?_
    refine lv_iload_n hx hb dX0_mayBeDone_6 rfl (lv_at hl 2 rfl) ?_
    refine cSi (As := [.ref pa, .int (nI qu), .int (nI 1)]) (rest := []) ⟨hx, hb, hml, hown, hts⟩ (c_X0_isGet l D pb pc kb kc n so nu pa qu 1 (by omega) (by omega) (hso)) (va_cwS 3 hts (gS mU_410 mU_411 mU_27 mU_412) rfl rfl rfl (by decide +kernel) ⟨Nat.le_of_ble_eq_true rfl, Nat.le_of_ble_eq_true rfl⟩) fbR (PR.of hP hK) rfl hl.1 rfl (Nat.le_of_ble_eq_true rfl) dX0_mayBeDone_7 ⟨Nat.zero_le _, Nat.zero_le _⟩ ?_
    refine lv_if_eq (tgt := 15) hx hb dX0_mayBeDone_10 (by decide) (fun c10_4 => ?_) (fun c10_4 => ?_)
    · have c10_4 : ¬ (isGetC so qu 1) := bP_f c10_4
      refine lv_iconst (v := nI 0) hx hb dX0_mayBeDone_15 (by decide) ?_
      refine lv_istore_n (lv' := [(3, .int (nI 0)), (0, .ref pa), (1, .int (nI qu)), (2, .int (nI 1))]) hx hb dX0_mayBeDone_16 rfl hl (by decide) rfl (fun ls hl => ?_)
      refine lv_iload_n hx hb dX0_mayBeDone_17 rfl (lv_at hl 0 rfl) ?_
      refine lv_iload_n hx hb dX0_mayBeDone_18 rfl (lv_at hl 3 rfl) ?_
      refine lv_icmp_ge (tgt := 39) hx hb dX0_mayBeDone_19 (by decide) (fun c19_5 => absurd c19_5 (by decide)) (fun c19_5 => ?_)
      refine lv_aload_n hx hb dX0_mayBeDone_22 rfl (lv_at hl 1 rfl) ?_
      refine lv_iload_n hx hb dX0_mayBeDone_23 rfl (lv_at hl 2 rfl) ?_
      refine lv_iload_n hx hb dX0_mayBeDone_24 rfl (lv_at hl 0 rfl) ?_
      refine cSi (As := [.ref pa, .int (nI qu), .int (nI 0)]) (rest := []) ⟨hx, hb, hml, hown, hts⟩ (c_X0_isGet l D pb pc kb kc n so nu pa qu 0 (by omega) (by omega) (hso)) (va_cwS 3 hts (gS mU_410 mU_411 mU_27 mU_412) rfl rfl rfl (by decide +kernel) ⟨Nat.le_of_ble_eq_true rfl, Nat.le_of_ble_eq_true rfl⟩) fbR (PR.of hP hK) rfl hl.1 rfl (Nat.le_of_ble_eq_true rfl) dX0_mayBeDone_25 ⟨Nat.zero_le _, Nat.zero_le _⟩ ?_
      refine lv_if_ne (tgt := 33) hx hb dX0_mayBeDone_28 (by decide) (fun c28_6 => ?_) (fun c28_6 => ?_)
      · have c28_6 : isGetC so qu 0 := bP_t c28_6
        refine lv_iinc (v := nI 1) (lv' := [(3, .int (nI 1)), (0, .ref pa), (1, .int (nI qu)), (2, .int (nI 1))]) hx hb dX0_mayBeDone_33 hl (k := 0) rfl (by decide) (by decide) rfl (fun ls hl => ?_)
        refine lv_goto (tgt := 17) hx hb dX0_mayBeDone_36 (by decide) ?_
        refine lv_iload_n hx hb dX0_mayBeDone_17 rfl (lv_at hl 0 rfl) ?_
        refine lv_iload_n hx hb dX0_mayBeDone_18 rfl (lv_at hl 3 rfl) ?_
        refine lv_icmp_ge (tgt := 39) hx hb dX0_mayBeDone_19 (by decide) (fun c19_7 => ?_) (fun c19_7 => absurd (by decide) c19_7)
        refine lv_iconst (v := nI 1) hx hb dX0_mayBeDone_39 (by decide) ?_
        subst hQ
        exact rtz hx hb hr hlocks rfl rfl (bP_1 (Or.inr (Or.inl ⟨rfl, c10_4, c28_6⟩))) dX0_mayBeDone_40
      · have c28_6 : ¬ (isGetC so qu 0) := bP_f c28_6
        refine lv_iconst (v := nI 0) hx hb dX0_mayBeDone_31 (by decide) ?_
        subst hQ
        exact rtz hx hb hr hlocks rfl rfl (bP_0 (fun z => z.elim (fun z => absurd z (by decide)) (fun z => z.elim (fun z => c28_6 z.2.2) (fun z => absurd z.1 (by decide))))) dX0_mayBeDone_32
    · have c10_4 : isGetC so qu 1 := bP_t c10_4
      refine lv_iconst (v := nI 0) hx hb dX0_mayBeDone_13 (by decide) ?_
      subst hQ
      exact rtz hx hb hr hlocks rfl rfl (bP_0 (fun z => z.elim (fun z => absurd z (by decide)) (fun z => z.elim (fun z => z.2.1 c10_4) (fun z => absurd z.1 (by decide))))) dX0_mayBeDone_14
  · have hl : lv_has ls 4 [(0, .ref pa), (1, .int (nI qu)), (2, .int (nI 2))] := hl
    refine lv_iload_n hx hb dX0_mayBeDone_0 rfl (lv_at hl 2 rfl) ?_
    refine lv_if_le (tgt := 15) hx hb dX0_mayBeDone_1 (by decide) (fun c1_8 => absurd c1_8 (by decide)) (fun c1_8 => ?_)
    refine lv_aload_n hx hb dX0_mayBeDone_4 rfl (lv_at hl 0 rfl) ?_
    refine lv_iload_n hx hb dX0_mayBeDone_5 rfl (lv_at hl 1 rfl) ?_
    refine lv_iload_n hx hb dX0_mayBeDone_6 rfl (lv_at hl 2 rfl) ?_
    refine cSi (As := [.ref pa, .int (nI qu), .int (nI 2)]) (rest := []) ⟨hx, hb, hml, hown, hts⟩ (c_X0_isGet l D pb pc kb kc n so nu pa qu 2 (by omega) (by omega) (hso)) (va_cwS 3 hts (gS mU_410 mU_411 mU_27 mU_412) rfl rfl rfl (by decide +kernel) ⟨Nat.le_of_ble_eq_true rfl, Nat.le_of_ble_eq_true rfl⟩) fbR (PR.of hP hK) rfl hl.1 rfl (Nat.le_of_ble_eq_true rfl) dX0_mayBeDone_7 ⟨Nat.zero_le _, Nat.zero_le _⟩ ?_
    refine lv_if_eq (tgt := 15) hx hb dX0_mayBeDone_10 (by decide) (fun c10_9 => ?_) (fun c10_9 => ?_)
    · have c10_9 : ¬ (isGetC so qu 2) := bP_f c10_9
      refine lv_iconst (v := nI 0) hx hb dX0_mayBeDone_15 (by decide) ?_
      refine lv_istore_n (lv' := [(3, .int (nI 0)), (0, .ref pa), (1, .int (nI qu)), (2, .int (nI 2))]) hx hb dX0_mayBeDone_16 rfl hl (by decide) rfl (fun ls hl => ?_)
      refine lv_iload_n hx hb dX0_mayBeDone_17 rfl (lv_at hl 0 rfl) ?_
      refine lv_iload_n hx hb dX0_mayBeDone_18 rfl (lv_at hl 3 rfl) ?_
      refine lv_icmp_ge (tgt := 39) hx hb dX0_mayBeDone_19 (by decide) (fun c19_10 => absurd c19_10 (by decide)) (fun c19_10 => ?_)
      refine lv_aload_n hx hb dX0_mayBeDone_22 rfl (lv_at hl 1 rfl) ?_
      refine lv_iload_n hx hb dX0_mayBeDone_23 rfl (lv_at hl 2 rfl) ?_
      refine lv_iload_n hx hb dX0_mayBeDone_24 rfl (lv_at hl 0 rfl) ?_
      refine cSi (As := [.ref pa, .int (nI qu), .int (nI 0)]) (rest := []) ⟨hx, hb, hml, hown, hts⟩ (c_X0_isGet l D pb pc kb kc n so nu pa qu 0 (by omega) (by omega) (hso)) (va_cwS 3 hts (gS mU_410 mU_411 mU_27 mU_412) rfl rfl rfl (by decide +kernel) ⟨Nat.le_of_ble_eq_true rfl, Nat.le_of_ble_eq_true rfl⟩) fbR (PR.of hP hK) rfl hl.1 rfl (Nat.le_of_ble_eq_true rfl) dX0_mayBeDone_25 ⟨Nat.zero_le _, Nat.zero_le _⟩ ?_
      refine lv_if_ne (tgt := 33) hx hb dX0_mayBeDone_28 (by decide) (fun c28_11 => ?_) (fun c28_11 => ?_)
      · have c28_11 : isGetC so qu 0 := bP_t c28_11
        refine lv_iinc (v := nI 1) (lv' := [(3, .int (nI 1)), (0, .ref pa), (1, .int (nI qu)), (2, .int (nI 2))]) hx hb dX0_mayBeDone_33 hl (k := 0) rfl (by decide) (by decide) rfl (fun ls hl => ?_)
        refine lv_goto (tgt := 17) hx hb dX0_mayBeDone_36 (by decide) ?_
        refine lv_iload_n hx hb dX0_mayBeDone_17 rfl (lv_at hl 0 rfl) ?_
        refine lv_iload_n hx hb dX0_mayBeDone_18 rfl (lv_at hl 3 rfl) ?_
        refine lv_icmp_ge (tgt := 39) hx hb dX0_mayBeDone_19 (by decide) (fun c19_12 => absurd c19_12 (by decide)) (fun c19_12 => ?_)
        refine lv_aload_n hx hb dX0_mayBeDone_22 rfl (lv_at hl 1 rfl) ?_
        refine lv_iload_n hx hb dX0_mayBeDone_23 rfl (lv_at hl 2 rfl) ?_
        refine lv_iload_n hx hb dX0_mayBeDone_24 rfl (lv_at hl 0 rfl) ?_
        refine cSi (As := [.ref pa, .int (nI qu), .int (nI 1)]) (rest := []) ⟨hx, hb, hml, hown, hts⟩ (c_X0_isGet l D pb pc kb kc n so nu pa qu 1 (by omega) (by omega) (hso)) (va_cwS 3 hts (gS mU_410 mU_411 mU_27 mU_412) rfl rfl rfl (by decide +kernel) ⟨Nat.le_of_ble_eq_true rfl, Nat.le_of_ble_eq_true rfl⟩) fbR (PR.of hP hK) rfl hl.1 rfl (Nat.le_of_ble_eq_true rfl) dX0_mayBeDone_25 ⟨Nat.zero_le _, Nat.zero_le _⟩ ?_
        refine lv_if_ne (tgt := 33) hx hb dX0_mayBeDone_28 (by decide) (fun c28_13 => ?_) (fun c28_13 => ?_)
        · have c28_13 : isGetC so qu 1 := bP_t c28_13
          refine lv_iinc (v := nI 2) (lv' := [(3, .int (nI 2)), (0, .ref pa), (1, .int (nI qu)), (2, .int (nI 2))]) hx hb dX0_mayBeDone_33 hl (k := 0) rfl (by decide) (by decide) rfl (fun ls hl => ?_)
          refine lv_goto (tgt := 17) hx hb dX0_mayBeDone_36 (by decide) ?_
          refine lv_iload_n hx hb dX0_mayBeDone_17 rfl (lv_at hl 0 rfl) ?_
          refine lv_iload_n hx hb dX0_mayBeDone_18 rfl (lv_at hl 3 rfl) ?_
          refine lv_icmp_ge (tgt := 39) hx hb dX0_mayBeDone_19 (by decide) (fun c19_14 => ?_) (fun c19_14 => absurd (by decide) c19_14)
          refine lv_iconst (v := nI 1) hx hb dX0_mayBeDone_39 (by decide) ?_
          subst hQ
          exact rtz hx hb hr hlocks rfl rfl (bP_1 (Or.inr (Or.inr ⟨rfl, c10_9, c28_11, c28_13⟩))) dX0_mayBeDone_40
        · have c28_13 : ¬ (isGetC so qu 1) := bP_f c28_13
          refine lv_iconst (v := nI 0) hx hb dX0_mayBeDone_31 (by decide) ?_
          subst hQ
          exact rtz hx hb hr hlocks rfl rfl (bP_0 (fun z => z.elim (fun z => absurd z (by decide)) (fun z => z.elim (fun z => absurd z.1 (by decide)) (fun z => c28_13 z.2.2.2)))) dX0_mayBeDone_32
      · have c28_11 : ¬ (isGetC so qu 0) := bP_f c28_11
        refine lv_iconst (v := nI 0) hx hb dX0_mayBeDone_31 (by decide) ?_
        subst hQ
        exact rtz hx hb hr hlocks rfl rfl (bP_0 (fun z => z.elim (fun z => absurd z (by decide)) (fun z => z.elim (fun z => absurd z.1 (by decide)) (fun z => c28_11 z.2.2.1)))) dX0_mayBeDone_32
    · have c10_9 : isGetC so qu 2 := bP_t c10_9
      refine lv_iconst (v := nI 0) hx hb dX0_mayBeDone_13 (by decide) ?_
      subst hQ
      exact rtz hx hb hr hlocks rfl rfl (bP_0 (fun z => z.elim (fun z => absurd z (by decide)) (fun z => z.elim (fun z => absurd z.1 (by decide)) (fun z => z.2.1 c10_9)))) dX0_mayBeDone_14

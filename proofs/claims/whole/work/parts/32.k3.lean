theorem z_min {x y : Nat} (hx : x < 2 ^ 31) (hy : y < 2 ^ 31) : (if nI y < nI x then nI y else nI x) = nI (if y < x then y else x) := by
  by_cases h : y < x
  · rw [if_pos h, if_pos ((nI_ltI hy hx).mpr h)]
  · rw [if_neg h, if_neg (fun q => h ((nI_ltI hy hx).mp q))]
abbrev isGetC (so : Nat → Nat) (qu pl : Nat) : Prop := ¬ wishA qu pl = 4294967295 ∧ so (wishA qu pl) = 1
set_option maxHeartbeats 4000000 in
set_option maxRecDepth 100000 in
theorem c_X1_placeBehindIf (l : Launch) (D : va_G) (pa pb pc : Nat) (kb kc : ClassId) (n : Nat) (so nu : Nat → Nat) (i : Nat) (hi : i < 7) (hn : n < 8) (hnu : nu (i * 4 + 2) < 16) : Met l yX1_placeBehindIf (.code yX1_placeBehindIf cX1_placeBehindIf 2 (some .int) :: wsL_law) ({ frames := 1, cells := 0, slots := 0, locals := 22 }) (va_Pc [.ref pa, .int (nI i)] (PR D (pW pa pb pc kb kc n so nu) (pT kb kc))) (QrI (nI (if n < i + 1 + nu (i * 4 + 2) then n else i + 1 + nu (i * 4 + 2)))) 0 0 (fun _ => False) := by
  refine Met.ofW (cc := cX1_placeBehindIf) (maxL := 2) (ret := (some .int)) (by decide) rfl ?_
  intro p e s m args below meth c s₁ B hml hv
  obtain ⟨rfl, hP, hK⟩ := hv
  have hx := B.exec
  have hb := B.bytes
  have hr := B.returns
  have hts := atoms_spec (ws := .code yX1_placeBehindIf cX1_placeBehindIf 2 (some .int) :: wsL_law) B.pre
  have hU : ∀ w ∈ wsL_law, w.before _ s = true := fun w h => hts w (List.mem_cons_of_mem _ h)
  have hown : s.vm.findClass RX1 = some m.cls := findClass_of_methodNamed B.named
  have hlocks := B.notSynchronized
  generalize hQ : MQ _ _ _ _ _ _ _ = Q
  have hl := lv_entry ([.ref pa, .int (nI i)]) (n := 2) (Nat.le_of_ble_eq_true rfl)
  rw [lg_entry_eq]
  generalize (lg_sl ([.ref pa, .int (nI i)]) ++ List.replicate (2 - (lg_sl ([.ref pa, .int (nI i)])).length) Slot.unset).toArray = ls at hl ⊢
  have hl : lv_has ls 2 [(0, .ref pa), (1, .int (nI i))] := hl
  refine lv_iload_n hx hb dX1_placeBehindIf_0 rfl (lv_at hl 1 rfl) ?_
  refine lv_iconst (v := nI 1) hx hb dX1_placeBehindIf_1 (by decide) ?_
  refine lv_iadd hx hb dX1_placeBehindIf_2 ?_
  refine lv_topE (nI (i + 1)) (nI_add _ _) ?_
  refine lv_aload_n hx hb dX1_placeBehindIf_3 rfl (lv_at hl 0 rfl) ?_
  refine lv_iload_n hx hb dX1_placeBehindIf_4 rfl (lv_at hl 1 rfl) ?_
  refine lv_iconst (v := nI 2) hx hb dX1_placeBehindIf_5 (by decide) ?_
  refine cVi (As := [.int (nI i), .int (nI 2)]) (rest := [.int (nI (i + 1))]) ⟨hx, hb, hml, hown, hts⟩ (c_X1_number l D pa pb pc kb kc n so nu i 2 (by omega)) (cwV 2 hts (gV mU_431 mU_417 mU_418 mU_22 mU_419) rfl rfl rfl (by decide +kernel) ⟨Nat.le_of_ble_eq_true rfl, Nat.le_of_ble_eq_true rfl⟩) fbR (va_recv hK hP (ci := 1) (q0 := 0) rfl rfl) (PR.of hP hK) rfl hl.1 rfl (Nat.le_of_ble_eq_true rfl) dX1_placeBehindIf_6 ⟨Nat.zero_le _, Nat.zero_le _⟩ ?_
  refine lv_iadd hx hb dX1_placeBehindIf_9 ?_
  refine lv_topE (nI ((i + 1) + (nu (i * 4 + 2)))) (nI_add _ _) ?_
  refine lv_aload_n hx hb dX1_placeBehindIf_10 rfl (lv_at hl 0 rfl) ?_
  refine va_get (D := D) (ci := 1) (v := .int (nI n)) (C := RX1) (T := TX1) (N := 3) hx hb hU iX1 hown hK hP 0 rfl rfl 0 (by decide) (hU _ mU_47) (fun _ h9 => h9) rfl dX1_placeBehindIf_11 ?_
  refine va_mmin hx hb (hml.trans hl.1.symm) hown (hU _ mU_430) (hU _ mU_229) (hU _ mU_230) (hU _ mU_231) (Nat.le_of_ble_eq_true rfl) (Nat.le_of_ble_eq_true rfl) (Nat.zero_le _) (Nat.zero_le _) dX1_placeBehindIf_14 ?_
  refine lv_topE (nI (if n < (i + 1) + (nu (i * 4 + 2)) then n else (i + 1) + (nu (i * 4 + 2)))) (z_min (by omega) (by omega)) ?_
  subst hQ
  exact rti hx hb hr hlocks rfl (rfl) dX1_placeBehindIf_17

set_option maxHeartbeats 4000000 in
set_option maxRecDepth 100000 in
theorem c_X0_isGet (l : Launch) (D : va_G) (pb pc : Nat) (kb kc : ClassId) (n : Nat) (so nu : Nat → Nat) (pa : Nat) (qu : Nat) (pl : Nat) (hqu : qu < 512) (hpl : pl < 3) (hso : ∀ j, so j < 2147483648) : Met l yX0_isGet (.code yX0_isGet cX0_isGet 4 (some .boolean) :: wsL_law) ({ frames := 1, cells := 0, slots := 0, locals := 21 }) (va_Pc [.ref pa, .int (nI qu), .int (nI pl)] (PR D (pW pa pb pc kb kc n so nu) (pT kb kc))) (QrI (bP (isGetC so qu pl))) 0 0 (fun _ => False) := by
  refine Met.ofW (cc := cX0_isGet) (maxL := 4) (ret := (some .boolean)) (by decide) rfl ?_
  intro p e s m args below meth c s₁ B hml hv
  obtain ⟨rfl, hP, hK⟩ := hv
  have hx := B.exec
  have hb := B.bytes
  have hr := B.returns
  have hts := atoms_spec (ws := .code yX0_isGet cX0_isGet 4 (some .boolean) :: wsL_law) B.pre
  have hU : ∀ w ∈ wsL_law, w.before _ s = true := fun w h => hts w (List.mem_cons_of_mem _ h)
  have hown : s.vm.findClass RX0 = some m.cls := findClass_of_methodNamed B.named
  have hlocks := B.notSynchronized
  generalize hQ : MQ _ _ _ _ _ _ _ = Q
  have hl := lv_entry ([.ref pa, .int (nI qu), .int (nI pl)]) (n := 4) (Nat.le_of_ble_eq_true rfl)
  rw [lg_entry_eq]
  generalize (lg_sl ([.ref pa, .int (nI qu), .int (nI pl)]) ++ List.replicate (4 - (lg_sl ([.ref pa, .int (nI qu), .int (nI pl)])).length) Slot.unset).toArray = ls at hl ⊢
  have hl : lv_has ls 4 [(0, .ref pa), (1, .int (nI qu)), (2, .int (nI pl))] := hl
  refine lv_iload_n hx hb dX0_isGet_0 rfl (lv_at hl 1 rfl) ?_
  refine lv_iload_n hx hb dX0_isGet_1 rfl (lv_at hl 2 rfl) ?_
  refine cSi (As := [.int (nI qu), .int (nI pl)]) (rest := []) ⟨hx, hb, hml, hown, hts⟩ (c_X0_wishAt l  qu pl (by omega) (by omega)) (va_cwS 2 hts (gS mU_413 mU_414 mU_27 mU_415) rfl rfl rfl (by decide +kernel) ⟨Nat.le_of_ble_eq_true rfl, Nat.le_of_ble_eq_true rfl⟩) fbU (fun _ _ _ => trivial) rfl hl.1 rfl (Nat.le_of_ble_eq_true rfl) dX0_isGet_2 ⟨Nat.zero_le _, Nat.zero_le _⟩ ?_
  have hf_1 : wishA qu pl < 7 ∨ wishA qu pl = 4294967295 := wishA_or _ _
  refine lv_istore_n (lv' := [(3, .int (nI (wishA qu pl))), (0, .ref pa), (1, .int (nI qu)), (2, .int (nI pl))]) hx hb dX0_isGet_5 rfl hl (by decide) rfl (fun ls hl => ?_)
  refine lv_iload_n hx hb dX0_isGet_6 rfl (lv_at hl 0 rfl) ?_
  refine lv_iconst (v := nI 4294967295) hx hb dX0_isGet_7 (by decide) ?_
  refine lv_icmp_eq (tgt := 25) hx hb dX0_isGet_8 (by decide) (fun c8_2 => ?_) (fun c8_2 => ?_)
  · have c8_2 : wishA qu pl = 4294967295 := (nI_eqG (a := wishA qu pl) (b := 4294967295) (by omega) (by omega)).mp c8_2
    refine lv_iconst (v := nI 0) hx hb dX0_isGet_25 (by decide) ?_
    subst hQ
    exact rtz hx hb hr hlocks rfl rfl (bP_0 (by unfold isGetC; omega)) dX0_isGet_26
  · have c8_2 : ¬ (wishA qu pl = 4294967295) := fun h9 => c8_2 ((nI_eqG (a := wishA qu pl) (b := 4294967295) (by omega) (by omega)).mpr h9)
    refine lv_aload_n hx hb dX0_isGet_11 rfl (lv_at hl 1 rfl) ?_
    refine va_get (D := D) (ci := 1) (v := .ref pb) (C := RX1) (T := TX1) (N := 3) hx hb hU iX1 hown hK hP 0 rfl rfl 1 (by decide) (hU _ mU_397) (fun _ h9 => h9) rfl dX0_isGet_12 ?_
    refine lv_iload_n hx hb dX0_isGet_15 rfl (lv_at hl 0 rfl) ?_
    refine n_iald hx hb hK hP 1 0 rfl rfl (i := wishA qu pl) (by omega) (by decide) dX0_isGet_16 ?_
    have hb_3 := hso  (wishA qu pl)
    refine lv_iconst (v := nI 1) hx hb dX0_isGet_17 (by decide) ?_
    refine lv_icmp_ne (tgt := 25) hx hb dX0_isGet_18 (by decide) (fun c18_4 => ?_) (fun c18_4 => ?_)
    · have c18_4 : ¬ (so (wishA qu pl) = 1) := fun h9 => c18_4 ((nI_eqG (a := so (wishA qu pl)) (b := 1) (by omega) (by omega)).mpr h9)
      refine lv_iconst (v := nI 0) hx hb dX0_isGet_25 (by decide) ?_
      subst hQ
      exact rtz hx hb hr hlocks rfl rfl (bP_0 (by unfold isGetC; omega)) dX0_isGet_26
    · have c18_4 : so (wishA qu pl) = 1 := (nI_eqG (a := so (wishA qu pl)) (b := 1) (by omega) (by omega)).mp c18_4
      refine lv_iconst (v := nI 1) hx hb dX0_isGet_21 (by decide) ?_
      refine lv_goto (tgt := 26) hx hb dX0_isGet_22 (by decide) ?_
      subst hQ
      exact rtz hx hb hr hlocks rfl rfl (bP_1 (by unfold isGetC; omega)) dX0_isGet_26

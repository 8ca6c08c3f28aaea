theorem c_X5_isInS (l : Launch) (v h1 : Nat) (hv9 : v < 4294967296) (hh9 : h1 < 2147483648) : Met l yX5_isIn (.code yX5_isIn cX5_isIn 3 (some .boolean) :: wsL_law) ({ frames := 0, cells := 0, slots := 0, locals := 0 }) (va_Pc [.int (nI v), .int (nI 0), .int (nI h1 - nI 1)] PU) (QrI (bP (v < h1))) 0 0 (fun _ => False) := by
  rcases Nat.eq_zero_or_pos h1 with q | q
  · subst q
    have h := c_X5_isInE l v 0 4294967295 hv9 rfl rfl
    rw [show nI 0 - nI 1 = nI 4294967295 from by decide, bP_c (show v < 0 ↔ False from ⟨fun h => absurd h (Nat.not_lt_zero v), fun h => h.elim⟩)]
    exact h
  · have h := c_X5_isIn l v 0 (h1 - 1) hv9 (by omega) (by omega)
    rw [pk_sub q, bP_c (show v < h1 ↔ (0 ≤ v ∧ v ≤ h1 - 1) by omega)]
    exact h
theorem arM_le (so : Nat) : arM so ≤ 4 := by unfold arM; split <;> (try split) <;> (try split) <;> omega
def aboutM (f : Nat → Nat) (g : Nat → Nat → Nat) (w : Nat) : Nat := if 10 ≤ w ∧ w ≤ 13 then g 4 (w - 10) else if 20 ≤ w ∧ w ≤ 23 then g 5 (w - 20) else if 0 ≤ w ∧ w ≤ 1 then g 1 w else if w = 2 then f 7 else if w = 3 then (if f 5 = 0 then 0 else 1) else 4294967295
def statementM (g : Nat → Nat → Nat) (h i w : Nat) : Nat := if 0 ≤ h ∧ h ≤ 1 then (if i < g 1 h then (if w = 0 then g 2 (8 * h + i) else if 1 ≤ w ∧ w ≤ arM (g 2 (8 * h + i)) then g 3 (4 * (8 * h + i) + w - 1) else 4294967295) else 4294967295) else 4294967295
set_option maxHeartbeats 4000000 in
set_option maxRecDepth 100000 in
theorem c_X5_step (l : Launch) (D : va_G) (ad : Nat → Nat) (ka : Nat → ClassId) (f : Nat → Nat) (g : Nat → Nat → Nat) (t : Nat → Nat) (i : Nat) (hI : MInv f g t) (hi9 : i < 4294967296) : Met l yX5_step (.code yX5_step cX5_step 2 (some .int) :: wsL_law) ({ frames := 1, cells := 0, slots := 0, locals := 22 }) (va_Pc [.ref (ad 0), .int (nI i)] (PR D (mW ad ka f g t) (mT ka))) (QrI (nI (if i < f 21 then g 12 i else 4294967295))) 0 0 (fun _ => False) := by
  refine Met.ofW (cc := cX5_step) (maxL := 2) (ret := (some .int)) (by decide) rfl ?_
  intro p e s m args below meth c s₁ B hml hv
  obtain ⟨rfl, hP, hK⟩ := hv
  have hx := B.exec
  have hb := B.bytes
  have hr := B.returns
  have hts := atoms_spec (ws := .code yX5_step cX5_step 2 (some .int) :: wsL_law) B.pre
  have hU : ∀ w ∈ wsL_law, w.before _ s = true := fun w h => hts w (List.mem_cons_of_mem _ h)
  have hown : s.vm.findClass RX5 = some m.cls := findClass_of_methodNamed B.named
  have hlocks := B.notSynchronized
  generalize hQ : MQ _ _ _ _ _ _ _ = Q
  have hl := lv_entry ([.ref (ad 0), .int (nI i)]) (n := 2) (Nat.le_of_ble_eq_true rfl)
  rw [lg_entry_eq]
  generalize (lg_sl ([.ref (ad 0), .int (nI i)]) ++ List.replicate (2 - (lg_sl ([.ref (ad 0), .int (nI i)])).length) Slot.unset).toArray = ls at hl ⊢
  have hl : lv_has ls 2 [(0, .ref (ad 0)), (1, .int (nI i))] := hl
  have h21 := hI.1.2.2.2.2.2.2.2.2.2.2.1
  refine lv_iload_n hx hb dX5_step_0 rfl (lv_at hl 1 rfl) ?_
  refine lv_iconst (v := nI 0) hx hb dX5_step_1 (by decide) ?_
  refine lv_aload_n hx hb dX5_step_2 rfl (lv_at hl 0 rfl) ?_
  refine va_get (D := D) (ci := 5) (v := .int (nI (f 21))) (C := RX5) (T := TX5) (N := 23) hx hb hU iX5 hown hK hP 0 rfl rfl 21 (by decide) (hU _ mU_600) (fun _ h9 => h9) rfl dX5_step_3 ?_
  refine lv_iconst (v := nI 1) hx hb dX5_step_6 (by decide) ?_
  refine lv_isub hx hb dX5_step_7 ?_
  refine cSi (As := [.int (nI i), .int (nI 0), .int ((nI (f 21)) - (nI 1))]) (rest := []) ⟨hx, hb, hml, hown, hts⟩ (c_X5_isInS l  i (f 21) (by omega) (by omega)) (va_cwS 3 hts (gS mU_116 mU_117 mU_6 mU_118) rfl rfl rfl (by decide +kernel) ⟨Nat.le_of_ble_eq_true rfl, Nat.le_of_ble_eq_true rfl⟩) fbU (fun _ _ _ => trivial) rfl hl.1 rfl (Nat.le_of_ble_eq_true rfl) dX5_step_8 ⟨Nat.zero_le _, Nat.zero_le _⟩ ?_
  refine lv_if_eq (tgt := 23) hx hb dX5_step_11 (by decide) (fun c11_1 => ?_) (fun c11_1 => ?_)
  · have c11_1 : ¬ (i < (f 21)) := bP_f c11_1
    refine lv_iconst (v := nI 4294967295) hx hb dX5_step_23 (by decide) ?_
    subst hQ
    exact rti hx hb hr hlocks rfl (by first | ((try first | rw [if_pos c11_1] | rw [if_neg c11_1]); (try rfl); done) | (exfalso; omega)) dX5_step_24
  · have c11_1 : i < (f 21) := bP_t c11_1
    refine lv_aload_n hx hb dX5_step_14 rfl (lv_at hl 0 rfl) ?_
    refine va_get (D := D) (ci := 5) (v := .ref (ad 12)) (C := RX5) (T := TX5) (N := 23) hx hb hU iX5 hown hK hP 0 rfl rfl 22 (by decide) (hU _ mU_90) (fun _ h9 => h9) rfl dX5_step_15 ?_
    refine lv_iload_n hx hb dX5_step_18 rfl (lv_at hl 1 rfl) ?_
    refine n_iald hx hb hK hP 12 11 rfl rfl (i := i) (by omega) (by decide) dX5_step_19 ?_
    refine lv_goto (tgt := 24) hx hb dX5_step_20 (by decide) ?_
    subst hQ
    exact rti hx hb hr hlocks rfl (by first | ((try first | rw [if_pos c11_1] | rw [if_neg c11_1]); (try rfl); done) | (exfalso; omega)) dX5_step_24

set_option maxHeartbeats 4000000 in
set_option maxRecDepth 100000 in
theorem c_X5_fault (l : Launch) (D : va_G) (ad : Nat → Nat) (ka : Nat → ClassId) (f : Nat → Nat) (g : Nat → Nat → Nat) (t : Nat → Nat) (wt : Nat) (hI : MInv f g t) (hw9 : wt < 4294967296) : Met l yX5_fault (.code yX5_fault cX5_fault 2 (some .int) :: wsL_law) ({ frames := 0, cells := 0, slots := 0, locals := 0 }) (va_Pc [.ref (ad 0), .int (nI wt)] (PR D (mW ad ka f g t) (mT ka))) (QrI (nI (if wt = 0 then f 8 else if wt = 1 then f 9 else 4294967295))) 0 0 (fun _ => False) := by
  refine Met.ofW (cc := cX5_fault) (maxL := 2) (ret := (some .int)) (by decide) rfl ?_
  intro p e s m args below meth c s₁ B hml hv
  obtain ⟨rfl, hP, hK⟩ := hv
  have hx := B.exec
  have hb := B.bytes
  have hr := B.returns
  have hts := atoms_spec (ws := .code yX5_fault cX5_fault 2 (some .int) :: wsL_law) B.pre
  have hU : ∀ w ∈ wsL_law, w.before _ s = true := fun w h => hts w (List.mem_cons_of_mem _ h)
  have hown : s.vm.findClass RX5 = some m.cls := findClass_of_methodNamed B.named
  have hlocks := B.notSynchronized
  generalize hQ : MQ _ _ _ _ _ _ _ = Q
  have hl := lv_entry ([.ref (ad 0), .int (nI wt)]) (n := 2) (Nat.le_of_ble_eq_true rfl)
  rw [lg_entry_eq]
  generalize (lg_sl ([.ref (ad 0), .int (nI wt)]) ++ List.replicate (2 - (lg_sl ([.ref (ad 0), .int (nI wt)])).length) Slot.unset).toArray = ls at hl ⊢
  have hl : lv_has ls 2 [(0, .ref (ad 0)), (1, .int (nI wt))] := hl
  refine lv_iload_n hx hb dX5_fault_0 rfl (lv_at hl 1 rfl) ?_
  refine lv_if_ne (tgt := 11) hx hb dX5_fault_1 (by decide) (fun c1_1 => ?_) (fun c1_1 => ?_)
  · have c1_1 : ¬ (wt = 0) := fun h9 => c1_1 ((nI_eqG (a := wt) (b := 0) (by omega) (by omega)).mpr h9)
    refine lv_iload_n hx hb dX5_fault_11 rfl (lv_at hl 1 rfl) ?_
    refine lv_iconst (v := nI 1) hx hb dX5_fault_12 (by decide) ?_
    refine lv_icmp_ne (tgt := 23) hx hb dX5_fault_13 (by decide) (fun c13_2 => ?_) (fun c13_2 => ?_)
    · have c13_2 : ¬ (wt = 1) := fun h9 => c13_2 ((nI_eqG (a := wt) (b := 1) (by omega) (by omega)).mpr h9)
      refine lv_iconst (v := nI 4294967295) hx hb dX5_fault_23 (by decide) ?_
      subst hQ
      exact rti hx hb hr hlocks rfl (by first | ((try first | rw [if_pos c1_1] | rw [if_neg c1_1]); (try first | rw [if_pos c13_2] | rw [if_neg c13_2]); (try rfl); done) | (exfalso; omega)) dX5_fault_24
    · have c13_2 : wt = 1 := (nI_eqG (a := wt) (b := 1) (by omega) (by omega)).mp c13_2
      refine lv_aload_n hx hb dX5_fault_16 rfl (lv_at hl 0 rfl) ?_
      refine va_get (D := D) (ci := 5) (v := .int (nI (f 9))) (C := RX5) (T := TX5) (N := 23) hx hb hU iX5 hown hK hP 0 rfl rfl 9 (by decide) (hU _ mU_82) (fun _ h9 => h9) rfl dX5_fault_17 ?_
      refine lv_goto (tgt := 24) hx hb dX5_fault_20 (by decide) ?_
      subst hQ
      exact rti hx hb hr hlocks rfl (by first | ((try first | rw [if_pos c1_1] | rw [if_neg c1_1]); (try first | rw [if_pos c13_2] | rw [if_neg c13_2]); (try rfl); done) | (exfalso; omega)) dX5_fault_24
  · have c1_1 : wt = 0 := (nI_eqG (a := wt) (b := 0) (by omega) (by omega)).mp c1_1
    refine lv_aload_n hx hb dX5_fault_4 rfl (lv_at hl 0 rfl) ?_
    refine va_get (D := D) (ci := 5) (v := .int (nI (f 8))) (C := RX5) (T := TX5) (N := 23) hx hb hU iX5 hown hK hP 0 rfl rfl 8 (by decide) (hU _ mU_81) (fun _ h9 => h9) rfl dX5_fault_5 ?_
    refine lv_goto (tgt := 24) hx hb dX5_fault_8 (by decide) ?_
    subst hQ
    exact rti hx hb hr hlocks rfl (by first | ((try first | rw [if_pos c1_1] | rw [if_neg c1_1]); (try rfl); done) | (exfalso; omega)) dX5_fault_24

set_option maxHeartbeats 4000000 in
set_option maxRecDepth 100000 in
theorem c_X5_about (l : Launch) (D : va_G) (ad : Nat → Nat) (ka : Nat → ClassId) (f : Nat → Nat) (g : Nat → Nat → Nat) (t : Nat → Nat) (wt : Nat) (hI : MInv f g t) (hw9 : wt < 4294967296) : Met l yX5_about (.code yX5_about cX5_about 2 (some .int) :: wsL_law) ({ frames := 1, cells := 0, slots := 0, locals := 22 }) (va_Pc [.ref (ad 0), .int (nI wt)] (PR D (mW ad ka f g t) (mT ka))) (QrI (nI (aboutM f g wt))) 0 0 (fun _ => False) := by
  refine Met.ofW (cc := cX5_about) (maxL := 2) (ret := (some .int)) (by decide) rfl ?_
  intro p e s m args below meth c s₁ B hml hv
  obtain ⟨rfl, hP, hK⟩ := hv
  have hx := B.exec
  have hb := B.bytes
  have hr := B.returns
  have hts := atoms_spec (ws := .code yX5_about cX5_about 2 (some .int) :: wsL_law) B.pre
  have hU : ∀ w ∈ wsL_law, w.before _ s = true := fun w h => hts w (List.mem_cons_of_mem _ h)
  have hown : s.vm.findClass RX5 = some m.cls := findClass_of_methodNamed B.named
  have hlocks := B.notSynchronized
  generalize hQ : MQ _ _ _ _ _ _ _ = Q
  have hl := lv_entry ([.ref (ad 0), .int (nI wt)]) (n := 2) (Nat.le_of_ble_eq_true rfl)
  rw [lg_entry_eq]
  generalize (lg_sl ([.ref (ad 0), .int (nI wt)]) ++ List.replicate (2 - (lg_sl ([.ref (ad 0), .int (nI wt)])).length) Slot.unset).toArray = ls at hl ⊢
  have hl : lv_has ls 2 [(0, .ref (ad 0)), (1, .int (nI wt))] := hl
  have hf5 := hI.1.2.2.1
  have hf7 := hI.1.2.2.2.2.2.1
  refine lv_iload_n hx hb dX5_about_0 rfl (lv_at hl 1 rfl) ?_
  refine lv_bipush (v := nI 10) hx hb dX5_about_1 (by decide) ?_
  refine lv_bipush (v := nI 13) hx hb dX5_about_3 (by decide) ?_
  refine cSi (As := [.int (nI wt), .int (nI 10), .int (nI 13)]) (rest := []) ⟨hx, hb, hml, hown, hts⟩ (c_X5_isIn l  wt 10 13 (by omega) (by omega) (by omega)) (va_cwS 3 hts (gS mU_116 mU_117 mU_6 mU_118) rfl rfl rfl (by decide +kernel) ⟨Nat.le_of_ble_eq_true rfl, Nat.le_of_ble_eq_true rfl⟩) fbU (fun _ _ _ => trivial) rfl hl.1 rfl (Nat.le_of_ble_eq_true rfl) dX5_about_5 ⟨Nat.zero_le _, Nat.zero_le _⟩ ?_
  refine lv_if_eq (tgt := 21) hx hb dX5_about_8 (by decide) (fun c8_1 => ?_) (fun c8_1 => ?_)
  · have c8_1 : ¬ (10 ≤ wt ∧ wt ≤ 13) := bP_f c8_1
    refine lv_iload_n hx hb dX5_about_21 rfl (lv_at hl 1 rfl) ?_
    refine lv_bipush (v := nI 20) hx hb dX5_about_22 (by decide) ?_
    refine lv_bipush (v := nI 23) hx hb dX5_about_24 (by decide) ?_
    refine cSi (As := [.int (nI wt), .int (nI 20), .int (nI 23)]) (rest := []) ⟨hx, hb, hml, hown, hts⟩ (c_X5_isIn l  wt 20 23 (by omega) (by omega) (by omega)) (va_cwS 3 hts (gS mU_116 mU_117 mU_6 mU_118) rfl rfl rfl (by decide +kernel) ⟨Nat.le_of_ble_eq_true rfl, Nat.le_of_ble_eq_true rfl⟩) fbU (fun _ _ _ => trivial) rfl hl.1 rfl (Nat.le_of_ble_eq_true rfl) dX5_about_26 ⟨Nat.zero_le _, Nat.zero_le _⟩ ?_
    refine lv_if_eq (tgt := 42) hx hb dX5_about_29 (by decide) (fun c29_2 => ?_) (fun c29_2 => ?_)
    · have c29_2 : ¬ (20 ≤ wt ∧ wt ≤ 23) := bP_f c29_2
      refine lv_iload_n hx hb dX5_about_42 rfl (lv_at hl 1 rfl) ?_
      refine lv_iconst (v := nI 0) hx hb dX5_about_43 (by decide) ?_
      refine lv_iconst (v := nI 1) hx hb dX5_about_44 (by decide) ?_
      refine cSi (As := [.int (nI wt), .int (nI 0), .int (nI 1)]) (rest := []) ⟨hx, hb, hml, hown, hts⟩ (c_X5_isIn l  wt 0 1 (by omega) (by omega) (by omega)) (va_cwS 3 hts (gS mU_116 mU_117 mU_6 mU_118) rfl rfl rfl (by decide +kernel) ⟨Nat.le_of_ble_eq_true rfl, Nat.le_of_ble_eq_true rfl⟩) fbU (fun _ _ _ => trivial) rfl hl.1 rfl (Nat.le_of_ble_eq_true rfl) dX5_about_45 ⟨Nat.zero_le _, Nat.zero_le _⟩ ?_
      refine lv_if_eq (tgt := 60) hx hb dX5_about_48 (by decide) (fun c48_3 => ?_) (fun c48_3 => ?_)
      · have c48_3 : ¬ (0 ≤ wt ∧ wt ≤ 1) := bP_f c48_3
        refine lv_iload_n hx hb dX5_about_60 rfl (lv_at hl 1 rfl) ?_
        refine lv_iconst (v := nI 2) hx hb dX5_about_61 (by decide) ?_
        refine lv_icmp_ne (tgt := 72) hx hb dX5_about_62 (by decide) (fun c62_4 => ?_) (fun c62_4 => ?_)
        · have c62_4 : ¬ (wt = 2) := fun h9 => c62_4 ((nI_eqG (a := wt) (b := 2) (by omega) (by omega)).mpr h9)
          refine lv_iload_n hx hb dX5_about_72 rfl (lv_at hl 1 rfl) ?_
          refine lv_iconst (v := nI 3) hx hb dX5_about_73 (by decide) ?_
          refine lv_icmp_ne (tgt := 92) hx hb dX5_about_74 (by decide) (fun c74_5 => ?_) (fun c74_5 => ?_)
          · have c74_5 : ¬ (wt = 3) := fun h9 => c74_5 ((nI_eqG (a := wt) (b := 3) (by omega) (by omega)).mpr h9)
            refine lv_iconst (v := nI 4294967295) hx hb dX5_about_92 (by decide) ?_
            subst hQ
            exact rti hx hb hr hlocks rfl (by first | (unfold aboutM; (try first | rw [if_pos c8_1] | rw [if_neg c8_1]); (try first | rw [if_pos c29_2] | rw [if_neg c29_2]); (try first | rw [if_pos c48_3] | rw [if_neg c48_3]); (try first | rw [if_pos c62_4] | rw [if_neg c62_4]); (try first | rw [if_pos c74_5] | rw [if_neg c74_5]); (try rfl); done) | (exfalso; omega)) dX5_about_93
          · have c74_5 : wt = 3 := (nI_eqG (a := wt) (b := 3) (by omega) (by omega)).mp c74_5
            refine lv_aload_n hx hb dX5_about_77 rfl (lv_at hl 0 rfl) ?_
            refine va_get (D := D) (ci := 5) (v := .int (nI (f 5))) (C := RX5) (T := TX5) (N := 23) hx hb hU iX5 hown hK hP 0 rfl rfl 5 (by decide) (hU _ mU_320) (fun _ h9 => h9) rfl dX5_about_78 ?_
            refine lv_if_eq (tgt := 88) hx hb dX5_about_81 (by decide) (fun c81_6 => ?_) (fun c81_6 => ?_)
            · have c81_6 : f 5 = 0 := (nI_eqG (a := f 5) (b := 0) (by omega) (by omega)).mp c81_6
              refine lv_iconst (v := nI 0) hx hb dX5_about_88 (by decide) ?_
              refine lv_goto (tgt := 93) hx hb dX5_about_89 (by decide) ?_
              subst hQ
              exact rti hx hb hr hlocks rfl (by first | (unfold aboutM; (try first | rw [if_pos c8_1] | rw [if_neg c8_1]); (try first | rw [if_pos c29_2] | rw [if_neg c29_2]); (try first | rw [if_pos c48_3] | rw [if_neg c48_3]); (try first | rw [if_pos c62_4] | rw [if_neg c62_4]); (try first | rw [if_pos c74_5] | rw [if_neg c74_5]); (try first | rw [if_pos c81_6] | rw [if_neg c81_6]); (try rfl); done) | (exfalso; omega)) dX5_about_93
            · have c81_6 : ¬ (f 5 = 0) := fun h9 => c81_6 ((nI_eqG (a := f 5) (b := 0) (by omega) (by omega)).mpr h9)
              refine lv_iconst (v := nI 1) hx hb dX5_about_84 (by decide) ?_
              refine lv_goto (tgt := 93) hx hb dX5_about_85 (by decide) ?_
              subst hQ
              exact rti hx hb hr hlocks rfl (by first | (unfold aboutM; (try first | rw [if_pos c8_1] | rw [if_neg c8_1]); (try first | rw [if_pos c29_2] | rw [if_neg c29_2]); (try first | rw [if_pos c48_3] | rw [if_neg c48_3]); (try first | rw [if_pos c62_4] | rw [if_neg c62_4]); (try first | rw [if_pos c74_5] | rw [if_neg c74_5]); (try first | rw [if_pos c81_6] | rw [if_neg c81_6]); (try rfl); done) | (exfalso; omega)) dX5_about_93
        · have c62_4 : wt = 2 := (nI_eqG (a := wt) (b := 2) (by omega) (by omega)).mp c62_4
          refine lv_aload_n hx hb dX5_about_65 rfl (lv_at hl 0 rfl) ?_
          refine va_get (D := D) (ci := 5) (v := .int (nI (f 7))) (C := RX5) (T := TX5) (N := 23) hx hb hU iX5 hown hK hP 0 rfl rfl 7 (by decide) (hU _ mU_103) (fun _ h9 => h9) rfl dX5_about_66 ?_
          refine lv_goto (tgt := 93) hx hb dX5_about_69 (by decide) ?_
          subst hQ
          exact rti hx hb hr hlocks rfl (by first | (unfold aboutM; (try first | rw [if_pos c8_1] | rw [if_neg c8_1]); (try first | rw [if_pos c29_2] | rw [if_neg c29_2]); (try first | rw [if_pos c48_3] | rw [if_neg c48_3]); (try first | rw [if_pos c62_4] | rw [if_neg c62_4]); (try rfl); done) | (exfalso; omega)) dX5_about_93
      · have c48_3 : 0 ≤ wt ∧ wt ≤ 1 := bP_t c48_3
        refine lv_aload_n hx hb dX5_about_51 rfl (lv_at hl 0 rfl) ?_
        refine va_get (D := D) (ci := 5) (v := .ref (ad 1)) (C := RX5) (T := TX5) (N := 23) hx hb hU iX5 hown hK hP 0 rfl rfl 0 (by decide) (hU _ mU_75) (fun _ h9 => h9) rfl dX5_about_52 ?_
        refine lv_iload_n hx hb dX5_about_55 rfl (lv_at hl 1 rfl) ?_
        refine n_iald hx hb hK hP 1 0 rfl rfl (i := wt) (by omega) (by decide) dX5_about_56 ?_
        have hb_7 := hI.1.2.1 1 (by decide) wt
        refine lv_goto (tgt := 93) hx hb dX5_about_57 (by decide) ?_
        subst hQ
        exact rti hx hb hr hlocks rfl (by first | (unfold aboutM; (try first | rw [if_pos c8_1] | rw [if_neg c8_1]); (try first | rw [if_pos c29_2] | rw [if_neg c29_2]); (try first | rw [if_pos c48_3] | rw [if_neg c48_3]); (try rfl); done) | (exfalso; omega)) dX5_about_93
    · have c29_2 : 20 ≤ wt ∧ wt ≤ 23 := bP_t c29_2
      refine lv_aload_n hx hb dX5_about_32 rfl (lv_at hl 0 rfl) ?_
      refine va_get (D := D) (ci := 5) (v := .ref (ad 5)) (C := RX5) (T := TX5) (N := 23) hx hb hU iX5 hown hK hP 0 rfl rfl 4 (by decide) (hU _ mU_79) (fun _ h9 => h9) rfl dX5_about_33 ?_
      refine lv_iload_n hx hb dX5_about_36 rfl (lv_at hl 1 rfl) ?_
      refine lv_bipush (v := nI 20) hx hb dX5_about_37 (by decide) ?_
      refine lv_isub hx hb dX5_about_39 ?_
      refine lv_topE (nI (wt - 20)) (pk_sub (by omega)) ?_
      refine n_iald hx hb hK hP 5 4 rfl rfl (i := wt - 20) (by omega) (by decide) dX5_about_40 ?_
      have hb_8 := hI.1.2.1 5 (by decide) (wt - 20)
      subst hQ
      exact rti hx hb hr hlocks rfl (by first | (unfold aboutM; (try first | rw [if_pos c8_1] | rw [if_neg c8_1]); (try first | rw [if_pos c29_2] | rw [if_neg c29_2]); (try rfl); done) | (exfalso; omega)) dX5_about_41
  · have c8_1 : 10 ≤ wt ∧ wt ≤ 13 := bP_t c8_1
    refine lv_aload_n hx hb dX5_about_11 rfl (lv_at hl 0 rfl) ?_
    refine va_get (D := D) (ci := 5) (v := .ref (ad 4)) (C := RX5) (T := TX5) (N := 23) hx hb hU iX5 hown hK hP 0 rfl rfl 3 (by decide) (hU _ mU_78) (fun _ h9 => h9) rfl dX5_about_12 ?_
    refine lv_iload_n hx hb dX5_about_15 rfl (lv_at hl 1 rfl) ?_
    refine lv_bipush (v := nI 10) hx hb dX5_about_16 (by decide) ?_
    refine lv_isub hx hb dX5_about_18 ?_
    refine lv_topE (nI (wt - 10)) (pk_sub (by omega)) ?_
    refine n_iald hx hb hK hP 4 3 rfl rfl (i := wt - 10) (by omega) (by decide) dX5_about_19 ?_
    have hb_9 := hI.1.2.1 4 (by decide) (wt - 10)
    subst hQ
    exact rti hx hb hr hlocks rfl (by first | (unfold aboutM; (try first | rw [if_pos c8_1] | rw [if_neg c8_1]); (try rfl); done) | (exfalso; omega)) dX5_about_20

set_option maxHeartbeats 4000000 in
set_option maxRecDepth 100000 in
theorem c_X5_statement (l : Launch) (D : va_G) (ad : Nat → Nat) (ka : Nat → ClassId) (f : Nat → Nat) (g : Nat → Nat → Nat) (t : Nat → Nat) (h : Nat) (i : Nat) (wt : Nat) (hI : MInv f g t) (hh9 : h < 4294967296) (hi9 : i < 4294967296) (hw9 : wt < 4294967296) : Met l yX5_statement (.code yX5_statement cX5_statement 5 (some .int) :: wsL_law) ({ frames := 1, cells := 0, slots := 0, locals := 22 }) (va_Pc [.ref (ad 0), .int (nI h), .int (nI i), .int (nI wt)] (PR D (mW ad ka f g t) (mT ka))) (QrI (nI (statementM g h i wt))) 0 0 (fun _ => False) := by
  refine Met.ofW (cc := cX5_statement) (maxL := 5) (ret := (some .int)) (by decide) rfl ?_
  intro p e s m args below meth c s₁ B hml hv
  obtain ⟨rfl, hP, hK⟩ := hv
  have hx := B.exec
  have hb := B.bytes
  have hr := B.returns
  have hts := atoms_spec (ws := .code yX5_statement cX5_statement 5 (some .int) :: wsL_law) B.pre
  have hU : ∀ w ∈ wsL_law, w.before _ s = true := fun w h => hts w (List.mem_cons_of_mem _ h)
  have hown : s.vm.findClass RX5 = some m.cls := findClass_of_methodNamed B.named
  have hlocks := B.notSynchronized
  generalize hQ : MQ _ _ _ _ _ _ _ = Q
  have hl := lv_entry ([.ref (ad 0), .int (nI h), .int (nI i), .int (nI wt)]) (n := 5) (Nat.le_of_ble_eq_true rfl)
  rw [lg_entry_eq]
  generalize (lg_sl ([.ref (ad 0), .int (nI h), .int (nI i), .int (nI wt)]) ++ List.replicate (5 - (lg_sl ([.ref (ad 0), .int (nI h), .int (nI i), .int (nI wt)])).length) Slot.unset).toArray = ls at hl ⊢
  have hl : lv_has ls 5 [(0, .ref (ad 0)), (1, .int (nI h)), (2, .int (nI i)), (3, .int (nI wt))] := hl
  refine lv_iload_n hx hb dX5_statement_0 rfl (lv_at hl 1 rfl) ?_
  refine lv_iconst (v := nI 0) hx hb dX5_statement_1 (by decide) ?_
  refine lv_iconst (v := nI 1) hx hb dX5_statement_2 (by decide) ?_
  refine cSi (As := [.int (nI h), .int (nI 0), .int (nI 1)]) (rest := []) ⟨hx, hb, hml, hown, hts⟩ (c_X5_isIn l  h 0 1 (by omega) (by omega) (by omega)) (va_cwS 3 hts (gS mU_116 mU_117 mU_6 mU_118) rfl rfl rfl (by decide +kernel) ⟨Nat.le_of_ble_eq_true rfl, Nat.le_of_ble_eq_true rfl⟩) fbU (fun _ _ _ => trivial) rfl hl.1 rfl (Nat.le_of_ble_eq_true rfl) dX5_statement_3 ⟨Nat.zero_le _, Nat.zero_le _⟩ ?_
  refine lv_if_eq (tgt := 25) hx hb dX5_statement_6 (by decide) (fun c6_1 => ?_) (fun c6_1 => ?_)
  · have c6_1 : ¬ (0 ≤ h ∧ h ≤ 1) := bP_f c6_1
    refine lv_iconst (v := nI 4294967295) hx hb dX5_statement_25 (by decide) ?_
    subst hQ
    exact rti hx hb hr hlocks rfl (by first | (unfold statementM; (try first | rw [if_pos c6_1] | rw [if_neg c6_1]); (try rfl); done) | (exfalso; omega)) dX5_statement_26
  · have c6_1 : 0 ≤ h ∧ h ≤ 1 := bP_t c6_1
    refine lv_iload_n hx hb dX5_statement_9 rfl (lv_at hl 2 rfl) ?_
    refine lv_iconst (v := nI 0) hx hb dX5_statement_10 (by decide) ?_
    refine lv_aload_n hx hb dX5_statement_11 rfl (lv_at hl 0 rfl) ?_
    refine va_get (D := D) (ci := 5) (v := .ref (ad 1)) (C := RX5) (T := TX5) (N := 23) hx hb hU iX5 hown hK hP 0 rfl rfl 0 (by decide) (hU _ mU_75) (fun _ h9 => h9) rfl dX5_statement_12 ?_
    refine lv_iload_n hx hb dX5_statement_15 rfl (lv_at hl 1 rfl) ?_
    refine n_iald hx hb hK hP 1 0 rfl rfl (i := h) (by omega) (by decide) dX5_statement_16 ?_
    have hb_2 := hI.1.2.1 1 (by decide) h
    have hl7 := (hI.1.1 h (by omega)).1
    refine lv_iconst (v := nI 1) hx hb dX5_statement_17 (by decide) ?_
    refine lv_isub hx hb dX5_statement_18 ?_
    refine cSi (As := [.int (nI i), .int (nI 0), .int ((nI ((g 1) h)) - (nI 1))]) (rest := []) ⟨hx, hb, hml, hown, hts⟩ (c_X5_isInS l  i ((g 1) h) (by omega) (by omega)) (va_cwS 3 hts (gS mU_116 mU_117 mU_6 mU_118) rfl rfl rfl (by decide +kernel) ⟨Nat.le_of_ble_eq_true rfl, Nat.le_of_ble_eq_true rfl⟩) fbU (fun _ _ _ => trivial) rfl hl.1 rfl (Nat.le_of_ble_eq_true rfl) dX5_statement_19 ⟨Nat.zero_le _, Nat.zero_le _⟩ ?_
    refine lv_if_ne (tgt := 27) hx hb dX5_statement_22 (by decide) (fun c22_3 => ?_) (fun c22_3 => ?_)
    · have c22_3 : i < ((g 1) h) := bP_t c22_3
      have hokS := ((hI.1.1 h (by omega)).2 i (by omega)).1.1
      refine lv_bipush (v := nI 8) hx hb dX5_statement_27 (by decide) ?_
      refine lv_iload_n hx hb dX5_statement_29 rfl (lv_at hl 1 rfl) ?_
      refine lv_imul hx hb dX5_statement_30 ?_
      refine lv_topE (nI (8 * h)) (pk_mul _ _) ?_
      refine lv_iload_n hx hb dX5_statement_31 rfl (lv_at hl 2 rfl) ?_
      refine lv_iadd hx hb dX5_statement_32 ?_
      refine lv_topE (nI ((8 * h) + i)) (nI_add _ _) ?_
      refine lv_istore (lv' := [(4, .int (nI ((8 * h) + i))), (0, .ref (ad 0)), (1, .int (nI h)), (2, .int (nI i)), (3, .int (nI wt))]) hx hb dX5_statement_33 hl (by decide) rfl (fun ls hl => ?_)
      refine lv_iload_n hx hb dX5_statement_35 rfl (lv_at hl 4 rfl) ?_
      refine lv_if_ne (tgt := 49) hx hb dX5_statement_36 (by decide) (fun c36_4 => ?_) (fun c36_4 => ?_)
      · have c36_4 : ¬ (wt = 0) := fun h9 => c36_4 ((nI_eqG (a := wt) (b := 0) (by omega) (by omega)).mpr h9)
        refine lv_iload_n hx hb dX5_statement_49 rfl (lv_at hl 4 rfl) ?_
        refine lv_iconst (v := nI 1) hx hb dX5_statement_50 (by decide) ?_
        refine lv_aload_n hx hb dX5_statement_51 rfl (lv_at hl 1 rfl) ?_
        refine va_get (D := D) (ci := 5) (v := .ref (ad 2)) (C := RX5) (T := TX5) (N := 23) hx hb hU iX5 hown hK hP 0 rfl rfl 1 (by decide) (hU _ mU_76) (fun _ h9 => h9) rfl dX5_statement_52 ?_
        refine lv_iload hx hb dX5_statement_55 (lv_at hl 0 rfl) ?_
        refine n_iald hx hb hK hP 2 1 rfl rfl (i := (8 * h) + i) (by omega) (by decide) dX5_statement_57 ?_
        have hb_5 := hI.1.2.1 2 (by decide) ((8 * h) + i)
        refine cSi (As := [.int (nI ((g 2) ((8 * h) + i)))]) (rest := [.int (nI 1), .int (nI wt)]) ⟨hx, hb, hml, hown, hts⟩ (c_X5_numbersOf l  ((g 2) ((8 * h) + i)) (by omega)) (va_cwS 1 hts (gS mU_281 mU_282 mU_6 mU_283) rfl rfl rfl (by decide +kernel) ⟨Nat.le_of_ble_eq_true rfl, Nat.le_of_ble_eq_true rfl⟩) fbU (fun _ _ _ => trivial) rfl hl.1 rfl (Nat.le_of_ble_eq_true rfl) dX5_statement_58 ⟨Nat.zero_le _, Nat.zero_le _⟩ ?_
        have harm := arM_le (g 2 (8 * h + i))
        refine cSi (As := [.int (nI wt), .int (nI 1), .int (nI (arM ((g 2) ((8 * h) + i))))]) (rest := []) ⟨hx, hb, hml, hown, hts⟩ (c_X5_isIn l  wt 1 (arM ((g 2) ((8 * h) + i))) (by omega) (by omega) (by omega)) (va_cwS 3 hts (gS mU_116 mU_117 mU_6 mU_118) rfl rfl rfl (by decide +kernel) ⟨Nat.le_of_ble_eq_true rfl, Nat.le_of_ble_eq_true rfl⟩) fbU (fun _ _ _ => trivial) rfl hl.1 rfl (Nat.le_of_ble_eq_true rfl) dX5_statement_61 ⟨Nat.zero_le _, Nat.zero_le _⟩ ?_
        refine lv_if_eq (tgt := 83) hx hb dX5_statement_64 (by decide) (fun c64_6 => ?_) (fun c64_6 => ?_)
        · have c64_6 : ¬ (1 ≤ wt ∧ wt ≤ (arM ((g 2) ((8 * h) + i)))) := bP_f c64_6
          refine lv_iconst (v := nI 4294967295) hx hb dX5_statement_83 (by decide) ?_
          subst hQ
          exact rti hx hb hr hlocks rfl (by first | (unfold statementM; (try first | rw [if_pos c6_1] | rw [if_neg c6_1]); (try first | rw [if_pos c22_3] | rw [if_neg c22_3]); (try first | rw [if_pos c36_4] | rw [if_neg c36_4]); (try first | rw [if_pos c64_6] | rw [if_neg c64_6]); (try rfl); done) | (exfalso; omega)) dX5_statement_84
        · have c64_6 : 1 ≤ wt ∧ wt ≤ (arM ((g 2) ((8 * h) + i))) := bP_t c64_6
          refine lv_aload_n hx hb dX5_statement_67 rfl (lv_at hl 1 rfl) ?_
          refine va_get (D := D) (ci := 5) (v := .ref (ad 3)) (C := RX5) (T := TX5) (N := 23) hx hb hU iX5 hown hK hP 0 rfl rfl 2 (by decide) (hU _ mU_77) (fun _ h9 => h9) rfl dX5_statement_68 ?_
          refine lv_iconst (v := nI 4) hx hb dX5_statement_71 (by decide) ?_
          refine lv_iload hx hb dX5_statement_72 (lv_at hl 0 rfl) ?_
          refine lv_imul hx hb dX5_statement_74 ?_
          refine lv_topE (nI (4 * ((8 * h) + i))) (pk_mul _ _) ?_
          refine lv_iload_n hx hb dX5_statement_75 rfl (lv_at hl 4 rfl) ?_
          refine lv_iadd hx hb dX5_statement_76 ?_
          refine lv_topE (nI ((4 * ((8 * h) + i)) + wt)) (nI_add _ _) ?_
          refine lv_iconst (v := nI 1) hx hb dX5_statement_77 (by decide) ?_
          refine lv_isub hx hb dX5_statement_78 ?_
          refine lv_topE (nI (((4 * ((8 * h) + i)) + wt) - 1)) (pk_sub (by omega)) ?_
          refine n_iald hx hb hK hP 3 2 rfl rfl (i := ((4 * ((8 * h) + i)) + wt) - 1) (by omega) (by decide) dX5_statement_79 ?_
          have hb_7 := hI.1.2.1 3 (by decide) (((4 * ((8 * h) + i)) + wt) - 1)
          refine lv_goto (tgt := 84) hx hb dX5_statement_80 (by decide) ?_
          subst hQ
          exact rti hx hb hr hlocks rfl (by first | (unfold statementM; (try first | rw [if_pos c6_1] | rw [if_neg c6_1]); (try first | rw [if_pos c22_3] | rw [if_neg c22_3]); (try first | rw [if_pos c36_4] | rw [if_neg c36_4]); (try first | rw [if_pos c64_6] | rw [if_neg c64_6]); (try rfl); done) | (exfalso; omega)) dX5_statement_84
      · have c36_4 : wt = 0 := (nI_eqG (a := wt) (b := 0) (by omega) (by omega)).mp c36_4
        refine lv_aload_n hx hb dX5_statement_39 rfl (lv_at hl 1 rfl) ?_
        refine va_get (D := D) (ci := 5) (v := .ref (ad 2)) (C := RX5) (T := TX5) (N := 23) hx hb hU iX5 hown hK hP 0 rfl rfl 1 (by decide) (hU _ mU_76) (fun _ h9 => h9) rfl dX5_statement_40 ?_
        refine lv_iload hx hb dX5_statement_43 (lv_at hl 0 rfl) ?_
        refine n_iald hx hb hK hP 2 1 rfl rfl (i := (8 * h) + i) (by omega) (by decide) dX5_statement_45 ?_
        have hb_8 := hI.1.2.1 2 (by decide) ((8 * h) + i)
        refine lv_goto (tgt := 84) hx hb dX5_statement_46 (by decide) ?_
        subst hQ
        exact rti hx hb hr hlocks rfl (by first | (unfold statementM; (try first | rw [if_pos c6_1] | rw [if_neg c6_1]); (try first | rw [if_pos c22_3] | rw [if_neg c22_3]); (try first | rw [if_pos c36_4] | rw [if_neg c36_4]); (try rfl); done) | (exfalso; omega)) dX5_statement_84
    · have c22_3 : ¬ (i < ((g 1) h)) := bP_f c22_3
      refine lv_iconst (v := nI 4294967295) hx hb dX5_statement_25 (by decide) ?_
      subst hQ
      exact rti hx hb hr hlocks rfl (by first | (unfold statementM; (try first | rw [if_pos c6_1] | rw [if_neg c6_1]); (try first | rw [if_pos c22_3] | rw [if_neg c22_3]); (try rfl); done) | (exfalso; omega)) dX5_statement_26

set_option maxHeartbeats 4000000 in
set_option maxRecDepth 100000 in
theorem c_X5_word (l : Launch) (D : va_G) (ad : Nat → Nat) (ka : Nat → ClassId) (f : Nat → Nat) (g : Nat → Nat → Nat) (t : Nat → Nat) (sz : Nat) (w : Nat) (v : Nat) (q : Nat) (hw9 : w < 4294967296) (hv9 : v < 4294967296) (hq9 : q < 4294967296) : Met l yX5_word (.code yX5_word cX5_word 4 (some .boolean) :: wsL_law) ({ frames := 1, cells := 0, slots := 0, locals := 22 }) (va_Pc [.ref (ad 0), .int (nI w), .int (nI v), .int (nI q)] (PW D (mW ad ka f g t) (mT ka) sz)) (va_Qi (fun (r : Int32) (u : MSt) => (w ≤ 3 ∧ v ≤ 3 ∧ q ≤ 7 → r = nI 1 ∧ u = (upN f 20 0, upA (upA g 4 (upN (g 4) w v)) 5 (upN (g 5) w q), t)) ∧ (¬ (w ≤ 3 ∧ v ≤ 3 ∧ q ≤ 7) → r = nI 0 ∧ u = (f, g, t))) (QW D (fun u : MSt => mW ad ka u.1 u.2.1 u.2.2) (fun _ => mT ka) (va_A (mW ad ka f g t) sz)) (va_A (mW ad ka f g t) sz)) 0 0 (va_A (mW ad ka f g t) sz) := by
  refine Met.ofW (cc := cX5_word) (maxL := 4) (ret := (some .boolean)) (by decide) rfl ?_
  intro p e s m args below meth c s₁ B hml hv
  obtain ⟨rfl, hsz, hP, hK, hD0⟩ := hv
  have hx := B.exec
  have hb := B.bytes
  have hr := B.returns
  have hts := atoms_spec (ws := .code yX5_word cX5_word 4 (some .boolean) :: wsL_law) B.pre
  have hU : ∀ w ∈ wsL_law, w.before _ s = true := fun w h => hts w (List.mem_cons_of_mem _ h)
  have hown : s.vm.findClass RX5 = some m.cls := findClass_of_methodNamed B.named
  have hlocks := B.notSynchronized
  subst hsz
  have hD := hD0.self (sz := s.heap.size)
  generalize hAe : va_A (mW ad ka f g t) s.heap.size = Ar at hD ⊢
  have hA : ∀ q : Nat, s.heap.size ≤ q → Ar q := fun q h => by rw [← hAe]; exact Or.inr h
  have hS : va_S Ar s.heap s.heap [] := va_S.rf
  have hP : va_P D vwCl [(ad 0, .inr (5, [.ref (ad 1), .ref (ad 2), .ref (ad 3), .ref (ad 4), .ref (ad 5), .int (nI (f 5)), .ref (ad 6), .int (nI (f 7)), .int (nI (f 8)), .int (nI (f 9)), .int (nI (f 10)), .int (nI (f 11)), .int (nI (f 12)), .int (nI (f 13)), .ref (ad 7), .ref (ad 8), .ref (ad 9), .ref (ad 10), .ref (ad 11), .int (nI (f 19)), .int (nI (f 20)), .int (nI (f 21)), .ref (ad 12)])), (ad 1, .inl (ka 1, 5, .inl (nA (g 1)))), (ad 2, .inl (ka 2, 40, .inl (nA (g 2)))), (ad 3, .inl (ka 3, 160, .inl (nA (g 3)))), (ad 4, .inl (ka 4, 4, .inl (nA (g 4)))), (ad 5, .inl (ka 5, 4, .inl (nA (g 5)))), (ad 6, .inl (ka 6, 200, .inl (nA (g 6)))), (ad 7, .inl (ka 7, 12001, .inr (.inl (lA t)))), (ad 8, .inl (ka 8, 12001, .inl (nA (g 8)))), (ad 9, .inl (ka 9, 12001, .inl (nA (g 9)))), (ad 10, .inl (ka 10, 12001, .inl (nA (g 10)))), (ad 11, .inl (ka 11, 32768, .inl (nA (g 11)))), (ad 12, .inl (ka 12, 64, .inl (nA (g 12))))] s.heap := hP
  have hD : va_D Ar [(ad 0, .inr (5, [.ref (ad 1), .ref (ad 2), .ref (ad 3), .ref (ad 4), .ref (ad 5), .int (nI (f 5)), .ref (ad 6), .int (nI (f 7)), .int (nI (f 8)), .int (nI (f 9)), .int (nI (f 10)), .int (nI (f 11)), .int (nI (f 12)), .int (nI (f 13)), .ref (ad 7), .ref (ad 8), .ref (ad 9), .ref (ad 10), .ref (ad 11), .int (nI (f 19)), .int (nI (f 20)), .int (nI (f 21)), .ref (ad 12)])), (ad 1, .inl (ka 1, 5, .inl (nA (g 1)))), (ad 2, .inl (ka 2, 40, .inl (nA (g 2)))), (ad 3, .inl (ka 3, 160, .inl (nA (g 3)))), (ad 4, .inl (ka 4, 4, .inl (nA (g 4)))), (ad 5, .inl (ka 5, 4, .inl (nA (g 5)))), (ad 6, .inl (ka 6, 200, .inl (nA (g 6)))), (ad 7, .inl (ka 7, 12001, .inr (.inl (lA t)))), (ad 8, .inl (ka 8, 12001, .inl (nA (g 8)))), (ad 9, .inl (ka 9, 12001, .inl (nA (g 9)))), (ad 10, .inl (ka 10, 12001, .inl (nA (g 10)))), (ad 11, .inl (ka 11, 32768, .inl (nA (g 11)))), (ad 12, .inl (ka 12, 64, .inl (nA (g 12))))] := hD
  generalize hQ : MQ _ _ _ _ _ _ _ = Q
  have hl := lv_entry ([.ref (ad 0), .int (nI w), .int (nI v), .int (nI q)]) (n := 4) (Nat.le_of_ble_eq_true rfl)
  rw [lg_entry_eq]
  generalize (lg_sl ([.ref (ad 0), .int (nI w), .int (nI v), .int (nI q)]) ++ List.replicate (4 - (lg_sl ([.ref (ad 0), .int (nI w), .int (nI v), .int (nI q)])).length) Slot.unset).toArray = ls at hl ⊢
  have hl : lv_has ls 4 [(0, .ref (ad 0)), (1, .int (nI w)), (2, .int (nI v)), (3, .int (nI q))] := hl
  refine lv_iload_n hx hb dX5_word_0 rfl (lv_at hl 1 rfl) ?_
  refine lv_iconst (v := nI 0) hx hb dX5_word_1 (by decide) ?_
  refine lv_iconst (v := nI 3) hx hb dX5_word_2 (by decide) ?_
  refine cSi (As := [.int (nI w), .int (nI 0), .int (nI 3)]) (rest := []) ⟨hx, hb, hml, hown, hts⟩ (c_X5_isIn l  w 0 3 (by omega) (by omega) (by omega)) (va_cwS 3 hts (gS mU_116 mU_117 mU_6 mU_118) rfl rfl rfl (by decide +kernel) ⟨Nat.le_of_ble_eq_true rfl, Nat.le_of_ble_eq_true rfl⟩) fbU (fun _ _ _ => trivial) rfl hl.1 rfl (Nat.le_of_ble_eq_true rfl) dX5_word_3 ⟨Nat.zero_le _, Nat.zero_le _⟩ ?_
  refine lv_if_eq (tgt := 28) hx hb dX5_word_6 (by decide) (fun c6_1 => ?_) (fun c6_1 => ?_)
  · have c6_1 : ¬ (0 ≤ w ∧ w ≤ 3) := bP_f c6_1
    refine lv_iconst (v := nI 0) hx hb dX5_word_28 (by decide) ?_
    subst hQ
    exact rwz (f, g, t) hx hb hr hlocks rfl (⟨fun h9 => absurd h9 (by omega), fun _ => ⟨rfl, rfl⟩⟩) hP hK hD hS dX5_word_29
  · have c6_1 : 0 ≤ w ∧ w ≤ 3 := bP_t c6_1
    refine lv_iload_n hx hb dX5_word_9 rfl (lv_at hl 2 rfl) ?_
    refine lv_iconst (v := nI 0) hx hb dX5_word_10 (by decide) ?_
    refine lv_iconst (v := nI 3) hx hb dX5_word_11 (by decide) ?_
    refine cSi (As := [.int (nI v), .int (nI 0), .int (nI 3)]) (rest := []) ⟨hx, hb, hml, hown, hts⟩ (c_X5_isIn l  v 0 3 (by omega) (by omega) (by omega)) (va_cwS 3 hts (gS mU_116 mU_117 mU_6 mU_118) rfl rfl rfl (by decide +kernel) ⟨Nat.le_of_ble_eq_true rfl, Nat.le_of_ble_eq_true rfl⟩) fbU (fun _ _ _ => trivial) rfl hl.1 rfl (Nat.le_of_ble_eq_true rfl) dX5_word_12 ⟨Nat.zero_le _, Nat.zero_le _⟩ ?_
    refine lv_if_eq (tgt := 28) hx hb dX5_word_15 (by decide) (fun c15_2 => ?_) (fun c15_2 => ?_)
    · have c15_2 : ¬ (0 ≤ v ∧ v ≤ 3) := bP_f c15_2
      refine lv_iconst (v := nI 0) hx hb dX5_word_28 (by decide) ?_
      subst hQ
      exact rwz (f, g, t) hx hb hr hlocks rfl (⟨fun h9 => absurd h9 (by omega), fun _ => ⟨rfl, rfl⟩⟩) hP hK hD hS dX5_word_29
    · have c15_2 : 0 ≤ v ∧ v ≤ 3 := bP_t c15_2
      refine lv_iload_n hx hb dX5_word_18 rfl (lv_at hl 3 rfl) ?_
      refine lv_iconst (v := nI 0) hx hb dX5_word_19 (by decide) ?_
      refine lv_bipush (v := nI 7) hx hb dX5_word_20 (by decide) ?_
      refine cSi (As := [.int (nI q), .int (nI 0), .int (nI 7)]) (rest := []) ⟨hx, hb, hml, hown, hts⟩ (c_X5_isIn l  q 0 7 (by omega) (by omega) (by omega)) (va_cwS 3 hts (gS mU_116 mU_117 mU_6 mU_118) rfl rfl rfl (by decide +kernel) ⟨Nat.le_of_ble_eq_true rfl, Nat.le_of_ble_eq_true rfl⟩) fbU (fun _ _ _ => trivial) rfl hl.1 rfl (Nat.le_of_ble_eq_true rfl) dX5_word_22 ⟨Nat.zero_le _, Nat.zero_le _⟩ ?_
      refine lv_if_ne (tgt := 30) hx hb dX5_word_25 (by decide) (fun c25_3 => ?_) (fun c25_3 => ?_)
      · have c25_3 : 0 ≤ q ∧ q ≤ 7 := bP_t c25_3
        refine lv_aload_n hx hb dX5_word_30 rfl (lv_at hl 0 rfl) ?_
        refine va_get (D := D) (ci := 5) (v := .ref (ad 4)) (C := RX5) (T := TX5) (N := 23) hx hb hU iX5 hown hK hP 0 rfl rfl 3 (by decide) (hU _ mU_78) (fun _ h9 => h9) rfl dX5_word_31 ?_
        refine lv_iload_n hx hb dX5_word_34 rfl (lv_at hl 1 rfl) ?_
        refine lv_iload_n hx hb dX5_word_35 rfl (lv_at hl 2 rfl) ?_
        refine n_iast hx hb hK hP hD hS 4 3 rfl rfl (i := w) (v := v) (by omega) (by decide) dX5_word_36 (fun H locs hP hD hS => ?_)
        have hP : va_P D vwCl [(ad 0, .inr (5, [.ref (ad 1), .ref (ad 2), .ref (ad 3), .ref (ad 4), .ref (ad 5), .int (nI (f 5)), .ref (ad 6), .int (nI (f 7)), .int (nI (f 8)), .int (nI (f 9)), .int (nI (f 10)), .int (nI (f 11)), .int (nI (f 12)), .int (nI (f 13)), .ref (ad 7), .ref (ad 8), .ref (ad 9), .ref (ad 10), .ref (ad 11), .int (nI (f 19)), .int (nI (f 20)), .int (nI (f 21)), .ref (ad 12)])), (ad 1, .inl (ka 1, 5, .inl (nA (g 1)))), (ad 2, .inl (ka 2, 40, .inl (nA (g 2)))), (ad 3, .inl (ka 3, 160, .inl (nA (g 3)))), (ad 4, .inl (ka 4, 4, .inl (nA (upN (g 4) w v)))), (ad 5, .inl (ka 5, 4, .inl (nA (g 5)))), (ad 6, .inl (ka 6, 200, .inl (nA (g 6)))), (ad 7, .inl (ka 7, 12001, .inr (.inl (lA t)))), (ad 8, .inl (ka 8, 12001, .inl (nA (g 8)))), (ad 9, .inl (ka 9, 12001, .inl (nA (g 9)))), (ad 10, .inl (ka 10, 12001, .inl (nA (g 10)))), (ad 11, .inl (ka 11, 32768, .inl (nA (g 11)))), (ad 12, .inl (ka 12, 64, .inl (nA (g 12))))] H := hP
        have hD : va_D Ar [(ad 0, .inr (5, [.ref (ad 1), .ref (ad 2), .ref (ad 3), .ref (ad 4), .ref (ad 5), .int (nI (f 5)), .ref (ad 6), .int (nI (f 7)), .int (nI (f 8)), .int (nI (f 9)), .int (nI (f 10)), .int (nI (f 11)), .int (nI (f 12)), .int (nI (f 13)), .ref (ad 7), .ref (ad 8), .ref (ad 9), .ref (ad 10), .ref (ad 11), .int (nI (f 19)), .int (nI (f 20)), .int (nI (f 21)), .ref (ad 12)])), (ad 1, .inl (ka 1, 5, .inl (nA (g 1)))), (ad 2, .inl (ka 2, 40, .inl (nA (g 2)))), (ad 3, .inl (ka 3, 160, .inl (nA (g 3)))), (ad 4, .inl (ka 4, 4, .inl (nA (upN (g 4) w v)))), (ad 5, .inl (ka 5, 4, .inl (nA (g 5)))), (ad 6, .inl (ka 6, 200, .inl (nA (g 6)))), (ad 7, .inl (ka 7, 12001, .inr (.inl (lA t)))), (ad 8, .inl (ka 8, 12001, .inl (nA (g 8)))), (ad 9, .inl (ka 9, 12001, .inl (nA (g 9)))), (ad 10, .inl (ka 10, 12001, .inl (nA (g 10)))), (ad 11, .inl (ka 11, 32768, .inl (nA (g 11)))), (ad 12, .inl (ka 12, 64, .inl (nA (g 12))))] := hD
        refine lv_aload_n hx hb dX5_word_37 rfl (lv_at hl 0 rfl) ?_
        refine va_get (D := D) (ci := 5) (v := .ref (ad 5)) (C := RX5) (T := TX5) (N := 23) hx hb hU iX5 hown hK hP 0 rfl rfl 4 (by decide) (hU _ mU_79) (fun _ h9 => h9) rfl dX5_word_38 ?_
        refine lv_iload_n hx hb dX5_word_41 rfl (lv_at hl 1 rfl) ?_
        refine lv_iload_n hx hb dX5_word_42 rfl (lv_at hl 3 rfl) ?_
        refine n_iast hx hb hK hP hD hS 5 4 rfl rfl (i := w) (v := q) (by omega) (by decide) dX5_word_43 (fun H locs hP hD hS => ?_)
        have hP : va_P D vwCl [(ad 0, .inr (5, [.ref (ad 1), .ref (ad 2), .ref (ad 3), .ref (ad 4), .ref (ad 5), .int (nI (f 5)), .ref (ad 6), .int (nI (f 7)), .int (nI (f 8)), .int (nI (f 9)), .int (nI (f 10)), .int (nI (f 11)), .int (nI (f 12)), .int (nI (f 13)), .ref (ad 7), .ref (ad 8), .ref (ad 9), .ref (ad 10), .ref (ad 11), .int (nI (f 19)), .int (nI (f 20)), .int (nI (f 21)), .ref (ad 12)])), (ad 1, .inl (ka 1, 5, .inl (nA (g 1)))), (ad 2, .inl (ka 2, 40, .inl (nA (g 2)))), (ad 3, .inl (ka 3, 160, .inl (nA (g 3)))), (ad 4, .inl (ka 4, 4, .inl (nA (upN (g 4) w v)))), (ad 5, .inl (ka 5, 4, .inl (nA (upN (g 5) w q)))), (ad 6, .inl (ka 6, 200, .inl (nA (g 6)))), (ad 7, .inl (ka 7, 12001, .inr (.inl (lA t)))), (ad 8, .inl (ka 8, 12001, .inl (nA (g 8)))), (ad 9, .inl (ka 9, 12001, .inl (nA (g 9)))), (ad 10, .inl (ka 10, 12001, .inl (nA (g 10)))), (ad 11, .inl (ka 11, 32768, .inl (nA (g 11)))), (ad 12, .inl (ka 12, 64, .inl (nA (g 12))))] H := hP
        have hD : va_D Ar [(ad 0, .inr (5, [.ref (ad 1), .ref (ad 2), .ref (ad 3), .ref (ad 4), .ref (ad 5), .int (nI (f 5)), .ref (ad 6), .int (nI (f 7)), .int (nI (f 8)), .int (nI (f 9)), .int (nI (f 10)), .int (nI (f 11)), .int (nI (f 12)), .int (nI (f 13)), .ref (ad 7), .ref (ad 8), .ref (ad 9), .ref (ad 10), .ref (ad 11), .int (nI (f 19)), .int (nI (f 20)), .int (nI (f 21)), .ref (ad 12)])), (ad 1, .inl (ka 1, 5, .inl (nA (g 1)))), (ad 2, .inl (ka 2, 40, .inl (nA (g 2)))), (ad 3, .inl (ka 3, 160, .inl (nA (g 3)))), (ad 4, .inl (ka 4, 4, .inl (nA (upN (g 4) w v)))), (ad 5, .inl (ka 5, 4, .inl (nA (upN (g 5) w q)))), (ad 6, .inl (ka 6, 200, .inl (nA (g 6)))), (ad 7, .inl (ka 7, 12001, .inr (.inl (lA t)))), (ad 8, .inl (ka 8, 12001, .inl (nA (g 8)))), (ad 9, .inl (ka 9, 12001, .inl (nA (g 9)))), (ad 10, .inl (ka 10, 12001, .inl (nA (g 10)))), (ad 11, .inl (ka 11, 32768, .inl (nA (g 11)))), (ad 12, .inl (ka 12, 64, .inl (nA (g 12))))] := hD
        refine lv_aload_n hx hb dX5_word_44 rfl (lv_at hl 0 rfl) ?_
        refine lv_iconst (v := nI 0) hx hb dX5_word_45 (by decide) ?_
        refine va_put (D := D) (ci := 5) (v := .int (nI 0)) (ty := .boolean) (C := RX5) (T := TX5) (N := 23) hx hb hU iX5 tyX5 tyX5_ok nmX5 hown hK hP hD hS 0 rfl rfl 20 (by decide) (hU _ mU_248) (fun _ h9 => h9) rfl (by decide +kernel) rfl rfl (Nat.le_of_ble_eq_true rfl) dX5_word_46 (fun H locs hP hD hS => ?_)
        have hP : va_P D vwCl [(ad 0, .inr (5, [.ref (ad 1), .ref (ad 2), .ref (ad 3), .ref (ad 4), .ref (ad 5), .int (nI (f 5)), .ref (ad 6), .int (nI (f 7)), .int (nI (f 8)), .int (nI (f 9)), .int (nI (f 10)), .int (nI (f 11)), .int (nI (f 12)), .int (nI (f 13)), .ref (ad 7), .ref (ad 8), .ref (ad 9), .ref (ad 10), .ref (ad 11), .int (nI (f 19)), .int (nI 0), .int (nI (f 21)), .ref (ad 12)])), (ad 1, .inl (ka 1, 5, .inl (nA (g 1)))), (ad 2, .inl (ka 2, 40, .inl (nA (g 2)))), (ad 3, .inl (ka 3, 160, .inl (nA (g 3)))), (ad 4, .inl (ka 4, 4, .inl (nA (upN (g 4) w v)))), (ad 5, .inl (ka 5, 4, .inl (nA (upN (g 5) w q)))), (ad 6, .inl (ka 6, 200, .inl (nA (g 6)))), (ad 7, .inl (ka 7, 12001, .inr (.inl (lA t)))), (ad 8, .inl (ka 8, 12001, .inl (nA (g 8)))), (ad 9, .inl (ka 9, 12001, .inl (nA (g 9)))), (ad 10, .inl (ka 10, 12001, .inl (nA (g 10)))), (ad 11, .inl (ka 11, 32768, .inl (nA (g 11)))), (ad 12, .inl (ka 12, 64, .inl (nA (g 12))))] H := hP
        have hD : va_D Ar [(ad 0, .inr (5, [.ref (ad 1), .ref (ad 2), .ref (ad 3), .ref (ad 4), .ref (ad 5), .int (nI (f 5)), .ref (ad 6), .int (nI (f 7)), .int (nI (f 8)), .int (nI (f 9)), .int (nI (f 10)), .int (nI (f 11)), .int (nI (f 12)), .int (nI (f 13)), .ref (ad 7), .ref (ad 8), .ref (ad 9), .ref (ad 10), .ref (ad 11), .int (nI (f 19)), .int (nI 0), .int (nI (f 21)), .ref (ad 12)])), (ad 1, .inl (ka 1, 5, .inl (nA (g 1)))), (ad 2, .inl (ka 2, 40, .inl (nA (g 2)))), (ad 3, .inl (ka 3, 160, .inl (nA (g 3)))), (ad 4, .inl (ka 4, 4, .inl (nA (upN (g 4) w v)))), (ad 5, .inl (ka 5, 4, .inl (nA (upN (g 5) w q)))), (ad 6, .inl (ka 6, 200, .inl (nA (g 6)))), (ad 7, .inl (ka 7, 12001, .inr (.inl (lA t)))), (ad 8, .inl (ka 8, 12001, .inl (nA (g 8)))), (ad 9, .inl (ka 9, 12001, .inl (nA (g 9)))), (ad 10, .inl (ka 10, 12001, .inl (nA (g 10)))), (ad 11, .inl (ka 11, 32768, .inl (nA (g 11)))), (ad 12, .inl (ka 12, 64, .inl (nA (g 12))))] := hD
        refine lv_iconst (v := nI 1) hx hb dX5_word_49 (by decide) ?_
        subst hQ
        exact rwz (upN (f) 20 (0), upA (upA (g) 4 (upN (g 4) w v)) 5 (upN (g 5) w q), t) hx hb hr hlocks rfl (⟨fun _ => ⟨rfl, rfl⟩, fun h9 => absurd (by omega) h9⟩) hP hK hD hS dX5_word_50
      · have c25_3 : ¬ (0 ≤ q ∧ q ≤ 7) := bP_f c25_3
        refine lv_iconst (v := nI 0) hx hb dX5_word_28 (by decide) ?_
        subst hQ
        exact rwz (f, g, t) hx hb hr hlocks rfl (⟨fun h9 => absurd h9 (by omega), fun _ => ⟨rfl, rfl⟩⟩) hP hK hD hS dX5_word_29

set_option maxHeartbeats 4000000 in
set_option maxRecDepth 100000 in
theorem c_X5_both (l : Launch) (D : va_G) (ad : Nat → Nat) (ka : Nat → ClassId) (f : Nat → Nat) (g : Nat → Nat → Nat) (t : Nat → Nat) (sz : Nat) (pa : Nat) (pb : Nat) (hI : MInv f g t) (ha9 : pa < 4294967296) (hb9 : pb < 4294967296) : Met l yX5_both (.code yX5_both cX5_both 3 (some .int) :: wsL_law) ({ frames := 7, cells := 0, slots := 0, locals := 171 }) (va_Pc [.ref (ad 0), .int (nI pa), .int (nI pb)] (PW D (mW ad ka f g t) (mT ka) sz)) (va_Qi (fun (r : Int32) (u : MSt) => (¬ (pa ≤ g 1 0 ∧ pb ≤ g 1 1) → r = nI 4294967295 ∧ u = (f, g, t)) ∧ (pa ≤ g 1 0 ∧ pb ≤ g 1 1 → ∃ f1 g1 t1, sameM f f1 g g1 ∧ MBase f1 g1 ∧ Walked f1 g1 t1 ∧ f1 20 ≠ 0 ∧ (¬ f1 19 ≤ 12000 → r = nI 4294967294 ∧ u = (f1, g1, t1)) ∧ (f1 19 ≤ 12000 → keepPost f1 g1 t1 (findN (fun i => decide (bitsN (t1 i) 16 3 = pa ∧ bitsN (t1 i) 19 3 = pb)) (f1 19)) r u))) (QW D (fun u : MSt => mW ad ka u.1 u.2.1 u.2.2) (fun _ => mT ka) (va_A (mW ad ka f g t) sz)) (va_A (mW ad ka f g t) sz)) 0 0 (va_A (mW ad ka f g t) sz) := by
  refine Met.ofW (cc := cX5_both) (maxL := 3) (ret := (some .int)) (by decide) rfl ?_
  intro p e s m args below meth c s₁ B hml hv
  obtain ⟨rfl, hsz, hP, hK, hD0⟩ := hv
  have hx := B.exec
  have hb := B.bytes
  have hr := B.returns
  have hts := atoms_spec (ws := .code yX5_both cX5_both 3 (some .int) :: wsL_law) B.pre
  have hU : ∀ w ∈ wsL_law, w.before _ s = true := fun w h => hts w (List.mem_cons_of_mem _ h)
  have hown : s.vm.findClass RX5 = some m.cls := findClass_of_methodNamed B.named
  have hlocks := B.notSynchronized
  subst hsz
  have hD := hD0.self (sz := s.heap.size)
  generalize hAe : va_A (mW ad ka f g t) s.heap.size = Ar at hD ⊢
  have hA : ∀ q : Nat, s.heap.size ≤ q → Ar q := fun q h => by rw [← hAe]; exact Or.inr h
  have hS : va_S Ar s.heap s.heap [] := va_S.rf
  have hP : va_P D vwCl [(ad 0, .inr (5, [.ref (ad 1), .ref (ad 2), .ref (ad 3), .ref (ad 4), .ref (ad 5), .int (nI (f 5)), .ref (ad 6), .int (nI (f 7)), .int (nI (f 8)), .int (nI (f 9)), .int (nI (f 10)), .int (nI (f 11)), .int (nI (f 12)), .int (nI (f 13)), .ref (ad 7), .ref (ad 8), .ref (ad 9), .ref (ad 10), .ref (ad 11), .int (nI (f 19)), .int (nI (f 20)), .int (nI (f 21)), .ref (ad 12)])), (ad 1, .inl (ka 1, 5, .inl (nA (g 1)))), (ad 2, .inl (ka 2, 40, .inl (nA (g 2)))), (ad 3, .inl (ka 3, 160, .inl (nA (g 3)))), (ad 4, .inl (ka 4, 4, .inl (nA (g 4)))), (ad 5, .inl (ka 5, 4, .inl (nA (g 5)))), (ad 6, .inl (ka 6, 200, .inl (nA (g 6)))), (ad 7, .inl (ka 7, 12001, .inr (.inl (lA t)))), (ad 8, .inl (ka 8, 12001, .inl (nA (g 8)))), (ad 9, .inl (ka 9, 12001, .inl (nA (g 9)))), (ad 10, .inl (ka 10, 12001, .inl (nA (g 10)))), (ad 11, .inl (ka 11, 32768, .inl (nA (g 11)))), (ad 12, .inl (ka 12, 64, .inl (nA (g 12))))] s.heap := hP
  have hD : va_D Ar [(ad 0, .inr (5, [.ref (ad 1), .ref (ad 2), .ref (ad 3), .ref (ad 4), .ref (ad 5), .int (nI (f 5)), .ref (ad 6), .int (nI (f 7)), .int (nI (f 8)), .int (nI (f 9)), .int (nI (f 10)), .int (nI (f 11)), .int (nI (f 12)), .int (nI (f 13)), .ref (ad 7), .ref (ad 8), .ref (ad 9), .ref (ad 10), .ref (ad 11), .int (nI (f 19)), .int (nI (f 20)), .int (nI (f 21)), .ref (ad 12)])), (ad 1, .inl (ka 1, 5, .inl (nA (g 1)))), (ad 2, .inl (ka 2, 40, .inl (nA (g 2)))), (ad 3, .inl (ka 3, 160, .inl (nA (g 3)))), (ad 4, .inl (ka 4, 4, .inl (nA (g 4)))), (ad 5, .inl (ka 5, 4, .inl (nA (g 5)))), (ad 6, .inl (ka 6, 200, .inl (nA (g 6)))), (ad 7, .inl (ka 7, 12001, .inr (.inl (lA t)))), (ad 8, .inl (ka 8, 12001, .inl (nA (g 8)))), (ad 9, .inl (ka 9, 12001, .inl (nA (g 9)))), (ad 10, .inl (ka 10, 12001, .inl (nA (g 10)))), (ad 11, .inl (ka 11, 32768, .inl (nA (g 11)))), (ad 12, .inl (ka 12, 64, .inl (nA (g 12))))] := hD
  generalize hQ : MQ _ _ _ _ _ _ _ = Q
  have hl := lv_entry ([.ref (ad 0), .int (nI pa), .int (nI pb)]) (n := 3) (Nat.le_of_ble_eq_true rfl)
  rw [lg_entry_eq]
  generalize (lg_sl ([.ref (ad 0), .int (nI pa), .int (nI pb)]) ++ List.replicate (3 - (lg_sl ([.ref (ad 0), .int (nI pa), .int (nI pb)])).length) Slot.unset).toArray = ls at hl ⊢
  have hl : lv_has ls 3 [(0, .ref (ad 0)), (1, .int (nI pa)), (2, .int (nI pb))] := hl
  have hl0 := (hI.1.1 0 (by decide)).1
  have hl1 := (hI.1.1 1 (by decide)).1
  refine lv_iload_n hx hb dX5_both_0 rfl (lv_at hl 1 rfl) ?_
  refine lv_iconst (v := nI 0) hx hb dX5_both_1 (by decide) ?_
  refine lv_aload_n hx hb dX5_both_2 rfl (lv_at hl 0 rfl) ?_
  refine va_get (D := D) (ci := 5) (v := .ref (ad 1)) (C := RX5) (T := TX5) (N := 23) hx hb hU iX5 hown hK hP 0 rfl rfl 0 (by decide) (hU _ mU_75) (fun _ h9 => h9) rfl dX5_both_3 ?_
  refine lv_iconst (v := nI 0) hx hb dX5_both_6 (by decide) ?_
  refine n_iald hx hb hK hP 1 0 rfl rfl (i := 0) (by omega) (by decide) dX5_both_7 ?_
  refine cSi (As := [.int (nI pa), .int (nI 0), .int (nI ((g 1) 0))]) (rest := []) ⟨hx, hb, hml, hown, hts⟩ (c_X5_isIn l  pa 0 ((g 1) 0) (by omega) (by omega) (by omega)) (va_cwS 3 hts (gS mU_116 mU_117 mU_6 mU_118) rfl rfl rfl (by decide +kernel) ⟨Nat.le_of_ble_eq_true rfl, Nat.le_of_ble_eq_true rfl⟩) fbU (fun _ _ _ => trivial) rfl hl.1 rfl (Nat.le_of_ble_eq_true rfl) dX5_both_8 ⟨Nat.zero_le _, Nat.zero_le _⟩ ?_
  refine lv_if_eq (tgt := 28) hx hb dX5_both_11 (by decide) (fun c11_1 => ?_) (fun c11_1 => ?_)
  · have c11_1 : ¬ (0 ≤ pa ∧ pa ≤ ((g 1) 0)) := bP_f c11_1
    refine lv_iconst (v := nI 4294967295) hx hb dX5_both_28 (by decide) ?_
    subst hQ
    exact rwi (f, g, t) hx hb hr hlocks (⟨fun _ => ⟨rfl, rfl⟩, fun h9 => absurd h9 (by omega)⟩) hP hK hD hS dX5_both_29
  · have c11_1 : 0 ≤ pa ∧ pa ≤ ((g 1) 0) := bP_t c11_1
    refine lv_iload_n hx hb dX5_both_14 rfl (lv_at hl 2 rfl) ?_
    refine lv_iconst (v := nI 0) hx hb dX5_both_15 (by decide) ?_
    refine lv_aload_n hx hb dX5_both_16 rfl (lv_at hl 0 rfl) ?_
    refine va_get (D := D) (ci := 5) (v := .ref (ad 1)) (C := RX5) (T := TX5) (N := 23) hx hb hU iX5 hown hK hP 0 rfl rfl 0 (by decide) (hU _ mU_75) (fun _ h9 => h9) rfl dX5_both_17 ?_
    refine lv_iconst (v := nI 1) hx hb dX5_both_20 (by decide) ?_
    refine n_iald hx hb hK hP 1 0 rfl rfl (i := 1) (by omega) (by decide) dX5_both_21 ?_
    refine cSi (As := [.int (nI pb), .int (nI 0), .int (nI ((g 1) 1))]) (rest := []) ⟨hx, hb, hml, hown, hts⟩ (c_X5_isIn l  pb 0 ((g 1) 1) (by omega) (by omega) (by omega)) (va_cwS 3 hts (gS mU_116 mU_117 mU_6 mU_118) rfl rfl rfl (by decide +kernel) ⟨Nat.le_of_ble_eq_true rfl, Nat.le_of_ble_eq_true rfl⟩) fbU (fun _ _ _ => trivial) rfl hl.1 rfl (Nat.le_of_ble_eq_true rfl) dX5_both_22 ⟨Nat.zero_le _, Nat.zero_le _⟩ ?_
    refine lv_if_ne (tgt := 30) hx hb dX5_both_25 (by decide) (fun c25_2 => ?_) (fun c25_2 => ?_)
    · have c25_2 : 0 ≤ pb ∧ pb ≤ ((g 1) 1) := bP_t c25_2
      refine lv_aload_n hx hb dX5_both_30 rfl (lv_at hl 0 rfl) ?_
      refine kVi (As := []) (rest := []) (wr := []) ⟨hx, hb, hml, hown, hts⟩ (c_X5_isWalked l D ad ka f g t s.heap.size  (show MInv f g t from hI)) (cwV 0 hts (gV mU_468 mU_469 mU_470 mU_6 mU_471) rfl rfl rfl (by decide +kernel) ⟨Nat.le_of_ble_eq_true rfl, Nat.le_of_ble_eq_true rfl⟩) (va_recv hK hP (ci := 5) (q0 := 0) rfl rfl) hP hK hD hS hA [0, 1, 2, 3, 4, 5, 6, 7, 8, 9, 10, 11, 12] [] [0, 1, 2, 3, 4, 5, 6, 7, 8, 9, 10, 11] [] rfl rfl rfl rfl (by decide) rfl rfl rfl hl.1 rfl (Nat.le_of_ble_eq_true rfl) dX5_both_31 ⟨by decide, by decide⟩ (fun r_4 u H locs hw hP hD hK hS => ?_)
      obtain ⟨f3, g3, t3⟩ := u
      obtain ⟨hr3, hsm3, hMB3, hWk3, h203⟩ := hw
      subst hr3
      have hsm3 : sameM f f3 g g3 := hsm3
      have hMB3 : MBase f3 g3 := hMB3
      have hWk3 : Walked f3 g3 t3 := hWk3
      have h203 : f3 20 ≠ 0 := h203
      have hP : va_P D vwCl [(ad 0, .inr (5, [.ref (ad 1), .ref (ad 2), .ref (ad 3), .ref (ad 4), .ref (ad 5), .int (nI (f3 5)), .ref (ad 6), .int (nI (f3 7)), .int (nI (f3 8)), .int (nI (f3 9)), .int (nI (f3 10)), .int (nI (f3 11)), .int (nI (f3 12)), .int (nI (f3 13)), .ref (ad 7), .ref (ad 8), .ref (ad 9), .ref (ad 10), .ref (ad 11), .int (nI (f3 19)), .int (nI (f3 20)), .int (nI (f3 21)), .ref (ad 12)])), (ad 1, .inl (ka 1, 5, .inl (nA (g3 1)))), (ad 2, .inl (ka 2, 40, .inl (nA (g3 2)))), (ad 3, .inl (ka 3, 160, .inl (nA (g3 3)))), (ad 4, .inl (ka 4, 4, .inl (nA (g3 4)))), (ad 5, .inl (ka 5, 4, .inl (nA (g3 5)))), (ad 6, .inl (ka 6, 200, .inl (nA (g3 6)))), (ad 7, .inl (ka 7, 12001, .inr (.inl (lA t3)))), (ad 8, .inl (ka 8, 12001, .inl (nA (g3 8)))), (ad 9, .inl (ka 9, 12001, .inl (nA (g3 9)))), (ad 10, .inl (ka 10, 12001, .inl (nA (g3 10)))), (ad 11, .inl (ka 11, 32768, .inl (nA (g3 11)))), (ad 12, .inl (ka 12, 64, .inl (nA (g3 12))))] H := hP
      have hD : va_D Ar [(ad 0, .inr (5, [.ref (ad 1), .ref (ad 2), .ref (ad 3), .ref (ad 4), .ref (ad 5), .int (nI (f3 5)), .ref (ad 6), .int (nI (f3 7)), .int (nI (f3 8)), .int (nI (f3 9)), .int (nI (f3 10)), .int (nI (f3 11)), .int (nI (f3 12)), .int (nI (f3 13)), .ref (ad 7), .ref (ad 8), .ref (ad 9), .ref (ad 10), .ref (ad 11), .int (nI (f3 19)), .int (nI (f3 20)), .int (nI (f3 21)), .ref (ad 12)])), (ad 1, .inl (ka 1, 5, .inl (nA (g3 1)))), (ad 2, .inl (ka 2, 40, .inl (nA (g3 2)))), (ad 3, .inl (ka 3, 160, .inl (nA (g3 3)))), (ad 4, .inl (ka 4, 4, .inl (nA (g3 4)))), (ad 5, .inl (ka 5, 4, .inl (nA (g3 5)))), (ad 6, .inl (ka 6, 200, .inl (nA (g3 6)))), (ad 7, .inl (ka 7, 12001, .inr (.inl (lA t3)))), (ad 8, .inl (ka 8, 12001, .inl (nA (g3 8)))), (ad 9, .inl (ka 9, 12001, .inl (nA (g3 9)))), (ad 10, .inl (ka 10, 12001, .inl (nA (g3 10)))), (ad 11, .inl (ka 11, 32768, .inl (nA (g3 11)))), (ad 12, .inl (ka 12, 64, .inl (nA (g3 12))))] := hD
      have hK : va_K D vwCl (mT ka) s := hK.sub [0, 1, 2, 3, 4, 5, 6, 7, 8, 9, 10, 11] rfl
      refine lv_if_eq (tgt := 50) hx hb dX5_both_34 (by decide) (fun c34_5 => ?_) (fun c34_5 => ?_)
      · have c34_5 : ¬ (f3 19 ≤ 12000) := bP_f c34_5
        refine lv_bipush (v := nI 4294967294) hx hb dX5_both_50 (by decide) ?_
        subst hQ
        exact rwi (f3, g3, t3) hx hb hr hlocks (⟨fun h9 => absurd (by omega) h9, fun _ => ⟨f3, g3, t3, hsm3, hMB3, hWk3, h203, fun _ => ⟨rfl, rfl⟩, fun h9 => absurd h9 c34_5⟩⟩) hP hK hD hS dX5_both_52
      · have c34_5 : f3 19 ≤ 12000 := bP_t c34_5
        refine lv_aload_n hx hb dX5_both_37 rfl (lv_at hl 0 rfl) ?_
        refine lv_aload_n hx hb dX5_both_38 rfl (lv_at hl 0 rfl) ?_
        refine lv_iload_n hx hb dX5_both_39 rfl (lv_at hl 1 rfl) ?_
        refine lv_iload_n hx hb dX5_both_40 rfl (lv_at hl 2 rfl) ?_
        refine cVi (As := [.int (nI pa), .int (nI pb)]) (rest := [.ref (ad 0)]) ⟨hx, hb, hml, hown, hts⟩ (c_X5_findBoth l D ad ka f3 g3 t3 pa pb (show ∀ a, a < 6 → ∀ i, g3 a i < 2147483648 from hMB3.2.1) (show ∀ i, i < (f3 19) → wfM g3 (t3 i) from fun i hi => (hWk3.2.1.2 i hi).1) (show (f3 19) ≤ 12001 from hWk3.2.1.1) (show pa < 8 from by omega) (show pb < 8 from by omega)) (cwV 2 hts (gV mU_592 mU_593 mU_594 mU_6 mU_595) rfl rfl rfl (by decide +kernel) ⟨Nat.le_of_ble_eq_true rfl, Nat.le_of_ble_eq_true rfl⟩) fbR (va_recv hK hP (ci := 5) (q0 := 0) rfl rfl) (PR.of hP hK) rfl hl.1 rfl (Nat.le_of_ble_eq_true rfl) dX5_both_41 ⟨Nat.zero_le _, Nat.zero_le _⟩ ?_
        refine kVi (As := [.int (nI (findN (fun i => decide (bitsN (t3 i) 16 3 = pa ∧ bitsN (t3 i) 19 3 = pb)) ((f3 19))))]) (rest := []) (wr := []) ⟨hx, hb, hml, hown, hts⟩ (c_X5_keep l D ad ka f3 g3 t3 H.size (findN (fun i => decide (bitsN (t3 i) 16 3 = pa ∧ bitsN (t3 i) 19 3 = pb)) ((f3 19))) (show okL g3 from hWk3.okL hMB3) (show BInv g3 ((f3 19), t3, (g3 8), (g3 9), (g3 10)) from hWk3.2.1) (show (findN (fun i => decide (bitsN (t3 i) 16 3 = pa ∧ bitsN (t3 i) 19 3 = pb)) ((f3 19))) = 4294967295 ∨ (findN (fun i => decide (bitsN (t3 i) 16 3 = pa ∧ bitsN (t3 i) 19 3 = pb)) ((f3 19))) < (f3 19) from findN_or _ _) (show ∀ k, (g3 12) k < 2147483648 from hMB3.2.2.2.2.2.2.2.2.2.2.2)) (cwV 1 hts (gV mU_596 mU_597 mU_598 mU_6 mU_599) rfl rfl rfl (by decide +kernel) ⟨Nat.le_of_ble_eq_true rfl, Nat.le_of_ble_eq_true rfl⟩) (va_recv hK hP (ci := 5) (q0 := 0) rfl rfl) hP hK hD hS hA [0, 1, 2, 3, 4, 5, 6, 7, 8, 9, 10, 11, 12] [] [0, 1, 2, 3, 4, 5, 6, 7, 8, 9, 10, 11] [] rfl rfl rfl rfl (by decide) rfl rfl rfl hl.1 rfl (Nat.le_of_ble_eq_true rfl) dX5_both_44 ⟨by decide, by decide⟩ (fun r_7 u H locs hw hP hD hK hS => ?_)
        obtain ⟨f6, g6, t6⟩ := u
        have hkp6 := hw
        have hP : va_P D vwCl [(ad 0, .inr (5, [.ref (ad 1), .ref (ad 2), .ref (ad 3), .ref (ad 4), .ref (ad 5), .int (nI (f6 5)), .ref (ad 6), .int (nI (f6 7)), .int (nI (f6 8)), .int (nI (f6 9)), .int (nI (f6 10)), .int (nI (f6 11)), .int (nI (f6 12)), .int (nI (f6 13)), .ref (ad 7), .ref (ad 8), .ref (ad 9), .ref (ad 10), .ref (ad 11), .int (nI (f6 19)), .int (nI (f6 20)), .int (nI (f6 21)), .ref (ad 12)])), (ad 1, .inl (ka 1, 5, .inl (nA (g6 1)))), (ad 2, .inl (ka 2, 40, .inl (nA (g6 2)))), (ad 3, .inl (ka 3, 160, .inl (nA (g6 3)))), (ad 4, .inl (ka 4, 4, .inl (nA (g6 4)))), (ad 5, .inl (ka 5, 4, .inl (nA (g6 5)))), (ad 6, .inl (ka 6, 200, .inl (nA (g6 6)))), (ad 7, .inl (ka 7, 12001, .inr (.inl (lA t6)))), (ad 8, .inl (ka 8, 12001, .inl (nA (g6 8)))), (ad 9, .inl (ka 9, 12001, .inl (nA (g6 9)))), (ad 10, .inl (ka 10, 12001, .inl (nA (g6 10)))), (ad 11, .inl (ka 11, 32768, .inl (nA (g6 11)))), (ad 12, .inl (ka 12, 64, .inl (nA (g6 12))))] H := hP
        have hD : va_D Ar [(ad 0, .inr (5, [.ref (ad 1), .ref (ad 2), .ref (ad 3), .ref (ad 4), .ref (ad 5), .int (nI (f6 5)), .ref (ad 6), .int (nI (f6 7)), .int (nI (f6 8)), .int (nI (f6 9)), .int (nI (f6 10)), .int (nI (f6 11)), .int (nI (f6 12)), .int (nI (f6 13)), .ref (ad 7), .ref (ad 8), .ref (ad 9), .ref (ad 10), .ref (ad 11), .int (nI (f6 19)), .int (nI (f6 20)), .int (nI (f6 21)), .ref (ad 12)])), (ad 1, .inl (ka 1, 5, .inl (nA (g6 1)))), (ad 2, .inl (ka 2, 40, .inl (nA (g6 2)))), (ad 3, .inl (ka 3, 160, .inl (nA (g6 3)))), (ad 4, .inl (ka 4, 4, .inl (nA (g6 4)))), (ad 5, .inl (ka 5, 4, .inl (nA (g6 5)))), (ad 6, .inl (ka 6, 200, .inl (nA (g6 6)))), (ad 7, .inl (ka 7, 12001, .inr (.inl (lA t6)))), (ad 8, .inl (ka 8, 12001, .inl (nA (g6 8)))), (ad 9, .inl (ka 9, 12001, .inl (nA (g6 9)))), (ad 10, .inl (ka 10, 12001, .inl (nA (g6 10)))), (ad 11, .inl (ka 11, 32768, .inl (nA (g6 11)))), (ad 12, .inl (ka 12, 64, .inl (nA (g6 12))))] := hD
        have hK : va_K D vwCl (mT ka) s := hK.sub [0, 1, 2, 3, 4, 5, 6, 7, 8, 9, 10, 11] rfl
        refine lv_goto (tgt := 52) hx hb dX5_both_47 (by decide) ?_
        subst hQ
        exact rwi (f6, g6, t6) hx hb hr hlocks (⟨fun h9 => absurd (by omega) h9, fun _ => ⟨f3, g3, t3, hsm3, hMB3, hWk3, h203, fun h9 => absurd c34_5 h9, fun _ => hkp6⟩⟩) hP hK hD hS dX5_both_52
    · have c25_2 : ¬ (0 ≤ pb ∧ pb ≤ ((g 1) 1)) := bP_f c25_2
      refine lv_iconst (v := nI 4294967295) hx hb dX5_both_28 (by decide) ?_
      subst hQ
      exact rwi (f, g, t) hx hb hr hlocks (⟨fun _ => ⟨rfl, rfl⟩, fun h9 => absurd h9 (by omega)⟩) hP hK hD hS dX5_both_29

set_option maxHeartbeats 4000000 in
set_option maxRecDepth 100000 in
theorem c_X5_outcome (l : Launch) (D : va_G) (ad : Nat → Nat) (ka : Nat → ClassId) (f : Nat → Nat) (g : Nat → Nat → Nat) (t : Nat → Nat) (sz : Nat) (va : Nat) (se : Nat) (hI : MInv f g t) (ha9 : va < 4294967296) (hb9 : se < 4294967296) : Met l yX5_outcome (.code yX5_outcome cX5_outcome 3 (some .int) :: wsL_law) ({ frames := 8, cells := 0, slots := 0, locals := 195 }) (va_Pc [.ref (ad 0), .int (nI va), .int (nI se)] (PW D (mW ad ka f g t) (mT ka) sz)) (va_Qi (fun (r : Int32) (u : MSt) => (¬ (va ≤ 255 ∧ se ≤ 15) → r = nI 4294967295 ∧ u = (f, g, t)) ∧ (va ≤ 255 ∧ se ≤ 15 → ∃ f1 g1 t1, sameM f f1 g g1 ∧ MBase f1 g1 ∧ Walked f1 g1 t1 ∧ f1 20 ≠ 0 ∧ (¬ f1 19 ≤ 12000 → r = nI 4294967294 ∧ u = (f1, g1, t1)) ∧ (f1 19 ≤ 12000 → keepPost f1 g1 t1 (findN (fun i => endM (f1 5) g1 va se (t1 i)) (f1 19)) r u))) (QW D (fun u : MSt => mW ad ka u.1 u.2.1 u.2.2) (fun _ => mT ka) (va_A (mW ad ka f g t) sz)) (va_A (mW ad ka f g t) sz)) 0 0 (va_A (mW ad ka f g t) sz) := by
  refine Met.ofW (cc := cX5_outcome) (maxL := 3) (ret := (some .int)) (by decide) rfl ?_
  intro p e s m args below meth c s₁ B hml hv
  obtain ⟨rfl, hsz, hP, hK, hD0⟩ := hv
  have hx := B.exec
  have hb := B.bytes
  have hr := B.returns
  have hts := atoms_spec (ws := .code yX5_outcome cX5_outcome 3 (some .int) :: wsL_law) B.pre
  have hU : ∀ w ∈ wsL_law, w.before _ s = true := fun w h => hts w (List.mem_cons_of_mem _ h)
  have hown : s.vm.findClass RX5 = some m.cls := findClass_of_methodNamed B.named
  have hlocks := B.notSynchronized
  subst hsz
  have hD := hD0.self (sz := s.heap.size)
  generalize hAe : va_A (mW ad ka f g t) s.heap.size = Ar at hD ⊢
  have hA : ∀ q : Nat, s.heap.size ≤ q → Ar q := fun q h => by rw [← hAe]; exact Or.inr h
  have hS : va_S Ar s.heap s.heap [] := va_S.rf
  have hP : va_P D vwCl [(ad 0, .inr (5, [.ref (ad 1), .ref (ad 2), .ref (ad 3), .ref (ad 4), .ref (ad 5), .int (nI (f 5)), .ref (ad 6), .int (nI (f 7)), .int (nI (f 8)), .int (nI (f 9)), .int (nI (f 10)), .int (nI (f 11)), .int (nI (f 12)), .int (nI (f 13)), .ref (ad 7), .ref (ad 8), .ref (ad 9), .ref (ad 10), .ref (ad 11), .int (nI (f 19)), .int (nI (f 20)), .int (nI (f 21)), .ref (ad 12)])), (ad 1, .inl (ka 1, 5, .inl (nA (g 1)))), (ad 2, .inl (ka 2, 40, .inl (nA (g 2)))), (ad 3, .inl (ka 3, 160, .inl (nA (g 3)))), (ad 4, .inl (ka 4, 4, .inl (nA (g 4)))), (ad 5, .inl (ka 5, 4, .inl (nA (g 5)))), (ad 6, .inl (ka 6, 200, .inl (nA (g 6)))), (ad 7, .inl (ka 7, 12001, .inr (.inl (lA t)))), (ad 8, .inl (ka 8, 12001, .inl (nA (g 8)))), (ad 9, .inl (ka 9, 12001, .inl (nA (g 9)))), (ad 10, .inl (ka 10, 12001, .inl (nA (g 10)))), (ad 11, .inl (ka 11, 32768, .inl (nA (g 11)))), (ad 12, .inl (ka 12, 64, .inl (nA (g 12))))] s.heap := hP
  have hD : va_D Ar [(ad 0, .inr (5, [.ref (ad 1), .ref (ad 2), .ref (ad 3), .ref (ad 4), .ref (ad 5), .int (nI (f 5)), .ref (ad 6), .int (nI (f 7)), .int (nI (f 8)), .int (nI (f 9)), .int (nI (f 10)), .int (nI (f 11)), .int (nI (f 12)), .int (nI (f 13)), .ref (ad 7), .ref (ad 8), .ref (ad 9), .ref (ad 10), .ref (ad 11), .int (nI (f 19)), .int (nI (f 20)), .int (nI (f 21)), .ref (ad 12)])), (ad 1, .inl (ka 1, 5, .inl (nA (g 1)))), (ad 2, .inl (ka 2, 40, .inl (nA (g 2)))), (ad 3, .inl (ka 3, 160, .inl (nA (g 3)))), (ad 4, .inl (ka 4, 4, .inl (nA (g 4)))), (ad 5, .inl (ka 5, 4, .inl (nA (g 5)))), (ad 6, .inl (ka 6, 200, .inl (nA (g 6)))), (ad 7, .inl (ka 7, 12001, .inr (.inl (lA t)))), (ad 8, .inl (ka 8, 12001, .inl (nA (g 8)))), (ad 9, .inl (ka 9, 12001, .inl (nA (g 9)))), (ad 10, .inl (ka 10, 12001, .inl (nA (g 10)))), (ad 11, .inl (ka 11, 32768, .inl (nA (g 11)))), (ad 12, .inl (ka 12, 64, .inl (nA (g 12))))] := hD
  generalize hQ : MQ _ _ _ _ _ _ _ = Q
  have hl := lv_entry ([.ref (ad 0), .int (nI va), .int (nI se)]) (n := 3) (Nat.le_of_ble_eq_true rfl)
  rw [lg_entry_eq]
  generalize (lg_sl ([.ref (ad 0), .int (nI va), .int (nI se)]) ++ List.replicate (3 - (lg_sl ([.ref (ad 0), .int (nI va), .int (nI se)])).length) Slot.unset).toArray = ls at hl ⊢
  have hl : lv_has ls 3 [(0, .ref (ad 0)), (1, .int (nI va)), (2, .int (nI se))] := hl
  refine lv_iload_n hx hb dX5_outcome_0 rfl (lv_at hl 1 rfl) ?_
  refine lv_iload_n hx hb dX5_outcome_1 rfl (lv_at hl 2 rfl) ?_
  refine cSi (As := [.int (nI va), .int (nI se)]) (rest := []) ⟨hx, hb, hml, hown, hts⟩ (c_X5_isAsked l  va se (by omega) (by omega)) (va_cwS 2 hts (gS mU_612 mU_613 mU_6 mU_614) rfl rfl rfl (by decide +kernel) ⟨Nat.le_of_ble_eq_true rfl, Nat.le_of_ble_eq_true rfl⟩) fbU (fun _ _ _ => trivial) rfl hl.1 rfl (Nat.le_of_ble_eq_true rfl) dX5_outcome_2 ⟨Nat.zero_le _, Nat.zero_le _⟩ ?_
  refine lv_if_ne (tgt := 10) hx hb dX5_outcome_5 (by decide) (fun c5_1 => ?_) (fun c5_1 => ?_)
  · have c5_1 : va ≤ 255 ∧ se ≤ 15 := bP_t c5_1
    refine lv_aload_n hx hb dX5_outcome_10 rfl (lv_at hl 0 rfl) ?_
    refine kVi (As := []) (rest := []) (wr := []) ⟨hx, hb, hml, hown, hts⟩ (c_X5_isWalked l D ad ka f g t s.heap.size  (show MInv f g t from hI)) (cwV 0 hts (gV mU_468 mU_469 mU_470 mU_6 mU_471) rfl rfl rfl (by decide +kernel) ⟨Nat.le_of_ble_eq_true rfl, Nat.le_of_ble_eq_true rfl⟩) (va_recv hK hP (ci := 5) (q0 := 0) rfl rfl) hP hK hD hS hA [0, 1, 2, 3, 4, 5, 6, 7, 8, 9, 10, 11, 12] [] [0, 1, 2, 3, 4, 5, 6, 7, 8, 9, 10, 11] [] rfl rfl rfl rfl (by decide) rfl rfl rfl hl.1 rfl (Nat.le_of_ble_eq_true rfl) dX5_outcome_11 ⟨by decide, by decide⟩ (fun r_3 u H locs hw hP hD hK hS => ?_)
    obtain ⟨f2, g2, t2⟩ := u
    obtain ⟨hr2, hsm2, hMB2, hWk2, h202⟩ := hw
    subst hr2
    have hsm2 : sameM f f2 g g2 := hsm2
    have hMB2 : MBase f2 g2 := hMB2
    have hWk2 : Walked f2 g2 t2 := hWk2
    have h202 : f2 20 ≠ 0 := h202
    have hP : va_P D vwCl [(ad 0, .inr (5, [.ref (ad 1), .ref (ad 2), .ref (ad 3), .ref (ad 4), .ref (ad 5), .int (nI (f2 5)), .ref (ad 6), .int (nI (f2 7)), .int (nI (f2 8)), .int (nI (f2 9)), .int (nI (f2 10)), .int (nI (f2 11)), .int (nI (f2 12)), .int (nI (f2 13)), .ref (ad 7), .ref (ad 8), .ref (ad 9), .ref (ad 10), .ref (ad 11), .int (nI (f2 19)), .int (nI (f2 20)), .int (nI (f2 21)), .ref (ad 12)])), (ad 1, .inl (ka 1, 5, .inl (nA (g2 1)))), (ad 2, .inl (ka 2, 40, .inl (nA (g2 2)))), (ad 3, .inl (ka 3, 160, .inl (nA (g2 3)))), (ad 4, .inl (ka 4, 4, .inl (nA (g2 4)))), (ad 5, .inl (ka 5, 4, .inl (nA (g2 5)))), (ad 6, .inl (ka 6, 200, .inl (nA (g2 6)))), (ad 7, .inl (ka 7, 12001, .inr (.inl (lA t2)))), (ad 8, .inl (ka 8, 12001, .inl (nA (g2 8)))), (ad 9, .inl (ka 9, 12001, .inl (nA (g2 9)))), (ad 10, .inl (ka 10, 12001, .inl (nA (g2 10)))), (ad 11, .inl (ka 11, 32768, .inl (nA (g2 11)))), (ad 12, .inl (ka 12, 64, .inl (nA (g2 12))))] H := hP
    have hD : va_D Ar [(ad 0, .inr (5, [.ref (ad 1), .ref (ad 2), .ref (ad 3), .ref (ad 4), .ref (ad 5), .int (nI (f2 5)), .ref (ad 6), .int (nI (f2 7)), .int (nI (f2 8)), .int (nI (f2 9)), .int (nI (f2 10)), .int (nI (f2 11)), .int (nI (f2 12)), .int (nI (f2 13)), .ref (ad 7), .ref (ad 8), .ref (ad 9), .ref (ad 10), .ref (ad 11), .int (nI (f2 19)), .int (nI (f2 20)), .int (nI (f2 21)), .ref (ad 12)])), (ad 1, .inl (ka 1, 5, .inl (nA (g2 1)))), (ad 2, .inl (ka 2, 40, .inl (nA (g2 2)))), (ad 3, .inl (ka 3, 160, .inl (nA (g2 3)))), (ad 4, .inl (ka 4, 4, .inl (nA (g2 4)))), (ad 5, .inl (ka 5, 4, .inl (nA (g2 5)))), (ad 6, .inl (ka 6, 200, .inl (nA (g2 6)))), (ad 7, .inl (ka 7, 12001, .inr (.inl (lA t2)))), (ad 8, .inl (ka 8, 12001, .inl (nA (g2 8)))), (ad 9, .inl (ka 9, 12001, .inl (nA (g2 9)))), (ad 10, .inl (ka 10, 12001, .inl (nA (g2 10)))), (ad 11, .inl (ka 11, 32768, .inl (nA (g2 11)))), (ad 12, .inl (ka 12, 64, .inl (nA (g2 12))))] := hD
    have hK : va_K D vwCl (mT ka) s := hK.sub [0, 1, 2, 3, 4, 5, 6, 7, 8, 9, 10, 11] rfl
    refine lv_if_eq (tgt := 30) hx hb dX5_outcome_14 (by decide) (fun c14_4 => ?_) (fun c14_4 => ?_)
    · have c14_4 : ¬ (f2 19 ≤ 12000) := bP_f c14_4
      refine lv_bipush (v := nI 4294967294) hx hb dX5_outcome_30 (by decide) ?_
      subst hQ
      exact rwi (f2, g2, t2) hx hb hr hlocks (⟨fun h9 => absurd (by omega) h9, fun _ => ⟨f2, g2, t2, hsm2, hMB2, hWk2, h202, fun _ => ⟨rfl, rfl⟩, fun h9 => absurd h9 c14_4⟩⟩) hP hK hD hS dX5_outcome_32
    · have c14_4 : f2 19 ≤ 12000 := bP_t c14_4
      refine lv_aload_n hx hb dX5_outcome_17 rfl (lv_at hl 0 rfl) ?_
      refine lv_aload_n hx hb dX5_outcome_18 rfl (lv_at hl 0 rfl) ?_
      refine lv_iload_n hx hb dX5_outcome_19 rfl (lv_at hl 1 rfl) ?_
      refine lv_iload_n hx hb dX5_outcome_20 rfl (lv_at hl 2 rfl) ?_
      refine cVi (As := [.int (nI va), .int (nI se)]) (rest := [.ref (ad 0)]) ⟨hx, hb, hml, hown, hts⟩ (c_X5_findEnd l D ad ka f2 g2 t2 va se (show ∀ a, a < 6 → ∀ i, g2 a i < 2147483648 from hMB2.2.1) (show okL g2 from hWk2.okL hMB2) (show (f2 5) < 2 from hMB2.2.2.1) (show ∀ i, i < (f2 19) → wfM g2 (t2 i) from fun i hi => (hWk2.2.1.2 i hi).1) (show (f2 19) ≤ 12001 from hWk2.2.1.1) (show va < 256 from by omega) (show se < 16 from by omega)) (cwV 2 hts (gV mU_615 mU_616 mU_617 mU_6 mU_618) rfl rfl rfl (by decide +kernel) ⟨Nat.le_of_ble_eq_true rfl, Nat.le_of_ble_eq_true rfl⟩) fbR (va_recv hK hP (ci := 5) (q0 := 0) rfl rfl) (PR.of hP hK) rfl hl.1 rfl (Nat.le_of_ble_eq_true rfl) dX5_outcome_21 ⟨Nat.zero_le _, Nat.zero_le _⟩ ?_
      refine kVi (As := [.int (nI (findN (fun i => endM ((f2 5)) g2 va se (t2 i)) ((f2 19))))]) (rest := []) (wr := []) ⟨hx, hb, hml, hown, hts⟩ (c_X5_keep l D ad ka f2 g2 t2 H.size (findN (fun i => endM ((f2 5)) g2 va se (t2 i)) ((f2 19))) (show okL g2 from hWk2.okL hMB2) (show BInv g2 ((f2 19), t2, (g2 8), (g2 9), (g2 10)) from hWk2.2.1) (show (findN (fun i => endM ((f2 5)) g2 va se (t2 i)) ((f2 19))) = 4294967295 ∨ (findN (fun i => endM ((f2 5)) g2 va se (t2 i)) ((f2 19))) < (f2 19) from findN_or _ _) (show ∀ k, (g2 12) k < 2147483648 from hMB2.2.2.2.2.2.2.2.2.2.2.2)) (cwV 1 hts (gV mU_596 mU_597 mU_598 mU_6 mU_599) rfl rfl rfl (by decide +kernel) ⟨Nat.le_of_ble_eq_true rfl, Nat.le_of_ble_eq_true rfl⟩) (va_recv hK hP (ci := 5) (q0 := 0) rfl rfl) hP hK hD hS hA [0, 1, 2, 3, 4, 5, 6, 7, 8, 9, 10, 11, 12] [] [0, 1, 2, 3, 4, 5, 6, 7, 8, 9, 10, 11] [] rfl rfl rfl rfl (by decide) rfl rfl rfl hl.1 rfl (Nat.le_of_ble_eq_true rfl) dX5_outcome_24 ⟨by decide, by decide⟩ (fun r_6 u H locs hw hP hD hK hS => ?_)
      obtain ⟨f5, g5, t5⟩ := u
      have hkp5 := hw
      have hP : va_P D vwCl [(ad 0, .inr (5, [.ref (ad 1), .ref (ad 2), .ref (ad 3), .ref (ad 4), .ref (ad 5), .int (nI (f5 5)), .ref (ad 6), .int (nI (f5 7)), .int (nI (f5 8)), .int (nI (f5 9)), .int (nI (f5 10)), .int (nI (f5 11)), .int (nI (f5 12)), .int (nI (f5 13)), .ref (ad 7), .ref (ad 8), .ref (ad 9), .ref (ad 10), .ref (ad 11), .int (nI (f5 19)), .int (nI (f5 20)), .int (nI (f5 21)), .ref (ad 12)])), (ad 1, .inl (ka 1, 5, .inl (nA (g5 1)))), (ad 2, .inl (ka 2, 40, .inl (nA (g5 2)))), (ad 3, .inl (ka 3, 160, .inl (nA (g5 3)))), (ad 4, .inl (ka 4, 4, .inl (nA (g5 4)))), (ad 5, .inl (ka 5, 4, .inl (nA (g5 5)))), (ad 6, .inl (ka 6, 200, .inl (nA (g5 6)))), (ad 7, .inl (ka 7, 12001, .inr (.inl (lA t5)))), (ad 8, .inl (ka 8, 12001, .inl (nA (g5 8)))), (ad 9, .inl (ka 9, 12001, .inl (nA (g5 9)))), (ad 10, .inl (ka 10, 12001, .inl (nA (g5 10)))), (ad 11, .inl (ka 11, 32768, .inl (nA (g5 11)))), (ad 12, .inl (ka 12, 64, .inl (nA (g5 12))))] H := hP
      have hD : va_D Ar [(ad 0, .inr (5, [.ref (ad 1), .ref (ad 2), .ref (ad 3), .ref (ad 4), .ref (ad 5), .int (nI (f5 5)), .ref (ad 6), .int (nI (f5 7)), .int (nI (f5 8)), .int (nI (f5 9)), .int (nI (f5 10)), .int (nI (f5 11)), .int (nI (f5 12)), .int (nI (f5 13)), .ref (ad 7), .ref (ad 8), .ref (ad 9), .ref (ad 10), .ref (ad 11), .int (nI (f5 19)), .int (nI (f5 20)), .int (nI (f5 21)), .ref (ad 12)])), (ad 1, .inl (ka 1, 5, .inl (nA (g5 1)))), (ad 2, .inl (ka 2, 40, .inl (nA (g5 2)))), (ad 3, .inl (ka 3, 160, .inl (nA (g5 3)))), (ad 4, .inl (ka 4, 4, .inl (nA (g5 4)))), (ad 5, .inl (ka 5, 4, .inl (nA (g5 5)))), (ad 6, .inl (ka 6, 200, .inl (nA (g5 6)))), (ad 7, .inl (ka 7, 12001, .inr (.inl (lA t5)))), (ad 8, .inl (ka 8, 12001, .inl (nA (g5 8)))), (ad 9, .inl (ka 9, 12001, .inl (nA (g5 9)))), (ad 10, .inl (ka 10, 12001, .inl (nA (g5 10)))), (ad 11, .inl (ka 11, 32768, .inl (nA (g5 11)))), (ad 12, .inl (ka 12, 64, .inl (nA (g5 12))))] := hD
      have hK : va_K D vwCl (mT ka) s := hK.sub [0, 1, 2, 3, 4, 5, 6, 7, 8, 9, 10, 11] rfl
      refine lv_goto (tgt := 32) hx hb dX5_outcome_27 (by decide) ?_
      subst hQ
      exact rwi (f5, g5, t5) hx hb hr hlocks (⟨fun h9 => absurd (by omega) h9, fun _ => ⟨f2, g2, t2, hsm2, hMB2, hWk2, h202, fun h9 => absurd c14_4 h9, fun _ => hkp5⟩⟩) hP hK hD hS dX5_outcome_32
  · have c5_1 : ¬ (va ≤ 255 ∧ se ≤ 15) := bP_f c5_1
    refine lv_iconst (v := nI 4294967295) hx hb dX5_outcome_8 (by decide) ?_
    subst hQ
    exact rwi (f, g, t) hx hb hr hlocks (⟨fun _ => ⟨rfl, rfl⟩, fun h9 => absurd h9 (by omega)⟩) hP hK hD hS dX5_outcome_9

abbrev pW (pa pb pc : Nat) (kb kc : ClassId) (n : Nat) (so nu : Nat → Nat) : va_W := [(pa, .inr (1, [.int (nI n), .ref pb, .ref pc])), (pb, .inl (kb, 8, .inl (nA so))), (pc, .inl (kc, 32, .inl (nA nu)))]
abbrev pT (kb kc : ClassId) : List (ClassId × FieldType) := [(kb, .int), (kc, .int)]
abbrev PSt : Type := Nat × (Nat → Nat) × (Nat → Nat)
abbrev isNumC (kd nb h : Nat) : Prop := (kd = 1 ∧ nb < 4 ∧ ¬ nb / 2 = h) ∨ (kd = 2 ∧ nb < 4 ∧ nb / 2 = h) ∨ (kd = 3 ∧ nb < 2) ∨ (kd = 4 ∧ nb < 4) ∨ ((kd < 1 ∨ 4 < kd) ∧ 1 ≤ nb ∧ nb ≤ 7)
set_option maxHeartbeats 4000000 in
set_option maxRecDepth 100000 in
theorem c_X1_number (l : Launch) (D : va_G) (pa pb pc : Nat) (kb kc : ClassId) (n : Nat) (so nu : Nat → Nat) (i : Nat) (w : Nat) (hiw : i * 4 + w < 32) : Met l yX1_number (.code yX1_number cX1_number 3 (some .int) :: wsL_law) ({ frames := 0, cells := 0, slots := 0, locals := 0 }) (va_Pc [.ref pa, .int (nI i), .int (nI w)] (PR D (pW pa pb pc kb kc n so nu) (pT kb kc))) (QrI (nI (nu (i * 4 + w)))) 0 0 (fun _ => False) := by
  refine Met.ofW (cc := cX1_number) (maxL := 3) (ret := (some .int)) (by decide) rfl ?_
  intro p e s m args below meth c s₁ B hml hv
  obtain ⟨rfl, hP, hK⟩ := hv
  have hx := B.exec
  have hb := B.bytes
  have hr := B.returns
  have hts := atoms_spec (ws := .code yX1_number cX1_number 3 (some .int) :: wsL_law) B.pre
  have hU : ∀ w ∈ wsL_law, w.before _ s = true := fun w h => hts w (List.mem_cons_of_mem _ h)
  have hown : s.vm.findClass RX1 = some m.cls := findClass_of_methodNamed B.named
  have hlocks := B.notSynchronized
  generalize hQ : MQ _ _ _ _ _ _ _ = Q
  have hl := lv_entry ([.ref pa, .int (nI i), .int (nI w)]) (n := 3) (Nat.le_of_ble_eq_true rfl)
  rw [lg_entry_eq]
  generalize (lg_sl ([.ref pa, .int (nI i), .int (nI w)]) ++ List.replicate (3 - (lg_sl ([.ref pa, .int (nI i), .int (nI w)])).length) Slot.unset).toArray = ls at hl ⊢
  have hl : lv_has ls 3 [(0, .ref pa), (1, .int (nI i)), (2, .int (nI w))] := hl
  refine lv_aload_n hx hb dX1_number_0 rfl (lv_at hl 0 rfl) ?_
  refine va_get (D := D) (ci := 1) (v := .ref pc) (C := RX1) (T := TX1) (N := 3) hx hb hU iX1 hown hK hP 0 rfl rfl 2 (by decide) (hU _ mU_49) (fun _ h9 => h9) rfl dX1_number_1 ?_
  refine lv_iload_n hx hb dX1_number_4 rfl (lv_at hl 1 rfl) ?_
  refine lv_iconst (v := nI 4) hx hb dX1_number_5 (by decide) ?_
  refine lv_imul hx hb dX1_number_6 ?_
  refine lv_topE (nI (i * 4)) (pk_mul _ _) ?_
  refine lv_iload_n hx hb dX1_number_7 rfl (lv_at hl 2 rfl) ?_
  refine lv_iadd hx hb dX1_number_8 ?_
  refine lv_topE (nI ((i * 4) + w)) (nI_add _ _) ?_
  refine n_iald hx hb hK hP 2 1 rfl rfl (i := (i * 4) + w) (by omega) (by decide) dX1_number_9 ?_
  subst hQ
  exact rti hx hb hr hlocks rfl (rfl) dX1_number_10

set_option maxHeartbeats 4000000 in
set_option maxRecDepth 100000 in
theorem c_X1_setNumber (l : Launch) (D : va_G) (pa pb pc : Nat) (kb kc : ClassId) (n : Nat) (so nu : Nat → Nat) (sz : Nat) (i : Nat) (w : Nat) (v : Nat) (hiw : i * 4 + w < 32) : Met l yX1_setNumber (.code yX1_setNumber cX1_setNumber 4 none :: wsL_law) ({ frames := 0, cells := 0, slots := 0, locals := 0 }) (va_Pc [.ref pa, .int (nI i), .int (nI w), .int (nI v)] (PW D (pW pa pb pc kb kc n so nu) (pT kb kc) sz)) (va_Qv (fun u : PSt => u = (n, so, upN nu (i * 4 + w) v)) (QW D (fun u : PSt => pW pa pb pc kb kc u.1 u.2.1 u.2.2) (fun _ => pT kb kc) (va_A (pW pa pb pc kb kc n so nu) sz)) (va_A (pW pa pb pc kb kc n so nu) sz)) 0 0 (va_A (pW pa pb pc kb kc n so nu) sz) := by
  refine Met.ofW (cc := cX1_setNumber) (maxL := 4) (ret := none) (by decide) rfl ?_
  intro p e s m args below meth c s₁ B hml hv
  obtain ⟨rfl, hsz, hP, hK, hD0⟩ := hv
  have hx := B.exec
  have hb := B.bytes
  have hr := B.returns
  have hts := atoms_spec (ws := .code yX1_setNumber cX1_setNumber 4 none :: wsL_law) B.pre
  have hU : ∀ w ∈ wsL_law, w.before _ s = true := fun w h => hts w (List.mem_cons_of_mem _ h)
  have hown : s.vm.findClass RX1 = some m.cls := findClass_of_methodNamed B.named
  have hlocks := B.notSynchronized
  subst hsz
  have hD := hD0.self (sz := s.heap.size)
  generalize hAe : va_A (pW pa pb pc kb kc n so nu) s.heap.size = Ar at hD ⊢
  have hA : ∀ q : Nat, s.heap.size ≤ q → Ar q := fun q h => by rw [← hAe]; exact Or.inr h
  have hS : va_S Ar s.heap s.heap [] := va_S.rf
  have hP : va_P D vwCl [(pa, .inr (1, [.int (nI n), .ref pb, .ref pc])), (pb, .inl (kb, 8, .inl (nA so))), (pc, .inl (kc, 32, .inl (nA nu)))] s.heap := hP
  have hD : va_D Ar [(pa, .inr (1, [.int (nI n), .ref pb, .ref pc])), (pb, .inl (kb, 8, .inl (nA so))), (pc, .inl (kc, 32, .inl (nA nu)))] := hD
  generalize hQ : MQ _ _ _ _ _ _ _ = Q
  have hl := lv_entry ([.ref pa, .int (nI i), .int (nI w), .int (nI v)]) (n := 4) (Nat.le_of_ble_eq_true rfl)
  rw [lg_entry_eq]
  generalize (lg_sl ([.ref pa, .int (nI i), .int (nI w), .int (nI v)]) ++ List.replicate (4 - (lg_sl ([.ref pa, .int (nI i), .int (nI w), .int (nI v)])).length) Slot.unset).toArray = ls at hl ⊢
  have hl : lv_has ls 4 [(0, .ref pa), (1, .int (nI i)), (2, .int (nI w)), (3, .int (nI v))] := hl
  refine lv_aload_n hx hb dX1_setNumber_0 rfl (lv_at hl 0 rfl) ?_
  refine va_get (D := D) (ci := 1) (v := .ref pc) (C := RX1) (T := TX1) (N := 3) hx hb hU iX1 hown hK hP 0 rfl rfl 2 (by decide) (hU _ mU_49) (fun _ h9 => h9) rfl dX1_setNumber_1 ?_
  refine lv_iload_n hx hb dX1_setNumber_4 rfl (lv_at hl 1 rfl) ?_
  refine lv_iconst (v := nI 4) hx hb dX1_setNumber_5 (by decide) ?_
  refine lv_imul hx hb dX1_setNumber_6 ?_
  refine lv_topE (nI (i * 4)) (pk_mul _ _) ?_
  refine lv_iload_n hx hb dX1_setNumber_7 rfl (lv_at hl 2 rfl) ?_
  refine lv_iadd hx hb dX1_setNumber_8 ?_
  refine lv_topE (nI ((i * 4) + w)) (nI_add _ _) ?_
  refine lv_iload_n hx hb dX1_setNumber_9 rfl (lv_at hl 3 rfl) ?_
  refine n_iast hx hb hK hP hD hS 2 1 rfl rfl (i := (i * 4) + w) (v := v) (by omega) (by decide) dX1_setNumber_10 (fun H locs hP hD hS => ?_)
  have hP : va_P D vwCl [(pa, .inr (1, [.int (nI n), .ref pb, .ref pc])), (pb, .inl (kb, 8, .inl (nA so))), (pc, .inl (kc, 32, .inl (nA (upN nu ((i * 4) + w) v))))] H := hP
  have hD : va_D Ar [(pa, .inr (1, [.int (nI n), .ref pb, .ref pc])), (pb, .inl (kb, 8, .inl (nA so))), (pc, .inl (kc, 32, .inl (nA (upN nu ((i * 4) + w) v))))] := hD
  subst hQ
  exact rwv (n, so, upN nu ((i * 4) + w) v) hx hb hr hlocks (rfl) hP hK hD hS dX1_setNumber_11

set_option maxHeartbeats 4000000 in
set_option maxRecDepth 100000 in
theorem c_X1_isNumberOf (l : Launch) (kd : Nat) (nb : Nat) (h : Nat) (hkd : kd < 6) (hnb : nb < 2147483648) (hh : h < 2) : Met l yX1_isNumberOf (.code yX1_isNumberOf cX1_isNumberOf 3 (some .boolean) :: wsL_law) ({ frames := 0, cells := 0, slots := 0, locals := 0 }) (va_Pc [.int (nI kd), .int (nI nb), .int (nI h)] PU) (QrI (bP (isNumC kd nb h))) 0 0 (fun _ => False) := by
  refine Met.ofW (cc := cX1_isNumberOf) (maxL := 3) (ret := (some .boolean)) (by decide) rfl ?_
  intro p e s m args below meth c s₁ B hml hv
  obtain ⟨rfl, hv⟩ := hv
  have hx := B.exec
  have hb := B.bytes
  have hr := B.returns
  have hts := atoms_spec (ws := .code yX1_isNumberOf cX1_isNumberOf 3 (some .boolean) :: wsL_law) B.pre
  have hU : ∀ w ∈ wsL_law, w.before _ s = true := fun w h => hts w (List.mem_cons_of_mem _ h)
  have hown : s.vm.findClass RX1 = some m.cls := findClass_of_methodNamed B.named
  have hlocks := B.notSynchronized
  generalize hQ : MQ _ _ _ _ _ _ _ = Q
  have hl := lv_entry ([.int (nI kd), .int (nI nb), .int (nI h)]) (n := 3) (Nat.le_of_ble_eq_true rfl)
  rw [lg_entry_eq]
  generalize (lg_sl ([.int (nI kd), .int (nI nb), .int (nI h)]) ++ List.replicate (3 - (lg_sl ([.int (nI kd), .int (nI nb), .int (nI h)])).length) Slot.unset).toArray = ls at hl ⊢
  have hl : lv_has ls 3 [(0, .int (nI kd)), (1, .int (nI nb)), (2, .int (nI h))] := hl
  refine lv_iload_n hx hb dX1_isNumberOf_0 rfl (lv_at hl 0 rfl) ?_
  rcases (show kd = 1 ∨ kd = 2 ∨ kd = 3 ∨ kd = 4 ∨ (kd < 1 ∨ 4 < kd) by omega) with c1_1 | c1_1 | c1_1 | c1_1 | c1_1
  · have hx9 : (nI kd).toInt = 1 := by rw [nI_toInt (show kd < 2 ^ 31 by omega)]; omega
    refine lv_tableIn (tgt := 32) (off := 31) hx hb dX1_isNumberOf_1 (by rw [hx9]; decide) (by rw [hx9]; decide) (by rw [hx9]; rfl) (by decide) ?_
    refine lv_iload_n hx hb dX1_isNumberOf_32 rfl (lv_at hl 1 rfl) ?_
    refine lv_iconst (v := nI 4) hx hb dX1_isNumberOf_33 (by decide) ?_
    refine lv_icmp_ge (tgt := 48) hx hb dX1_isNumberOf_34 (by decide) (fun c34_2 => ?_) (fun c34_2 => ?_)
    · have c34_2 : 4 ≤ nb := (nI_leI (a := 4) (b := nb) (by omega) (by omega)).mp c34_2
      refine lv_iconst (v := nI 0) hx hb dX1_isNumberOf_48 (by decide) ?_
      subst hQ
      exact rtz hx hb hr hlocks rfl rfl (bP_0 (by unfold isNumC; omega)) dX1_isNumberOf_49
    · have c34_2 : ¬ (4 ≤ nb) := fun h9 => c34_2 ((nI_leI (a := 4) (b := nb) (by omega) (by omega)).mpr h9)
      refine lv_iload_n hx hb dX1_isNumberOf_37 rfl (lv_at hl 1 rfl) ?_
      refine lv_iconst (v := nI 2) hx hb dX1_isNumberOf_38 (by decide) ?_
      refine lv_idiv hx hb dX1_isNumberOf_39 (nI_ne0 (by omega) (by omega)) ?_
      refine lv_topE (nI (nb / 2)) (pk_div (by omega) (by omega) (by omega)) ?_
      refine lv_iload_n hx hb dX1_isNumberOf_40 rfl (lv_at hl 2 rfl) ?_
      refine lv_icmp_eq (tgt := 48) hx hb dX1_isNumberOf_41 (by decide) (fun c41_3 => ?_) (fun c41_3 => ?_)
      · have c41_3 : nb / 2 = h := (nI_eqG (a := nb / 2) (b := h) (by omega) (by omega)).mp c41_3
        refine lv_iconst (v := nI 0) hx hb dX1_isNumberOf_48 (by decide) ?_
        subst hQ
        exact rtz hx hb hr hlocks rfl rfl (bP_0 (by unfold isNumC; omega)) dX1_isNumberOf_49
      · have c41_3 : ¬ (nb / 2 = h) := fun h9 => c41_3 ((nI_eqG (a := nb / 2) (b := h) (by omega) (by omega)).mpr h9)
        refine lv_iconst (v := nI 1) hx hb dX1_isNumberOf_44 (by decide) ?_
        refine lv_goto (tgt := 49) hx hb dX1_isNumberOf_45 (by decide) ?_
        subst hQ
        exact rtz hx hb hr hlocks rfl rfl (bP_1 (by unfold isNumC; omega)) dX1_isNumberOf_49
  · have hx9 : (nI kd).toInt = 2 := by rw [nI_toInt (show kd < 2 ^ 31 by omega)]; omega
    refine lv_tableIn (tgt := 50) (off := 49) hx hb dX1_isNumberOf_1 (by rw [hx9]; decide) (by rw [hx9]; decide) (by rw [hx9]; rfl) (by decide) ?_
    refine lv_iload_n hx hb dX1_isNumberOf_50 rfl (lv_at hl 1 rfl) ?_
    refine lv_iconst (v := nI 4) hx hb dX1_isNumberOf_51 (by decide) ?_
    refine lv_icmp_ge (tgt := 66) hx hb dX1_isNumberOf_52 (by decide) (fun c52_4 => ?_) (fun c52_4 => ?_)
    · have c52_4 : 4 ≤ nb := (nI_leI (a := 4) (b := nb) (by omega) (by omega)).mp c52_4
      refine lv_iconst (v := nI 0) hx hb dX1_isNumberOf_66 (by decide) ?_
      subst hQ
      exact rtz hx hb hr hlocks rfl rfl (bP_0 (by unfold isNumC; omega)) dX1_isNumberOf_67
    · have c52_4 : ¬ (4 ≤ nb) := fun h9 => c52_4 ((nI_leI (a := 4) (b := nb) (by omega) (by omega)).mpr h9)
      refine lv_iload_n hx hb dX1_isNumberOf_55 rfl (lv_at hl 1 rfl) ?_
      refine lv_iconst (v := nI 2) hx hb dX1_isNumberOf_56 (by decide) ?_
      refine lv_idiv hx hb dX1_isNumberOf_57 (nI_ne0 (by omega) (by omega)) ?_
      refine lv_topE (nI (nb / 2)) (pk_div (by omega) (by omega) (by omega)) ?_
      refine lv_iload_n hx hb dX1_isNumberOf_58 rfl (lv_at hl 2 rfl) ?_
      refine lv_icmp_ne (tgt := 66) hx hb dX1_isNumberOf_59 (by decide) (fun c59_5 => ?_) (fun c59_5 => ?_)
      · have c59_5 : ¬ (nb / 2 = h) := fun h9 => c59_5 ((nI_eqG (a := nb / 2) (b := h) (by omega) (by omega)).mpr h9)
        refine lv_iconst (v := nI 0) hx hb dX1_isNumberOf_66 (by decide) ?_
        subst hQ
        exact rtz hx hb hr hlocks rfl rfl (bP_0 (by unfold isNumC; omega)) dX1_isNumberOf_67
      · have c59_5 : nb / 2 = h := (nI_eqG (a := nb / 2) (b := h) (by omega) (by omega)).mp c59_5
        refine lv_iconst (v := nI 1) hx hb dX1_isNumberOf_62 (by decide) ?_
        refine lv_goto (tgt := 67) hx hb dX1_isNumberOf_63 (by decide) ?_
        subst hQ
        exact rtz hx hb hr hlocks rfl rfl (bP_1 (by unfold isNumC; omega)) dX1_isNumberOf_67
  · have hx9 : (nI kd).toInt = 3 := by rw [nI_toInt (show kd < 2 ^ 31 by omega)]; omega
    refine lv_tableIn (tgt := 68) (off := 67) hx hb dX1_isNumberOf_1 (by rw [hx9]; decide) (by rw [hx9]; decide) (by rw [hx9]; rfl) (by decide) ?_
    refine lv_iload_n hx hb dX1_isNumberOf_68 rfl (lv_at hl 1 rfl) ?_
    refine lv_iconst (v := nI 2) hx hb dX1_isNumberOf_69 (by decide) ?_
    refine lv_icmp_ge (tgt := 77) hx hb dX1_isNumberOf_70 (by decide) (fun c70_6 => ?_) (fun c70_6 => ?_)
    · have c70_6 : 2 ≤ nb := (nI_leI (a := 2) (b := nb) (by omega) (by omega)).mp c70_6
      refine lv_iconst (v := nI 0) hx hb dX1_isNumberOf_77 (by decide) ?_
      subst hQ
      exact rtz hx hb hr hlocks rfl rfl (bP_0 (by unfold isNumC; omega)) dX1_isNumberOf_78
    · have c70_6 : ¬ (2 ≤ nb) := fun h9 => c70_6 ((nI_leI (a := 2) (b := nb) (by omega) (by omega)).mpr h9)
      refine lv_iconst (v := nI 1) hx hb dX1_isNumberOf_73 (by decide) ?_
      refine lv_goto (tgt := 78) hx hb dX1_isNumberOf_74 (by decide) ?_
      subst hQ
      exact rtz hx hb hr hlocks rfl rfl (bP_1 (by unfold isNumC; omega)) dX1_isNumberOf_78
  · have hx9 : (nI kd).toInt = 4 := by rw [nI_toInt (show kd < 2 ^ 31 by omega)]; omega
    refine lv_tableIn (tgt := 79) (off := 78) hx hb dX1_isNumberOf_1 (by rw [hx9]; decide) (by rw [hx9]; decide) (by rw [hx9]; rfl) (by decide) ?_
    refine lv_iload_n hx hb dX1_isNumberOf_79 rfl (lv_at hl 1 rfl) ?_
    refine lv_iconst (v := nI 4) hx hb dX1_isNumberOf_80 (by decide) ?_
    refine lv_icmp_ge (tgt := 88) hx hb dX1_isNumberOf_81 (by decide) (fun c81_7 => ?_) (fun c81_7 => ?_)
    · have c81_7 : 4 ≤ nb := (nI_leI (a := 4) (b := nb) (by omega) (by omega)).mp c81_7
      refine lv_iconst (v := nI 0) hx hb dX1_isNumberOf_88 (by decide) ?_
      subst hQ
      exact rtz hx hb hr hlocks rfl rfl (bP_0 (by unfold isNumC; omega)) dX1_isNumberOf_89
    · have c81_7 : ¬ (4 ≤ nb) := fun h9 => c81_7 ((nI_leI (a := 4) (b := nb) (by omega) (by omega)).mpr h9)
      refine lv_iconst (v := nI 1) hx hb dX1_isNumberOf_84 (by decide) ?_
      refine lv_goto (tgt := 89) hx hb dX1_isNumberOf_85 (by decide) ?_
      subst hQ
      exact rtz hx hb hr hlocks rfl rfl (bP_1 (by unfold isNumC; omega)) dX1_isNumberOf_89
  · refine lv_tableOut (tgt := 90) hx hb dX1_isNumberOf_1 (by rw [nI_toInt (show kd < 2 ^ 31 by omega)]; omega) (by decide) ?_
    have n1_1 : ¬ (kd = 1) := by omega
    have n1_2 : ¬ (kd = 2) := by omega
    have n1_3 : ¬ (kd = 3) := by omega
    have n1_4 : ¬ (kd = 4) := by omega
    refine lv_iload_n hx hb dX1_isNumberOf_90 rfl (lv_at hl 1 rfl) ?_
    refine lv_iconst (v := nI 1) hx hb dX1_isNumberOf_91 (by decide) ?_
    refine lv_icmp_lt (tgt := 105) hx hb dX1_isNumberOf_92 (by decide) (fun c92_8 => ?_) (fun c92_8 => ?_)
    · have c92_8 : nb < 1 := (nI_ltI (a := nb) (b := 1) (by omega) (by omega)).mp c92_8
      refine lv_iconst (v := nI 0) hx hb dX1_isNumberOf_105 (by decide) ?_
      subst hQ
      exact rtz hx hb hr hlocks rfl rfl (bP_0 (by unfold isNumC; omega)) dX1_isNumberOf_106
    · have c92_8 : ¬ (nb < 1) := fun h9 => c92_8 ((nI_ltI (a := nb) (b := 1) (by omega) (by omega)).mpr h9)
      refine lv_iload_n hx hb dX1_isNumberOf_95 rfl (lv_at hl 1 rfl) ?_
      refine lv_bipush (v := nI 7) hx hb dX1_isNumberOf_96 (by decide) ?_
      refine lv_icmp_gt (tgt := 105) hx hb dX1_isNumberOf_98 (by decide) (fun c98_9 => ?_) (fun c98_9 => ?_)
      · have c98_9 : 7 < nb := (nI_ltI (a := 7) (b := nb) (by omega) (by omega)).mp c98_9
        refine lv_iconst (v := nI 0) hx hb dX1_isNumberOf_105 (by decide) ?_
        subst hQ
        exact rtz hx hb hr hlocks rfl rfl (bP_0 (by unfold isNumC; omega)) dX1_isNumberOf_106
      · have c98_9 : ¬ (7 < nb) := fun h9 => c98_9 ((nI_ltI (a := 7) (b := nb) (by omega) (by omega)).mpr h9)
        refine lv_iconst (v := nI 1) hx hb dX1_isNumberOf_101 (by decide) ?_
        refine lv_goto (tgt := 106) hx hb dX1_isNumberOf_102 (by decide) ?_
        subst hQ
        exact rtz hx hb hr hlocks rfl rfl (bP_1 (by unfold isNumC; omega)) dX1_isNumberOf_106

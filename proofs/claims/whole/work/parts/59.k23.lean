set_option maxHeartbeats 4000000 in
set_option maxRecDepth 100000 in
theorem c_X1_init (l : Launch) (D : va_G) (h0 : Nat) (sz : Nat)  : Met l yX1_init (.code yX1_init cX1_init 1 none :: wsL_law) ({ frames := 1, cells := 2, slots := 40, locals := 12 }) (va_Pc [.ref h0] (PW D ([(h0, .inr (1, [.int 0, .null, .null]))]) ([]) sz)) (va_Qv (fun _ => True) (QW D (fun u : Nat × Nat × ClassId × ClassId => pW h0 u.1 u.2.1 u.2.2.1 u.2.2.2 0 (fun _ => 0) (fun _ => 0)) (fun u => pT u.2.2.1 u.2.2.2) (va_A ([(h0, .inr (1, [.int 0, .null, .null]))]) sz)) (va_A ([(h0, .inr (1, [.int 0, .null, .null]))]) sz)) 2 40 (va_A ([(h0, .inr (1, [.int 0, .null, .null]))]) sz) := by
  refine Met.ofW (cc := cX1_init) (maxL := 1) (ret := none) (by decide) rfl ?_
  intro p e s m args below meth c s₁ B hml hv
  obtain ⟨rfl, hsz, hP, hK, hD0⟩ := hv
  have hx := B.exec
  have hb := B.bytes
  have hr := B.returns
  have hts := atoms_spec (ws := .code yX1_init cX1_init 1 none :: wsL_law) B.pre
  have hU : ∀ w ∈ wsL_law, w.before _ s = true := fun w h => hts w (List.mem_cons_of_mem _ h)
  have hown : s.vm.findClass RX1 = some m.cls := findClass_of_methodNamed B.named
  have hlocks := B.notSynchronized
  have hin : meth.name = "<init>" := (name_of_methodNamed B.named B.method).1
  subst hsz
  have hD := hD0.self (sz := s.heap.size)
  generalize hAe : va_A ([(h0, .inr (1, [.int 0, .null, .null]))]) s.heap.size = Ar at hD ⊢
  have hA : ∀ q : Nat, s.heap.size ≤ q → Ar q := fun q h => by rw [← hAe]; exact Or.inr h
  have hS : va_S Ar s.heap s.heap [] := va_S.rf
  have hP : va_P D vwCl [(h0, .inr (1, [.int 0, .null, .null]))] s.heap := hP
  have hD : va_D Ar [(h0, .inr (1, [.int 0, .null, .null]))] := hD
  generalize hQ : MQ _ _ _ _ _ _ _ = Q
  have hl := lv_entry ([.ref h0]) (n := 1) (Nat.le_of_ble_eq_true rfl)
  rw [lg_entry_eq]
  generalize (lg_sl ([.ref h0]) ++ List.replicate (1 - (lg_sl ([.ref h0])).length) Slot.unset).toArray = ls at hl ⊢
  have hl : lv_has ls 1 [(0, .ref h0)] := hl
  refine lv_aload_n hx hb dX1_init_0 rfl (lv_at hl 0 rfl) ?_
  refine W.objInit hx hb hown (hU _ mU_46) (hU _ mU_11) (hU _ mU_12) rfl (by rw [hml]; exact hl.1) rfl dX1_init_1 (Nat.le_of_ble_eq_true rfl) (Nat.le_of_ble_eq_true rfl) ?_
  refine W.eq (g2 := F0 m 4 ls []) rfl ?_
  refine lv_aload_n hx hb dX1_init_4 rfl (lv_at hl 0 rfl) ?_
  refine lv_iconst (v := nI 0) hx hb dX1_init_5 (by decide) ?_
  refine va_put (D := D) (ci := 1) (v := .int (nI 0)) (ty := .int) (C := RX1) (T := TX1) (N := 3) hx hb hU iX1 tyX1 tyX1_ok nmX1 hown hK hP hD hS 0 rfl rfl 0 (by decide) (hU _ mU_47) (fun _ h9 => h9) rfl (by decide +kernel) rfl rfl (Nat.le_of_ble_eq_true rfl) dX1_init_6 (fun H locs hP hD hS => ?_)
  have hP : va_P D vwCl [(h0, .inr (1, [.int (nI 0), .null, .null]))] H := hP
  have hD : va_D Ar [(h0, .inr (1, [.int (nI 0), .null, .null]))] := hD
  refine lv_aload_n hx hb dX1_init_9 rfl (lv_at hl 0 rfl) ?_
  refine lv_bipush (v := nI 8) hx hb dX1_init_10 (by decide) ?_
  refine va_newa (atype := .int) (ty := .int) (N' := 8) (a0 := (8, .inl (nA (fun _ => 0)))) hx hb (hU _ mU_34) rfl hK hP hD hS hA (fun _ => rfl) (by decide) (by decide) (by decide) (Nat.le_of_ble_eq_true rfl) (Nat.le_of_ble_eq_true rfl) dX1_init_12 (fun q_1 ca_2 H hK hP hD hS => ?_)
  have hP : va_P D vwCl [(h0, .inr (1, [.int (nI 0), .null, .null])), (q_1, .inl (ca_2, 8, .inl (nA (fun _ => 0))))] H := hP
  have hD : va_D Ar [(h0, .inr (1, [.int (nI 0), .null, .null])), (q_1, .inl (ca_2, 8, .inl (nA (fun _ => 0))))] := hD
  have hK : va_K D vwCl [(ca_2, .int)] s := hK
  refine va_putF (D := D) (ci := 1) (v := .ref q_1) (ty := .array .int) (C := RX1) (T := TX1) (N := 3) hx hb hU iX1 tyX1 tyX1_ok nmX1 hown hK hP hD hS 0 rfl rfl 1 (by decide) (hU _ mU_48) (fun _ h9 => h9) rfl hin rfl (by decide +kernel) rfl rfl (Nat.le_of_ble_eq_true rfl) dX1_init_14 (fun H locs hP hD hS => ?_)
  have hP : va_P D vwCl [(h0, .inr (1, [.int (nI 0), .ref q_1, .null])), (q_1, .inl (ca_2, 8, .inl (nA (fun _ => 0))))] H := hP
  have hD : va_D Ar [(h0, .inr (1, [.int (nI 0), .ref q_1, .null])), (q_1, .inl (ca_2, 8, .inl (nA (fun _ => 0))))] := hD
  refine lv_aload_n hx hb dX1_init_17 rfl (lv_at hl 0 rfl) ?_
  refine lv_bipush (v := nI 32) hx hb dX1_init_18 (by decide) ?_
  refine va_newa (atype := .int) (ty := .int) (N' := 32) (a0 := (32, .inl (nA (fun _ => 0)))) hx hb (hU _ mU_34) rfl hK hP hD hS hA (fun _ => rfl) (by decide) (by decide) (by decide) (Nat.le_of_ble_eq_true rfl) (Nat.le_of_ble_eq_true rfl) dX1_init_20 (fun q_3 ca_4 H hK hP hD hS => ?_)
  have hP : va_P D vwCl [(h0, .inr (1, [.int (nI 0), .ref q_1, .null])), (q_1, .inl (ca_2, 8, .inl (nA (fun _ => 0)))), (q_3, .inl (ca_4, 32, .inl (nA (fun _ => 0))))] H := hP
  have hD : va_D Ar [(h0, .inr (1, [.int (nI 0), .ref q_1, .null])), (q_1, .inl (ca_2, 8, .inl (nA (fun _ => 0)))), (q_3, .inl (ca_4, 32, .inl (nA (fun _ => 0))))] := hD
  have hK : va_K D vwCl [(ca_2, .int), (ca_4, .int)] s := hK
  refine va_putF (D := D) (ci := 1) (v := .ref q_3) (ty := .array .int) (C := RX1) (T := TX1) (N := 3) hx hb hU iX1 tyX1 tyX1_ok nmX1 hown hK hP hD hS 0 rfl rfl 2 (by decide) (hU _ mU_49) (fun _ h9 => h9) rfl hin rfl (by decide +kernel) rfl rfl (Nat.le_of_ble_eq_true rfl) dX1_init_22 (fun H locs hP hD hS => ?_)
  have hP : va_P D vwCl [(h0, .inr (1, [.int (nI 0), .ref q_1, .ref q_3])), (q_1, .inl (ca_2, 8, .inl (nA (fun _ => 0)))), (q_3, .inl (ca_4, 32, .inl (nA (fun _ => 0))))] H := hP
  have hD : va_D Ar [(h0, .inr (1, [.int (nI 0), .ref q_1, .ref q_3])), (q_1, .inl (ca_2, 8, .inl (nA (fun _ => 0)))), (q_3, .inl (ca_4, 32, .inl (nA (fun _ => 0))))] := hD
  subst hQ
  refine W.widen (k := 2) (n := 40) (by omega) (by omega) ?_
  exact rwv (q_1, q_3, ca_2, ca_4) hx hb hr hlocks (trivial) hP hK hD hS dX1_init_25

set_option maxHeartbeats 4000000 in
set_option maxRecDepth 100000 in
theorem c_X2_init (l : Launch) (D : va_G) (h0 : Nat) (sz : Nat)  : Met l yX2_init (.code yX2_init cX2_init 1 none :: wsL_law) ({ frames := 1, cells := 0, slots := 0, locals := 12 }) (va_Pc [.ref h0] (PW D ([(h0, .inr (2, [.int 0, .int 0, .int 0, .int 0]))]) ([]) sz)) (va_Qv (fun _ => True) (QW D (fun _ : Unit => [(h0, .inr (2, [.int (nI 4294967295), .int (nI 4294967295), .int (nI 4294967295), .int (nI 0)]))]) (fun _ => []) (va_A ([(h0, .inr (2, [.int 0, .int 0, .int 0, .int 0]))]) sz)) (va_A ([(h0, .inr (2, [.int 0, .int 0, .int 0, .int 0]))]) sz)) 0 0 (va_A ([(h0, .inr (2, [.int 0, .int 0, .int 0, .int 0]))]) sz) := by
  refine Met.ofW (cc := cX2_init) (maxL := 1) (ret := none) (by decide) rfl ?_
  intro p e s m args below meth c s₁ B hml hv
  obtain ⟨rfl, hsz, hP, hK, hD0⟩ := hv
  have hx := B.exec
  have hb := B.bytes
  have hr := B.returns
  have hts := atoms_spec (ws := .code yX2_init cX2_init 1 none :: wsL_law) B.pre
  have hU : ∀ w ∈ wsL_law, w.before _ s = true := fun w h => hts w (List.mem_cons_of_mem _ h)
  have hown : s.vm.findClass RX2 = some m.cls := findClass_of_methodNamed B.named
  have hlocks := B.notSynchronized
  have hin : meth.name = "<init>" := (name_of_methodNamed B.named B.method).1
  subst hsz
  have hD := hD0.self (sz := s.heap.size)
  generalize hAe : va_A ([(h0, .inr (2, [.int 0, .int 0, .int 0, .int 0]))]) s.heap.size = Ar at hD ⊢
  have hA : ∀ q : Nat, s.heap.size ≤ q → Ar q := fun q h => by rw [← hAe]; exact Or.inr h
  have hS : va_S Ar s.heap s.heap [] := va_S.rf
  have hP : va_P D vwCl [(h0, .inr (2, [.int 0, .int 0, .int 0, .int 0]))] s.heap := hP
  have hD : va_D Ar [(h0, .inr (2, [.int 0, .int 0, .int 0, .int 0]))] := hD
  generalize hQ : MQ _ _ _ _ _ _ _ = Q
  have hl := lv_entry ([.ref h0]) (n := 1) (Nat.le_of_ble_eq_true rfl)
  rw [lg_entry_eq]
  generalize (lg_sl ([.ref h0]) ++ List.replicate (1 - (lg_sl ([.ref h0])).length) Slot.unset).toArray = ls at hl ⊢
  have hl : lv_has ls 1 [(0, .ref h0)] := hl
  refine lv_aload_n hx hb dX2_init_0 rfl (lv_at hl 0 rfl) ?_
  refine W.objInit hx hb hown (hU _ mU_39) (hU _ mU_11) (hU _ mU_12) rfl (by rw [hml]; exact hl.1) rfl dX2_init_1 (Nat.le_of_ble_eq_true rfl) (Nat.le_of_ble_eq_true rfl) ?_
  refine W.eq (g2 := F0 m 4 ls []) rfl ?_
  refine lv_aload_n hx hb dX2_init_4 rfl (lv_at hl 0 rfl) ?_
  refine lv_iconst (v := nI 4294967295) hx hb dX2_init_5 (by decide) ?_
  refine va_put (D := D) (ci := 2) (v := .int (nI 4294967295)) (ty := .int) (C := RX2) (T := TX2) (N := 4) hx hb hU iX2 tyX2 tyX2_ok nmX2 hown hK hP hD hS 0 rfl rfl 0 (by decide) (hU _ mU_40) (fun _ h9 => h9) rfl (by decide +kernel) rfl rfl (Nat.le_of_ble_eq_true rfl) dX2_init_6 (fun H locs hP hD hS => ?_)
  have hP : va_P D vwCl [(h0, .inr (2, [.int (nI 4294967295), .int 0, .int 0, .int 0]))] H := hP
  have hD : va_D Ar [(h0, .inr (2, [.int (nI 4294967295), .int 0, .int 0, .int 0]))] := hD
  refine lv_aload_n hx hb dX2_init_9 rfl (lv_at hl 0 rfl) ?_
  refine lv_iconst (v := nI 4294967295) hx hb dX2_init_10 (by decide) ?_
  refine va_put (D := D) (ci := 2) (v := .int (nI 4294967295)) (ty := .int) (C := RX2) (T := TX2) (N := 4) hx hb hU iX2 tyX2 tyX2_ok nmX2 hown hK hP hD hS 0 rfl rfl 1 (by decide) (hU _ mU_41) (fun _ h9 => h9) rfl (by decide +kernel) rfl rfl (Nat.le_of_ble_eq_true rfl) dX2_init_11 (fun H locs hP hD hS => ?_)
  have hP : va_P D vwCl [(h0, .inr (2, [.int (nI 4294967295), .int (nI 4294967295), .int 0, .int 0]))] H := hP
  have hD : va_D Ar [(h0, .inr (2, [.int (nI 4294967295), .int (nI 4294967295), .int 0, .int 0]))] := hD
  refine lv_aload_n hx hb dX2_init_14 rfl (lv_at hl 0 rfl) ?_
  refine lv_iconst (v := nI 4294967295) hx hb dX2_init_15 (by decide) ?_
  refine va_put (D := D) (ci := 2) (v := .int (nI 4294967295)) (ty := .int) (C := RX2) (T := TX2) (N := 4) hx hb hU iX2 tyX2 tyX2_ok nmX2 hown hK hP hD hS 0 rfl rfl 2 (by decide) (hU _ mU_42) (fun _ h9 => h9) rfl (by decide +kernel) rfl rfl (Nat.le_of_ble_eq_true rfl) dX2_init_16 (fun H locs hP hD hS => ?_)
  have hP : va_P D vwCl [(h0, .inr (2, [.int (nI 4294967295), .int (nI 4294967295), .int (nI 4294967295), .int 0]))] H := hP
  have hD : va_D Ar [(h0, .inr (2, [.int (nI 4294967295), .int (nI 4294967295), .int (nI 4294967295), .int 0]))] := hD
  refine lv_aload_n hx hb dX2_init_19 rfl (lv_at hl 0 rfl) ?_
  refine lv_iconst (v := nI 0) hx hb dX2_init_20 (by decide) ?_
  refine va_put (D := D) (ci := 2) (v := .int (nI 0)) (ty := .int) (C := RX2) (T := TX2) (N := 4) hx hb hU iX2 tyX2 tyX2_ok nmX2 hown hK hP hD hS 0 rfl rfl 3 (by decide) (hU _ mU_43) (fun _ h9 => h9) rfl (by decide +kernel) rfl rfl (Nat.le_of_ble_eq_true rfl) dX2_init_21 (fun H locs hP hD hS => ?_)
  have hP : va_P D vwCl [(h0, .inr (2, [.int (nI 4294967295), .int (nI 4294967295), .int (nI 4294967295), .int (nI 0)]))] H := hP
  have hD : va_D Ar [(h0, .inr (2, [.int (nI 4294967295), .int (nI 4294967295), .int (nI 4294967295), .int (nI 0)]))] := hD
  subst hQ
  exact rwv () hx hb hr hlocks (trivial) hP hK hD hS dX2_init_24

set_option maxHeartbeats 4000000 in
set_option maxRecDepth 100000 in
theorem c_X3_init (l : Launch) (D : va_G) (h0 : Nat) (sz : Nat)  : Met l yX3_init (.code yX3_init cX3_init 1 none :: wsL_law) ({ frames := 1, cells := 3, slots := 2424, locals := 12 }) (va_Pc [.ref h0] (PW D ([(h0, .inr (3, [.null, .null, .null, .int 0, .int 0, .int 0, .int 0, .int 0, .int 0]))]) ([]) sz)) (va_Qv (fun _ => True) (QW D (fun u : Nat × Nat × Nat × ClassId × ClassId × ClassId => wW h0 u.1 u.2.1 u.2.2.1 u.2.2.2.1 u.2.2.2.2.1 u.2.2.2.2.2 700 1024 0 0 0 0 0 0 (fun _ => 0) (fun _ => 0) (fun _ => 0)) (fun u => wT u.2.2.2.1 u.2.2.2.2.1 u.2.2.2.2.2) (va_A ([(h0, .inr (3, [.null, .null, .null, .int 0, .int 0, .int 0, .int 0, .int 0, .int 0]))]) sz)) (va_A ([(h0, .inr (3, [.null, .null, .null, .int 0, .int 0, .int 0, .int 0, .int 0, .int 0]))]) sz)) 3 2424 (va_A ([(h0, .inr (3, [.null, .null, .null, .int 0, .int 0, .int 0, .int 0, .int 0, .int 0]))]) sz) := by
  refine Met.ofW (cc := cX3_init) (maxL := 1) (ret := none) (by decide) rfl ?_
  intro p e s m args below meth c s₁ B hml hv
  obtain ⟨rfl, hsz, hP, hK, hD0⟩ := hv
  have hx := B.exec
  have hb := B.bytes
  have hr := B.returns
  have hts := atoms_spec (ws := .code yX3_init cX3_init 1 none :: wsL_law) B.pre
  have hU : ∀ w ∈ wsL_law, w.before _ s = true := fun w h => hts w (List.mem_cons_of_mem _ h)
  have hown : s.vm.findClass RX3 = some m.cls := findClass_of_methodNamed B.named
  have hlocks := B.notSynchronized
  have hin : meth.name = "<init>" := (name_of_methodNamed B.named B.method).1
  subst hsz
  have hD := hD0.self (sz := s.heap.size)
  generalize hAe : va_A ([(h0, .inr (3, [.null, .null, .null, .int 0, .int 0, .int 0, .int 0, .int 0, .int 0]))]) s.heap.size = Ar at hD ⊢
  have hA : ∀ q : Nat, s.heap.size ≤ q → Ar q := fun q h => by rw [← hAe]; exact Or.inr h
  have hS : va_S Ar s.heap s.heap [] := va_S.rf
  have hP : va_P D vwCl [(h0, .inr (3, [.null, .null, .null, .int 0, .int 0, .int 0, .int 0, .int 0, .int 0]))] s.heap := hP
  have hD : va_D Ar [(h0, .inr (3, [.null, .null, .null, .int 0, .int 0, .int 0, .int 0, .int 0, .int 0]))] := hD
  generalize hQ : MQ _ _ _ _ _ _ _ = Q
  have hl := lv_entry ([.ref h0]) (n := 1) (Nat.le_of_ble_eq_true rfl)
  rw [lg_entry_eq]
  generalize (lg_sl ([.ref h0]) ++ List.replicate (1 - (lg_sl ([.ref h0])).length) Slot.unset).toArray = ls at hl ⊢
  have hl : lv_has ls 1 [(0, .ref h0)] := hl
  refine lv_aload_n hx hb dX3_init_0 rfl (lv_at hl 0 rfl) ?_
  refine W.objInit hx hb hown (hU _ mU_60) (hU _ mU_11) (hU _ mU_12) rfl (by rw [hml]; exact hl.1) rfl dX3_init_1 (Nat.le_of_ble_eq_true rfl) (Nat.le_of_ble_eq_true rfl) ?_
  refine W.eq (g2 := F0 m 4 ls []) rfl ?_
  refine lv_aload_n hx hb dX3_init_4 rfl (lv_at hl 0 rfl) ?_
  refine lv_sipush (v := nI 700) hx hb dX3_init_5 (by decide) ?_
  refine va_newa (atype := .long) (ty := .long) (N' := 700) (a0 := (700, .inr (.inl (lA (fun _ => 0))))) hx hb (hU _ mU_61) rfl hK hP hD hS hA (fun _ => rfl) (by decide) (by decide) (by decide) (Nat.le_of_ble_eq_true rfl) (Nat.le_of_ble_eq_true rfl) dX3_init_8 (fun q_1 ca_2 H hK hP hD hS => ?_)
  have hP : va_P D vwCl [(h0, .inr (3, [.null, .null, .null, .int 0, .int 0, .int 0, .int 0, .int 0, .int 0])), (q_1, .inl (ca_2, 700, .inr (.inl (lA (fun _ => 0)))))] H := hP
  have hD : va_D Ar [(h0, .inr (3, [.null, .null, .null, .int 0, .int 0, .int 0, .int 0, .int 0, .int 0])), (q_1, .inl (ca_2, 700, .inr (.inl (lA (fun _ => 0)))))] := hD
  have hK : va_K D vwCl [(ca_2, .long)] s := hK
  refine va_put (D := D) (ci := 3) (v := .ref q_1) (ty := .array .long) (C := RX3) (T := TX3) (N := 9) hx hb hU iX3 tyX3 tyX3_ok nmX3 hown hK hP hD hS 0 rfl rfl 0 (by decide) (hU _ mU_62) (fun _ h9 => h9) rfl (by decide +kernel) rfl rfl (Nat.le_of_ble_eq_true rfl) dX3_init_10 (fun H locs hP hD hS => ?_)
  have hP : va_P D vwCl [(h0, .inr (3, [.ref q_1, .null, .null, .int 0, .int 0, .int 0, .int 0, .int 0, .int 0])), (q_1, .inl (ca_2, 700, .inr (.inl (lA (fun _ => 0)))))] H := hP
  have hD : va_D Ar [(h0, .inr (3, [.ref q_1, .null, .null, .int 0, .int 0, .int 0, .int 0, .int 0, .int 0])), (q_1, .inl (ca_2, 700, .inr (.inl (lA (fun _ => 0)))))] := hD
  refine lv_aload_n hx hb dX3_init_13 rfl (lv_at hl 0 rfl) ?_
  refine lv_sipush (v := nI 700) hx hb dX3_init_14 (by decide) ?_
  refine va_newa (atype := .int) (ty := .int) (N' := 700) (a0 := (700, .inl (nA (fun _ => 0)))) hx hb (hU _ mU_34) rfl hK hP hD hS hA (fun _ => rfl) (by decide) (by decide) (by decide) (Nat.le_of_ble_eq_true rfl) (Nat.le_of_ble_eq_true rfl) dX3_init_17 (fun q_3 ca_4 H hK hP hD hS => ?_)
  have hP : va_P D vwCl [(h0, .inr (3, [.ref q_1, .null, .null, .int 0, .int 0, .int 0, .int 0, .int 0, .int 0])), (q_1, .inl (ca_2, 700, .inr (.inl (lA (fun _ => 0))))), (q_3, .inl (ca_4, 700, .inl (nA (fun _ => 0))))] H := hP
  have hD : va_D Ar [(h0, .inr (3, [.ref q_1, .null, .null, .int 0, .int 0, .int 0, .int 0, .int 0, .int 0])), (q_1, .inl (ca_2, 700, .inr (.inl (lA (fun _ => 0))))), (q_3, .inl (ca_4, 700, .inl (nA (fun _ => 0))))] := hD
  have hK : va_K D vwCl [(ca_2, .long), (ca_4, .int)] s := hK
  refine va_put (D := D) (ci := 3) (v := .ref q_3) (ty := .array .int) (C := RX3) (T := TX3) (N := 9) hx hb hU iX3 tyX3 tyX3_ok nmX3 hown hK hP hD hS 0 rfl rfl 1 (by decide) (hU _ mU_63) (fun _ h9 => h9) rfl (by decide +kernel) rfl rfl (Nat.le_of_ble_eq_true rfl) dX3_init_19 (fun H locs hP hD hS => ?_)
  have hP : va_P D vwCl [(h0, .inr (3, [.ref q_1, .ref q_3, .null, .int 0, .int 0, .int 0, .int 0, .int 0, .int 0])), (q_1, .inl (ca_2, 700, .inr (.inl (lA (fun _ => 0))))), (q_3, .inl (ca_4, 700, .inl (nA (fun _ => 0))))] H := hP
  have hD : va_D Ar [(h0, .inr (3, [.ref q_1, .ref q_3, .null, .int 0, .int 0, .int 0, .int 0, .int 0, .int 0])), (q_1, .inl (ca_2, 700, .inr (.inl (lA (fun _ => 0))))), (q_3, .inl (ca_4, 700, .inl (nA (fun _ => 0))))] := hD
  refine lv_aload_n hx hb dX3_init_22 rfl (lv_at hl 0 rfl) ?_
  refine lv_sipush (v := nI 1024) hx hb dX3_init_23 (by decide) ?_
  refine va_newa (atype := .int) (ty := .int) (N' := 1024) (a0 := (1024, .inl (nA (fun _ => 0)))) hx hb (hU _ mU_34) rfl hK hP hD hS hA (fun _ => rfl) (by decide) (by decide) (by decide) (Nat.le_of_ble_eq_true rfl) (Nat.le_of_ble_eq_true rfl) dX3_init_26 (fun q_5 ca_6 H hK hP hD hS => ?_)
  have hP : va_P D vwCl [(h0, .inr (3, [.ref q_1, .ref q_3, .null, .int 0, .int 0, .int 0, .int 0, .int 0, .int 0])), (q_1, .inl (ca_2, 700, .inr (.inl (lA (fun _ => 0))))), (q_3, .inl (ca_4, 700, .inl (nA (fun _ => 0)))), (q_5, .inl (ca_6, 1024, .inl (nA (fun _ => 0))))] H := hP
  have hD : va_D Ar [(h0, .inr (3, [.ref q_1, .ref q_3, .null, .int 0, .int 0, .int 0, .int 0, .int 0, .int 0])), (q_1, .inl (ca_2, 700, .inr (.inl (lA (fun _ => 0))))), (q_3, .inl (ca_4, 700, .inl (nA (fun _ => 0)))), (q_5, .inl (ca_6, 1024, .inl (nA (fun _ => 0))))] := hD
  have hK : va_K D vwCl [(ca_2, .long), (ca_4, .int), (ca_6, .int)] s := hK
  refine va_put (D := D) (ci := 3) (v := .ref q_5) (ty := .array .int) (C := RX3) (T := TX3) (N := 9) hx hb hU iX3 tyX3 tyX3_ok nmX3 hown hK hP hD hS 0 rfl rfl 2 (by decide) (hU _ mU_64) (fun _ h9 => h9) rfl (by decide +kernel) rfl rfl (Nat.le_of_ble_eq_true rfl) dX3_init_28 (fun H locs hP hD hS => ?_)
  have hP : va_P D vwCl [(h0, .inr (3, [.ref q_1, .ref q_3, .ref q_5, .int 0, .int 0, .int 0, .int 0, .int 0, .int 0])), (q_1, .inl (ca_2, 700, .inr (.inl (lA (fun _ => 0))))), (q_3, .inl (ca_4, 700, .inl (nA (fun _ => 0)))), (q_5, .inl (ca_6, 1024, .inl (nA (fun _ => 0))))] H := hP
  have hD : va_D Ar [(h0, .inr (3, [.ref q_1, .ref q_3, .ref q_5, .int 0, .int 0, .int 0, .int 0, .int 0, .int 0])), (q_1, .inl (ca_2, 700, .inr (.inl (lA (fun _ => 0))))), (q_3, .inl (ca_4, 700, .inl (nA (fun _ => 0)))), (q_5, .inl (ca_6, 1024, .inl (nA (fun _ => 0))))] := hD
  refine lv_aload_n hx hb dX3_init_31 rfl (lv_at hl 0 rfl) ?_
  refine lv_iconst (v := nI 0) hx hb dX3_init_32 (by decide) ?_
  refine va_put (D := D) (ci := 3) (v := .int (nI 0)) (ty := .int) (C := RX3) (T := TX3) (N := 9) hx hb hU iX3 tyX3 tyX3_ok nmX3 hown hK hP hD hS 0 rfl rfl 3 (by decide) (hU _ mU_65) (fun _ h9 => h9) rfl (by decide +kernel) rfl rfl (Nat.le_of_ble_eq_true rfl) dX3_init_33 (fun H locs hP hD hS => ?_)
  have hP : va_P D vwCl [(h0, .inr (3, [.ref q_1, .ref q_3, .ref q_5, .int (nI 0), .int 0, .int 0, .int 0, .int 0, .int 0])), (q_1, .inl (ca_2, 700, .inr (.inl (lA (fun _ => 0))))), (q_3, .inl (ca_4, 700, .inl (nA (fun _ => 0)))), (q_5, .inl (ca_6, 1024, .inl (nA (fun _ => 0))))] H := hP
  have hD : va_D Ar [(h0, .inr (3, [.ref q_1, .ref q_3, .ref q_5, .int (nI 0), .int 0, .int 0, .int 0, .int 0, .int 0])), (q_1, .inl (ca_2, 700, .inr (.inl (lA (fun _ => 0))))), (q_3, .inl (ca_4, 700, .inl (nA (fun _ => 0)))), (q_5, .inl (ca_6, 1024, .inl (nA (fun _ => 0))))] := hD
  refine lv_aload_n hx hb dX3_init_36 rfl (lv_at hl 0 rfl) ?_
  refine lv_iconst (v := nI 0) hx hb dX3_init_37 (by decide) ?_
  refine va_put (D := D) (ci := 3) (v := .int (nI 0)) (ty := .int) (C := RX3) (T := TX3) (N := 9) hx hb hU iX3 tyX3 tyX3_ok nmX3 hown hK hP hD hS 0 rfl rfl 4 (by decide) (hU _ mU_66) (fun _ h9 => h9) rfl (by decide +kernel) rfl rfl (Nat.le_of_ble_eq_true rfl) dX3_init_38 (fun H locs hP hD hS => ?_)
  have hP : va_P D vwCl [(h0, .inr (3, [.ref q_1, .ref q_3, .ref q_5, .int (nI 0), .int (nI 0), .int 0, .int 0, .int 0, .int 0])), (q_1, .inl (ca_2, 700, .inr (.inl (lA (fun _ => 0))))), (q_3, .inl (ca_4, 700, .inl (nA (fun _ => 0)))), (q_5, .inl (ca_6, 1024, .inl (nA (fun _ => 0))))] H := hP
  have hD : va_D Ar [(h0, .inr (3, [.ref q_1, .ref q_3, .ref q_5, .int (nI 0), .int (nI 0), .int 0, .int 0, .int 0, .int 0])), (q_1, .inl (ca_2, 700, .inr (.inl (lA (fun _ => 0))))), (q_3, .inl (ca_4, 700, .inl (nA (fun _ => 0)))), (q_5, .inl (ca_6, 1024, .inl (nA (fun _ => 0))))] := hD
  refine lv_aload_n hx hb dX3_init_41 rfl (lv_at hl 0 rfl) ?_
  refine lv_iconst (v := nI 0) hx hb dX3_init_42 (by decide) ?_
  refine va_put (D := D) (ci := 3) (v := .int (nI 0)) (ty := .int) (C := RX3) (T := TX3) (N := 9) hx hb hU iX3 tyX3 tyX3_ok nmX3 hown hK hP hD hS 0 rfl rfl 5 (by decide) (hU _ mU_67) (fun _ h9 => h9) rfl (by decide +kernel) rfl rfl (Nat.le_of_ble_eq_true rfl) dX3_init_43 (fun H locs hP hD hS => ?_)
  have hP : va_P D vwCl [(h0, .inr (3, [.ref q_1, .ref q_3, .ref q_5, .int (nI 0), .int (nI 0), .int (nI 0), .int 0, .int 0, .int 0])), (q_1, .inl (ca_2, 700, .inr (.inl (lA (fun _ => 0))))), (q_3, .inl (ca_4, 700, .inl (nA (fun _ => 0)))), (q_5, .inl (ca_6, 1024, .inl (nA (fun _ => 0))))] H := hP
  have hD : va_D Ar [(h0, .inr (3, [.ref q_1, .ref q_3, .ref q_5, .int (nI 0), .int (nI 0), .int (nI 0), .int 0, .int 0, .int 0])), (q_1, .inl (ca_2, 700, .inr (.inl (lA (fun _ => 0))))), (q_3, .inl (ca_4, 700, .inl (nA (fun _ => 0)))), (q_5, .inl (ca_6, 1024, .inl (nA (fun _ => 0))))] := hD
  refine lv_aload_n hx hb dX3_init_46 rfl (lv_at hl 0 rfl) ?_
  refine lv_iconst (v := nI 0) hx hb dX3_init_47 (by decide) ?_
  refine va_put (D := D) (ci := 3) (v := .int (nI 0)) (ty := .int) (C := RX3) (T := TX3) (N := 9) hx hb hU iX3 tyX3 tyX3_ok nmX3 hown hK hP hD hS 0 rfl rfl 6 (by decide) (hU _ mU_68) (fun _ h9 => h9) rfl (by decide +kernel) rfl rfl (Nat.le_of_ble_eq_true rfl) dX3_init_48 (fun H locs hP hD hS => ?_)
  have hP : va_P D vwCl [(h0, .inr (3, [.ref q_1, .ref q_3, .ref q_5, .int (nI 0), .int (nI 0), .int (nI 0), .int (nI 0), .int 0, .int 0])), (q_1, .inl (ca_2, 700, .inr (.inl (lA (fun _ => 0))))), (q_3, .inl (ca_4, 700, .inl (nA (fun _ => 0)))), (q_5, .inl (ca_6, 1024, .inl (nA (fun _ => 0))))] H := hP
  have hD : va_D Ar [(h0, .inr (3, [.ref q_1, .ref q_3, .ref q_5, .int (nI 0), .int (nI 0), .int (nI 0), .int (nI 0), .int 0, .int 0])), (q_1, .inl (ca_2, 700, .inr (.inl (lA (fun _ => 0))))), (q_3, .inl (ca_4, 700, .inl (nA (fun _ => 0)))), (q_5, .inl (ca_6, 1024, .inl (nA (fun _ => 0))))] := hD
  refine lv_aload_n hx hb dX3_init_51 rfl (lv_at hl 0 rfl) ?_
  refine lv_iconst (v := nI 0) hx hb dX3_init_52 (by decide) ?_
  refine va_put (D := D) (ci := 3) (v := .int (nI 0)) (ty := .int) (C := RX3) (T := TX3) (N := 9) hx hb hU iX3 tyX3 tyX3_ok nmX3 hown hK hP hD hS 0 rfl rfl 7 (by decide) (hU _ mU_69) (fun _ h9 => h9) rfl (by decide +kernel) rfl rfl (Nat.le_of_ble_eq_true rfl) dX3_init_53 (fun H locs hP hD hS => ?_)
  have hP : va_P D vwCl [(h0, .inr (3, [.ref q_1, .ref q_3, .ref q_5, .int (nI 0), .int (nI 0), .int (nI 0), .int (nI 0), .int (nI 0), .int 0])), (q_1, .inl (ca_2, 700, .inr (.inl (lA (fun _ => 0))))), (q_3, .inl (ca_4, 700, .inl (nA (fun _ => 0)))), (q_5, .inl (ca_6, 1024, .inl (nA (fun _ => 0))))] H := hP
  have hD : va_D Ar [(h0, .inr (3, [.ref q_1, .ref q_3, .ref q_5, .int (nI 0), .int (nI 0), .int (nI 0), .int (nI 0), .int (nI 0), .int 0])), (q_1, .inl (ca_2, 700, .inr (.inl (lA (fun _ => 0))))), (q_3, .inl (ca_4, 700, .inl (nA (fun _ => 0)))), (q_5, .inl (ca_6, 1024, .inl (nA (fun _ => 0))))] := hD
  refine lv_aload_n hx hb dX3_init_56 rfl (lv_at hl 0 rfl) ?_
  refine lv_iconst (v := nI 0) hx hb dX3_init_57 (by decide) ?_
  refine va_put (D := D) (ci := 3) (v := .int (nI 0)) (ty := .boolean) (C := RX3) (T := TX3) (N := 9) hx hb hU iX3 tyX3 tyX3_ok nmX3 hown hK hP hD hS 0 rfl rfl 8 (by decide) (hU _ mU_70) (fun _ h9 => h9) rfl (by decide +kernel) rfl rfl (Nat.le_of_ble_eq_true rfl) dX3_init_58 (fun H locs hP hD hS => ?_)
  have hP : va_P D vwCl [(h0, .inr (3, [.ref q_1, .ref q_3, .ref q_5, .int (nI 0), .int (nI 0), .int (nI 0), .int (nI 0), .int (nI 0), .int (nI 0)])), (q_1, .inl (ca_2, 700, .inr (.inl (lA (fun _ => 0))))), (q_3, .inl (ca_4, 700, .inl (nA (fun _ => 0)))), (q_5, .inl (ca_6, 1024, .inl (nA (fun _ => 0))))] H := hP
  have hD : va_D Ar [(h0, .inr (3, [.ref q_1, .ref q_3, .ref q_5, .int (nI 0), .int (nI 0), .int (nI 0), .int (nI 0), .int (nI 0), .int (nI 0)])), (q_1, .inl (ca_2, 700, .inr (.inl (lA (fun _ => 0))))), (q_3, .inl (ca_4, 700, .inl (nA (fun _ => 0)))), (q_5, .inl (ca_6, 1024, .inl (nA (fun _ => 0))))] := hD
  subst hQ
  refine W.widen (k := 3) (n := 2424) (by omega) (by omega) ?_
  exact rwv (q_1, q_3, q_5, ca_2, ca_4, ca_6) hx hb hr hlocks (trivial) hP hK hD hS dX3_init_61

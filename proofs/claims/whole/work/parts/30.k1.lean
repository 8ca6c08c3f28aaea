def wishA (qu pl : Nat) : Nat := if qu / 2 ^ (3 * pl) % 8 = 0 then 4294967295 else qu / 2 ^ (3 * pl) % 8 - 1
theorem wishA_eq {qu pl : Nat} : nI (qu / 2 ^ (3 * pl) % 8) - nI 1 = nI (wishA qu pl) := by
  unfold wishA
  split
  · rename_i e; rw [e]; decide
  · exact pk_sub (by omega)
theorem wishA_or (qu pl : Nat) : wishA qu pl < 7 ∨ wishA qu pl = 4294967295 := by
  unfold wishA
  split
  · exact Or.inr rfl
  · exact Or.inl (by omega)
theorem z_places {a b : Nat} (ha : a < 8) (hb : b < 8) : (lN a <<< ((nI 16).toInt64 &&& 63)) ||| (lN b <<< ((nI 19).toInt64 &&& 63)) = lN (a * 65536 + b * 524288) := by
  rw [wb_shl a (by decide), wb_shl b (by decide), wb_or (by omega) (by omega), Nat.or_comm]
  congr 1
  have := Nat.two_pow_add_eq_or_of_lt (i := 19) (b := a * 2 ^ 16) (by omega) b
  rw [Nat.mul_comm b (2 ^ 19), ← this]
  omega
set_option maxHeartbeats 4000000 in
set_option maxRecDepth 100000 in
theorem c_X0_bits (l : Launch) (sx : Nat) (pt : Nat) (wd : Nat) (hsx : sx < 2 ^ 62) (hpt : pt < 64) : Met l yX0_bits (.code yX0_bits cX0_bits 4 (some .int) :: wsL_law) ({ frames := 0, cells := 0, slots := 0, locals := 0 }) (va_Pc [.long (lN sx), .int (nI pt), .int (nI (2 ^ wd - 1))] PU) (QrI (nI (bitsN sx pt wd))) 0 0 (fun _ => False) := by
  refine Met.ofW (cc := cX0_bits) (maxL := 4) (ret := (some .int)) (by decide) rfl ?_
  intro p e s m args below meth c s₁ B hml hv
  obtain ⟨rfl, hv⟩ := hv
  have hx := B.exec
  have hb := B.bytes
  have hr := B.returns
  have hts := atoms_spec (ws := .code yX0_bits cX0_bits 4 (some .int) :: wsL_law) B.pre
  have hU : ∀ w ∈ wsL_law, w.before _ s = true := fun w h => hts w (List.mem_cons_of_mem _ h)
  have hown : s.vm.findClass RX0 = some m.cls := findClass_of_methodNamed B.named
  have hlocks := B.notSynchronized
  generalize hQ : MQ _ _ _ _ _ _ _ = Q
  have hl := lv_entry ([.long (lN sx), .int (nI pt), .int (nI (2 ^ wd - 1))]) (n := 4) (Nat.le_of_ble_eq_true rfl)
  rw [lg_entry_eq]
  generalize (lg_sl ([.long (lN sx), .int (nI pt), .int (nI (2 ^ wd - 1))]) ++ List.replicate (4 - (lg_sl ([.long (lN sx), .int (nI pt), .int (nI (2 ^ wd - 1))])).length) Slot.unset).toArray = ls at hl ⊢
  have hl : lv_has ls 4 [(0, .long (lN sx)), (2, .int (nI pt)), (3, .int (nI (2 ^ wd - 1)))] := hl
  refine lv_lload_n hx hb dX0_bits_0 rfl (lv_at hl 0 rfl) ?_
  refine lv_iload_n hx hb dX0_bits_1 rfl (lv_at hl 1 rfl) ?_
  refine lv_lushr hx hb dX0_bits_2 rfl ?_
  refine lv_l2i hx hb dX0_bits_3 rfl ?_
  refine lv_iload_n hx hb dX0_bits_4 rfl (lv_at hl 2 rfl) ?_
  refine lv_iand hx hb dX0_bits_5 ?_
  subst hQ
  exact rti hx hb hr hlocks rfl (z_bitsU hsx hpt) dX0_bits_6

set_option maxHeartbeats 4000000 in
set_option maxRecDepth 100000 in
theorem c_X0_with (l : Launch) (sx : Nat) (pt : Nat) (wd : Nat) (v : Nat) (hsx : sx < 2 ^ 62) (hpw : pt + wd < 62) (hw9 : 2 ^ wd ≤ 512) (hv8 : v < 2147483648) (hv9 : v < 2 ^ wd) : Met l yX0_with (.code yX0_with cX0_with 5 (some .long) :: wsL_law) ({ frames := 0, cells := 0, slots := 0, locals := 0 }) (va_Pc [.long (lN sx), .int (nI pt), .int (nI (2 ^ wd - 1)), .int (nI v)] PU) (QrL (lN (withN sx pt wd v))) 0 0 (fun _ => False) := by
  refine Met.ofW (cc := cX0_with) (maxL := 5) (ret := (some .long)) (by decide) rfl ?_
  intro p e s m args below meth c s₁ B hml hv
  obtain ⟨rfl, hv⟩ := hv
  have hx := B.exec
  have hb := B.bytes
  have hr := B.returns
  have hts := atoms_spec (ws := .code yX0_with cX0_with 5 (some .long) :: wsL_law) B.pre
  have hU : ∀ w ∈ wsL_law, w.before _ s = true := fun w h => hts w (List.mem_cons_of_mem _ h)
  have hown : s.vm.findClass RX0 = some m.cls := findClass_of_methodNamed B.named
  have hlocks := B.notSynchronized
  generalize hQ : MQ _ _ _ _ _ _ _ = Q
  have hl := lv_entry ([.long (lN sx), .int (nI pt), .int (nI (2 ^ wd - 1)), .int (nI v)]) (n := 5) (Nat.le_of_ble_eq_true rfl)
  rw [lg_entry_eq]
  generalize (lg_sl ([.long (lN sx), .int (nI pt), .int (nI (2 ^ wd - 1)), .int (nI v)]) ++ List.replicate (5 - (lg_sl ([.long (lN sx), .int (nI pt), .int (nI (2 ^ wd - 1)), .int (nI v)])).length) Slot.unset).toArray = ls at hl ⊢
  have hl : lv_has ls 5 [(0, .long (lN sx)), (2, .int (nI pt)), (3, .int (nI (2 ^ wd - 1))), (4, .int (nI v))] := hl
  refine lv_lload_n hx hb dX0_with_0 rfl (lv_at hl 0 rfl) ?_
  refine lv_iload_n hx hb dX0_with_1 rfl (lv_at hl 2 rfl) ?_
  refine lv_i2l (v := lN (2 ^ wd - 1)) hx hb dX0_with_2 (nI_l (by omega)) ?_
  refine lv_iload_n hx hb dX0_with_3 rfl (lv_at hl 1 rfl) ?_
  refine lv_lshl hx hb dX0_with_4 rfl ?_
  refine lv_ldc2 (v := (-1)) hx hb hown (hU _ mU_391) dX0_with_5 ?_
  refine lv_lxor hx hb dX0_with_8 ?_
  refine lv_land hx hb dX0_with_9 ?_
  refine lv_iload hx hb dX0_with_10 (lv_at hl 3 rfl) ?_
  refine lv_i2l (v := lN v) hx hb dX0_with_12 (nI_l (by omega)) ?_
  refine lv_iload_n hx hb dX0_with_13 rfl (lv_at hl 1 rfl) ?_
  refine lv_lshl hx hb dX0_with_14 rfl ?_
  refine lv_lor hx hb dX0_with_15 ?_
  subst hQ
  exact rtl hx hb hr hlocks rfl (z_withC hsx hv9 hpw) dX0_with_16

set_option maxHeartbeats 4000000 in
set_option maxRecDepth 100000 in
theorem c_X0_registerAt (l : Launch) (h : Nat) (q : Nat) : Met l yX0_registerAt (.code yX0_registerAt cX0_registerAt 2 (some .int) :: wsL_law) ({ frames := 0, cells := 0, slots := 0, locals := 0 }) (va_Pc [.int (nI h), .int (nI q)] PU) (QrI (nI (8 + 4 * h + 2 * q))) 0 0 (fun _ => False) := by
  refine Met.ofW (cc := cX0_registerAt) (maxL := 2) (ret := (some .int)) (by decide) rfl ?_
  intro p e s m args below meth c s₁ B hml hv
  obtain ⟨rfl, hv⟩ := hv
  have hx := B.exec
  have hb := B.bytes
  have hr := B.returns
  have hts := atoms_spec (ws := .code yX0_registerAt cX0_registerAt 2 (some .int) :: wsL_law) B.pre
  have hU : ∀ w ∈ wsL_law, w.before _ s = true := fun w h => hts w (List.mem_cons_of_mem _ h)
  have hown : s.vm.findClass RX0 = some m.cls := findClass_of_methodNamed B.named
  have hlocks := B.notSynchronized
  generalize hQ : MQ _ _ _ _ _ _ _ = Q
  have hl := lv_entry ([.int (nI h), .int (nI q)]) (n := 2) (Nat.le_of_ble_eq_true rfl)
  rw [lg_entry_eq]
  generalize (lg_sl ([.int (nI h), .int (nI q)]) ++ List.replicate (2 - (lg_sl ([.int (nI h), .int (nI q)])).length) Slot.unset).toArray = ls at hl ⊢
  have hl : lv_has ls 2 [(0, .int (nI h)), (1, .int (nI q))] := hl
  refine lv_bipush (v := nI 8) hx hb dX0_registerAt_0 (by decide) ?_
  refine lv_iconst (v := nI 4) hx hb dX0_registerAt_2 (by decide) ?_
  refine lv_iload_n hx hb dX0_registerAt_3 rfl (lv_at hl 0 rfl) ?_
  refine lv_imul hx hb dX0_registerAt_4 ?_
  refine lv_topE (nI (4 * h)) (pk_mul _ _) ?_
  refine lv_iadd hx hb dX0_registerAt_5 ?_
  refine lv_topE (nI (8 + (4 * h))) (nI_add _ _) ?_
  refine lv_iconst (v := nI 2) hx hb dX0_registerAt_6 (by decide) ?_
  refine lv_iload_n hx hb dX0_registerAt_7 rfl (lv_at hl 1 rfl) ?_
  refine lv_imul hx hb dX0_registerAt_8 ?_
  refine lv_topE (nI (2 * q)) (pk_mul _ _) ?_
  refine lv_iadd hx hb dX0_registerAt_9 ?_
  refine lv_topE (nI ((8 + (4 * h)) + (2 * q))) (nI_add _ _) ?_
  subst hQ
  exact rti hx hb hr hlocks rfl (rfl) dX0_registerAt_10

set_option maxHeartbeats 4000000 in
set_option maxRecDepth 100000 in
theorem c_X0_queueOf (l : Launch) (sx : Nat) (h : Nat) (hsx : sx < 2 ^ 44) (hh : h < 2) : Met l yX0_queueOf (.code yX0_queueOf cX0_queueOf 3 (some .int) :: wsL_law) ({ frames := 1, cells := 0, slots := 0, locals := 23 }) (va_Pc [.long (lN sx), .int (nI h)] PU) (QrI (nI (bitsN sx (22 + 9 * h) 9))) 0 0 (fun _ => False) := by
  refine Met.ofW (cc := cX0_queueOf) (maxL := 3) (ret := (some .int)) (by decide) rfl ?_
  intro p e s m args below meth c s₁ B hml hv
  obtain ⟨rfl, hv⟩ := hv
  have hx := B.exec
  have hb := B.bytes
  have hr := B.returns
  have hts := atoms_spec (ws := .code yX0_queueOf cX0_queueOf 3 (some .int) :: wsL_law) B.pre
  have hU : ∀ w ∈ wsL_law, w.before _ s = true := fun w h => hts w (List.mem_cons_of_mem _ h)
  have hown : s.vm.findClass RX0 = some m.cls := findClass_of_methodNamed B.named
  have hlocks := B.notSynchronized
  generalize hQ : MQ _ _ _ _ _ _ _ = Q
  have hl := lv_entry ([.long (lN sx), .int (nI h)]) (n := 3) (Nat.le_of_ble_eq_true rfl)
  rw [lg_entry_eq]
  generalize (lg_sl ([.long (lN sx), .int (nI h)]) ++ List.replicate (3 - (lg_sl ([.long (lN sx), .int (nI h)])).length) Slot.unset).toArray = ls at hl ⊢
  have hl : lv_has ls 3 [(0, .long (lN sx)), (2, .int (nI h))] := hl
  refine lv_lload_n hx hb dX0_queueOf_0 rfl (lv_at hl 0 rfl) ?_
  refine lv_bipush (v := nI 22) hx hb dX0_queueOf_1 (by decide) ?_
  refine lv_bipush (v := nI 9) hx hb dX0_queueOf_3 (by decide) ?_
  refine lv_iload_n hx hb dX0_queueOf_5 rfl (lv_at hl 1 rfl) ?_
  refine lv_imul hx hb dX0_queueOf_6 ?_
  refine lv_topE (nI (9 * h)) (pk_mul _ _) ?_
  refine lv_iadd hx hb dX0_queueOf_7 ?_
  refine lv_topE (nI (22 + (9 * h))) (nI_add _ _) ?_
  refine lv_sipush (v := nI 511) hx hb dX0_queueOf_8 (by decide) ?_
  refine cSi (As := [.long (lN sx), .int (nI (22 + (9 * h))), .int (nI 511)]) (rest := []) ⟨hx, hb, hml, hown, hts⟩ (c_X0_bits l  sx (22 + (9 * h)) 9 (by omega) (by omega)) (va_cwS 3 hts (gS mU_398 mU_399 mU_27 mU_400) rfl rfl rfl (by decide +kernel) ⟨Nat.le_of_ble_eq_true rfl, Nat.le_of_ble_eq_true rfl⟩) fbU (fun _ _ _ => trivial) rfl hl.1 rfl (Nat.le_of_ble_eq_true rfl) dX0_queueOf_11 ⟨Nat.zero_le _, Nat.zero_le _⟩ ?_
  have hf_1 : bitsN sx (22 + (9 * h)) 9 < 2 ^ 9 := bitsN_lt _ _ _
  subst hQ
  exact rti hx hb hr hlocks rfl (by first | rfl | (omega)) dX0_queueOf_14

set_option maxHeartbeats 4000000 in
set_option maxRecDepth 100000 in
theorem c_X0_isStopped (l : Launch) (sx : Nat) (h : Nat) (hsx : sx < 2 ^ 44) (hh : h < 2) : Met l yX0_isStopped (.code yX0_isStopped cX0_isStopped 3 (some .boolean) :: wsL_law) ({ frames := 1, cells := 0, slots := 0, locals := 23 }) (va_Pc [.long (lN sx), .int (nI h)] PU) (QrI (bP (¬ bitsN sx (40 + h) 1 = 0 ∨ ¬ bitsN sx (42 + h) 1 = 0))) 0 0 (fun _ => False) := by
  refine Met.ofW (cc := cX0_isStopped) (maxL := 3) (ret := (some .boolean)) (by decide) rfl ?_
  intro p e s m args below meth c s₁ B hml hv
  obtain ⟨rfl, hv⟩ := hv
  have hx := B.exec
  have hb := B.bytes
  have hr := B.returns
  have hts := atoms_spec (ws := .code yX0_isStopped cX0_isStopped 3 (some .boolean) :: wsL_law) B.pre
  have hU : ∀ w ∈ wsL_law, w.before _ s = true := fun w h => hts w (List.mem_cons_of_mem _ h)
  have hown : s.vm.findClass RX0 = some m.cls := findClass_of_methodNamed B.named
  have hlocks := B.notSynchronized
  generalize hQ : MQ _ _ _ _ _ _ _ = Q
  have hl := lv_entry ([.long (lN sx), .int (nI h)]) (n := 3) (Nat.le_of_ble_eq_true rfl)
  rw [lg_entry_eq]
  generalize (lg_sl ([.long (lN sx), .int (nI h)]) ++ List.replicate (3 - (lg_sl ([.long (lN sx), .int (nI h)])).length) Slot.unset).toArray = ls at hl ⊢
  have hl : lv_has ls 3 [(0, .long (lN sx)), (2, .int (nI h))] := hl
  refine lv_lload_n hx hb dX0_isStopped_0 rfl (lv_at hl 0 rfl) ?_
  refine lv_bipush (v := nI 40) hx hb dX0_isStopped_1 (by decide) ?_
  refine lv_iload_n hx hb dX0_isStopped_3 rfl (lv_at hl 1 rfl) ?_
  refine lv_iadd hx hb dX0_isStopped_4 ?_
  refine lv_topE (nI (40 + h)) (nI_add _ _) ?_
  refine lv_iconst (v := nI 1) hx hb dX0_isStopped_5 (by decide) ?_
  refine cSi (As := [.long (lN sx), .int (nI (40 + h)), .int (nI 1)]) (rest := []) ⟨hx, hb, hml, hown, hts⟩ (c_X0_bits l  sx (40 + h) 1 (by omega) (by omega)) (va_cwS 3 hts (gS mU_398 mU_399 mU_27 mU_400) rfl rfl rfl (by decide +kernel) ⟨Nat.le_of_ble_eq_true rfl, Nat.le_of_ble_eq_true rfl⟩) fbU (fun _ _ _ => trivial) rfl hl.1 rfl (Nat.le_of_ble_eq_true rfl) dX0_isStopped_6 ⟨Nat.zero_le _, Nat.zero_le _⟩ ?_
  have hf_1 : bitsN sx (40 + h) 1 < 2 ^ 1 := bitsN_lt _ _ _
  refine lv_if_ne (tgt := 24) hx hb dX0_isStopped_9 (by decide) (fun c9_2 => ?_) (fun c9_2 => ?_)
  · have c9_2 : ¬ (bitsN sx (40 + h) 1 = 0) := fun h9 => c9_2 ((nI_eqG (a := bitsN sx (40 + h) 1) (b := 0) (by omega) (by omega)).mpr h9)
    refine lv_iconst (v := nI 1) hx hb dX0_isStopped_24 (by decide) ?_
    refine lv_goto (tgt := 29) hx hb dX0_isStopped_25 (by decide) ?_
    subst hQ
    exact rtz hx hb hr hlocks rfl rfl (bP_1 (by omega)) dX0_isStopped_29
  · have c9_2 : bitsN sx (40 + h) 1 = 0 := (nI_eqG (a := bitsN sx (40 + h) 1) (b := 0) (by omega) (by omega)).mp c9_2
    refine lv_lload_n hx hb dX0_isStopped_12 rfl (lv_at hl 0 rfl) ?_
    refine lv_bipush (v := nI 42) hx hb dX0_isStopped_13 (by decide) ?_
    refine lv_iload_n hx hb dX0_isStopped_15 rfl (lv_at hl 1 rfl) ?_
    refine lv_iadd hx hb dX0_isStopped_16 ?_
    refine lv_topE (nI (42 + h)) (nI_add _ _) ?_
    refine lv_iconst (v := nI 1) hx hb dX0_isStopped_17 (by decide) ?_
    refine cSi (As := [.long (lN sx), .int (nI (42 + h)), .int (nI 1)]) (rest := []) ⟨hx, hb, hml, hown, hts⟩ (c_X0_bits l  sx (42 + h) 1 (by omega) (by omega)) (va_cwS 3 hts (gS mU_398 mU_399 mU_27 mU_400) rfl rfl rfl (by decide +kernel) ⟨Nat.le_of_ble_eq_true rfl, Nat.le_of_ble_eq_true rfl⟩) fbU (fun _ _ _ => trivial) rfl hl.1 rfl (Nat.le_of_ble_eq_true rfl) dX0_isStopped_18 ⟨Nat.zero_le _, Nat.zero_le _⟩ ?_
    have hf_3 : bitsN sx (42 + h) 1 < 2 ^ 1 := bitsN_lt _ _ _
    refine lv_if_eq (tgt := 28) hx hb dX0_isStopped_21 (by decide) (fun c21_4 => ?_) (fun c21_4 => ?_)
    · have c21_4 : bitsN sx (42 + h) 1 = 0 := (nI_eqG (a := bitsN sx (42 + h) 1) (b := 0) (by omega) (by omega)).mp c21_4
      refine lv_iconst (v := nI 0) hx hb dX0_isStopped_28 (by decide) ?_
      subst hQ
      exact rtz hx hb hr hlocks rfl rfl (bP_0 (by omega)) dX0_isStopped_29
    · have c21_4 : ¬ (bitsN sx (42 + h) 1 = 0) := fun h9 => c21_4 ((nI_eqG (a := bitsN sx (42 + h) 1) (b := 0) (by omega) (by omega)).mpr h9)
      refine lv_iconst (v := nI 1) hx hb dX0_isStopped_24 (by decide) ?_
      refine lv_goto (tgt := 29) hx hb dX0_isStopped_25 (by decide) ?_
      subst hQ
      exact rtz hx hb hr hlocks rfl rfl (bP_1 (by omega)) dX0_isStopped_29

set_option maxHeartbeats 4000000 in
set_option maxRecDepth 100000 in
theorem c_X0_wishAt (l : Launch) (qu : Nat) (pl : Nat) (hqu : qu < 512) (hpl : pl < 3) : Met l yX0_wishAt (.code yX0_wishAt cX0_wishAt 2 (some .int) :: wsL_law) ({ frames := 0, cells := 0, slots := 0, locals := 0 }) (va_Pc [.int (nI qu), .int (nI pl)] PU) (QrI (nI (wishA qu pl))) 0 0 (fun _ => False) := by
  refine Met.ofW (cc := cX0_wishAt) (maxL := 2) (ret := (some .int)) (by decide) rfl ?_
  intro p e s m args below meth c s₁ B hml hv
  obtain ⟨rfl, hv⟩ := hv
  have hx := B.exec
  have hb := B.bytes
  have hr := B.returns
  have hts := atoms_spec (ws := .code yX0_wishAt cX0_wishAt 2 (some .int) :: wsL_law) B.pre
  have hU : ∀ w ∈ wsL_law, w.before _ s = true := fun w h => hts w (List.mem_cons_of_mem _ h)
  have hown : s.vm.findClass RX0 = some m.cls := findClass_of_methodNamed B.named
  have hlocks := B.notSynchronized
  generalize hQ : MQ _ _ _ _ _ _ _ = Q
  have hl := lv_entry ([.int (nI qu), .int (nI pl)]) (n := 2) (Nat.le_of_ble_eq_true rfl)
  rw [lg_entry_eq]
  generalize (lg_sl ([.int (nI qu), .int (nI pl)]) ++ List.replicate (2 - (lg_sl ([.int (nI qu), .int (nI pl)])).length) Slot.unset).toArray = ls at hl ⊢
  have hl : lv_has ls 2 [(0, .int (nI qu)), (1, .int (nI pl))] := hl
  refine lv_iload_n hx hb dX0_wishAt_0 rfl (lv_at hl 0 rfl) ?_
  refine lv_iconst (v := nI 3) hx hb dX0_wishAt_1 (by decide) ?_
  refine lv_iload_n hx hb dX0_wishAt_2 rfl (lv_at hl 1 rfl) ?_
  refine lv_imul hx hb dX0_wishAt_3 ?_
  refine lv_topE (nI (3 * pl)) (pk_mul _ _) ?_
  refine lv_ishr hx hb dX0_wishAt_4 ?_
  refine lv_topE (nI (qu / 2 ^ (3 * pl))) (z_shr32 (by omega) (by omega)) ?_
  refine lv_bipush (v := nI 7) hx hb dX0_wishAt_5 (by decide) ?_
  refine lv_iand hx hb dX0_wishAt_7 ?_
  refine lv_topE (nI (qu / 2 ^ (3 * pl) % 8)) (fa_mask _ 3) ?_
  refine lv_iconst (v := nI 1) hx hb dX0_wishAt_8 (by decide) ?_
  refine lv_isub hx hb dX0_wishAt_9 ?_
  refine lv_topE (nI (wishA qu pl)) (wishA_eq) ?_
  subst hQ
  exact rti hx hb hr hlocks rfl (rfl) dX0_wishAt_10

set_option maxHeartbeats 4000000 in
set_option maxRecDepth 100000 in
theorem c_X0_placesOf (l : Launch) (pa : Nat) (pb : Nat) (hpa : pa < 8) (hpb : pb < 8) : Met l yX0_placesOf (.code yX0_placesOf cX0_placesOf 2 (some .long) :: wsL_law) ({ frames := 0, cells := 0, slots := 0, locals := 0 }) (va_Pc [.int (nI pa), .int (nI pb)] PU) (QrL (lN (pa * 65536 + pb * 524288))) 0 0 (fun _ => False) := by
  refine Met.ofW (cc := cX0_placesOf) (maxL := 2) (ret := (some .long)) (by decide) rfl ?_
  intro p e s m args below meth c s₁ B hml hv
  obtain ⟨rfl, hv⟩ := hv
  have hx := B.exec
  have hb := B.bytes
  have hr := B.returns
  have hts := atoms_spec (ws := .code yX0_placesOf cX0_placesOf 2 (some .long) :: wsL_law) B.pre
  have hU : ∀ w ∈ wsL_law, w.before _ s = true := fun w h => hts w (List.mem_cons_of_mem _ h)
  have hown : s.vm.findClass RX0 = some m.cls := findClass_of_methodNamed B.named
  have hlocks := B.notSynchronized
  generalize hQ : MQ _ _ _ _ _ _ _ = Q
  have hl := lv_entry ([.int (nI pa), .int (nI pb)]) (n := 2) (Nat.le_of_ble_eq_true rfl)
  rw [lg_entry_eq]
  generalize (lg_sl ([.int (nI pa), .int (nI pb)]) ++ List.replicate (2 - (lg_sl ([.int (nI pa), .int (nI pb)])).length) Slot.unset).toArray = ls at hl ⊢
  have hl : lv_has ls 2 [(0, .int (nI pa)), (1, .int (nI pb))] := hl
  refine lv_iload_n hx hb dX0_placesOf_0 rfl (lv_at hl 0 rfl) ?_
  refine lv_i2l (v := lN pa) hx hb dX0_placesOf_1 (nI_l (by omega)) ?_
  refine lv_bipush (v := nI 16) hx hb dX0_placesOf_2 (by decide) ?_
  refine lv_lshl hx hb dX0_placesOf_4 rfl ?_
  refine lv_iload_n hx hb dX0_placesOf_5 rfl (lv_at hl 1 rfl) ?_
  refine lv_i2l (v := lN pb) hx hb dX0_placesOf_6 (nI_l (by omega)) ?_
  refine lv_bipush (v := nI 19) hx hb dX0_placesOf_7 (by decide) ?_
  refine lv_lshl hx hb dX0_placesOf_9 rfl ?_
  refine lv_lor hx hb dX0_placesOf_10 ?_
  subst hQ
  exact rtl hx hb hr hlocks rfl (z_places hpa hpb) dX0_placesOf_11

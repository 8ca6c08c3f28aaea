/-- how many numbers a statement of a sort has -/
def arM (so : Nat) : Nat := if so = 2 then 4 else if so = 3 ∨ so = 8 then 3 else if so = 4 ∨ so = 5 then 0 else 2
set_option maxHeartbeats 4000000 in
set_option maxRecDepth 100000 in
theorem c_X5_isIn (l : Launch) (v : Nat) (lo : Nat) (hi : Nat) (hv9 : v < 4294967296) (hlo9 : lo < 2147483648) (hhi9 : hi < 2147483648) : Met l yX5_isIn (.code yX5_isIn cX5_isIn 3 (some .boolean) :: wsL_law) ({ frames := 0, cells := 0, slots := 0, locals := 0 }) (va_Pc [.int (nI v), .int (nI lo), .int (nI hi)] PU) (QrI (bP (lo ≤ v ∧ v ≤ hi))) 0 0 (fun _ => False) := by
  refine Met.ofW (cc := cX5_isIn) (maxL := 3) (ret := (some .boolean)) (by decide) rfl ?_
  intro p e s m args below meth c s₁ B hml hv
  obtain ⟨rfl, hv⟩ := hv
  have hx := B.exec
  have hb := B.bytes
  have hr := B.returns
  have hts := atoms_spec (ws := .code yX5_isIn cX5_isIn 3 (some .boolean) :: wsL_law) B.pre
  have hU : ∀ w ∈ wsL_law, w.before _ s = true := fun w h => hts w (List.mem_cons_of_mem _ h)
  have hown : s.vm.findClass RX5 = some m.cls := findClass_of_methodNamed B.named
  have hlocks := B.notSynchronized
  generalize hQ : MQ _ _ _ _ _ _ _ = Q
  have hl := lv_entry ([.int (nI v), .int (nI lo), .int (nI hi)]) (n := 3) (Nat.le_of_ble_eq_true rfl)
  rw [lg_entry_eq]
  generalize (lg_sl ([.int (nI v), .int (nI lo), .int (nI hi)]) ++ List.replicate (3 - (lg_sl ([.int (nI v), .int (nI lo), .int (nI hi)])).length) Slot.unset).toArray = ls at hl ⊢
  have hl : lv_has ls 3 [(0, .int (nI v)), (1, .int (nI lo)), (2, .int (nI hi))] := hl
  refine lv_iload_n hx hb dX5_isIn_0 rfl (lv_at hl 0 rfl) ?_
  refine lv_iload_n hx hb dX5_isIn_1 rfl (lv_at hl 1 rfl) ?_
  refine lv_icmp_lt (tgt := 14) hx hb dX5_isIn_2 (by decide) (fun c2_1 => ?_) (fun c2_1 => ?_)
  · have c2_1 : (v < lo ∧ (2147483648 ≤ v ∨ lo < 2147483648)) ∨ (2147483648 ≤ v ∧ lo < 2147483648) := (nI_ltG (a := v) (b := lo) (by omega) (by omega)).mp c2_1
    refine lv_iconst (v := nI 0) hx hb dX5_isIn_14 (by decide) ?_
    subst hQ
    exact rtz hx hb hr hlocks rfl rfl (bP_0 (by omega)) dX5_isIn_15
  · have c2_1 : ¬ ((v < lo ∧ (2147483648 ≤ v ∨ lo < 2147483648)) ∨ (2147483648 ≤ v ∧ lo < 2147483648)) := fun h9 => c2_1 ((nI_ltG (a := v) (b := lo) (by omega) (by omega)).mpr h9)
    refine lv_iload_n hx hb dX5_isIn_5 rfl (lv_at hl 0 rfl) ?_
    refine lv_iload_n hx hb dX5_isIn_6 rfl (lv_at hl 2 rfl) ?_
    refine lv_icmp_gt (tgt := 14) hx hb dX5_isIn_7 (by decide) (fun c7_2 => ?_) (fun c7_2 => ?_)
    · have c7_2 : (hi < v ∧ (2147483648 ≤ hi ∨ v < 2147483648)) ∨ (2147483648 ≤ hi ∧ v < 2147483648) := (nI_ltG (a := hi) (b := v) (by omega) (by omega)).mp c7_2
      refine lv_iconst (v := nI 0) hx hb dX5_isIn_14 (by decide) ?_
      subst hQ
      exact rtz hx hb hr hlocks rfl rfl (bP_0 (by omega)) dX5_isIn_15
    · have c7_2 : ¬ ((hi < v ∧ (2147483648 ≤ hi ∨ v < 2147483648)) ∨ (2147483648 ≤ hi ∧ v < 2147483648)) := fun h9 => c7_2 ((nI_ltG (a := hi) (b := v) (by omega) (by omega)).mpr h9)
      refine lv_iconst (v := nI 1) hx hb dX5_isIn_10 (by decide) ?_
      refine lv_goto (tgt := 15) hx hb dX5_isIn_11 (by decide) ?_
      subst hQ
      exact rtz hx hb hr hlocks rfl rfl (bP_1 (by omega)) dX5_isIn_15

set_option maxHeartbeats 4000000 in
set_option maxRecDepth 100000 in
theorem c_X5_isInE (l : Launch) (v : Nat) (lo : Nat) (hi : Nat) (hv9 : v < 4294967296) (hlo9 : lo = 0) (hhi9 : hi = 4294967295) : Met l yX5_isIn (.code yX5_isIn cX5_isIn 3 (some .boolean) :: wsL_law) ({ frames := 0, cells := 0, slots := 0, locals := 0 }) (va_Pc [.int (nI v), .int (nI lo), .int (nI hi)] PU) (QrI (bP False)) 0 0 (fun _ => False) := by
  refine Met.ofW (cc := cX5_isIn) (maxL := 3) (ret := (some .boolean)) (by decide) rfl ?_
  intro p e s m args below meth c s₁ B hml hv
  obtain ⟨rfl, hv⟩ := hv
  have hx := B.exec
  have hb := B.bytes
  have hr := B.returns
  have hts := atoms_spec (ws := .code yX5_isIn cX5_isIn 3 (some .boolean) :: wsL_law) B.pre
  have hU : ∀ w ∈ wsL_law, w.before _ s = true := fun w h => hts w (List.mem_cons_of_mem _ h)
  have hown : s.vm.findClass RX5 = some m.cls := findClass_of_methodNamed B.named
  have hlocks := B.notSynchronized
  generalize hQ : MQ _ _ _ _ _ _ _ = Q
  have hl := lv_entry ([.int (nI v), .int (nI lo), .int (nI hi)]) (n := 3) (Nat.le_of_ble_eq_true rfl)
  rw [lg_entry_eq]
  generalize (lg_sl ([.int (nI v), .int (nI lo), .int (nI hi)]) ++ List.replicate (3 - (lg_sl ([.int (nI v), .int (nI lo), .int (nI hi)])).length) Slot.unset).toArray = ls at hl ⊢
  have hl : lv_has ls 3 [(0, .int (nI v)), (1, .int (nI lo)), (2, .int (nI hi))] := hl
  refine lv_iload_n hx hb dX5_isIn_0 rfl (lv_at hl 0 rfl) ?_
  refine lv_iload_n hx hb dX5_isIn_1 rfl (lv_at hl 1 rfl) ?_
  refine lv_icmp_lt (tgt := 14) hx hb dX5_isIn_2 (by decide) (fun c2_1 => ?_) (fun c2_1 => ?_)
  · have c2_1 : (v < lo ∧ (2147483648 ≤ v ∨ lo < 2147483648)) ∨ (2147483648 ≤ v ∧ lo < 2147483648) := (nI_ltG (a := v) (b := lo) (by omega) (by omega)).mp c2_1
    refine lv_iconst (v := nI 0) hx hb dX5_isIn_14 (by decide) ?_
    subst hQ
    exact rtz hx hb hr hlocks rfl rfl (bP_0 (by first | omega | exact id)) dX5_isIn_15
  · have c2_1 : ¬ ((v < lo ∧ (2147483648 ≤ v ∨ lo < 2147483648)) ∨ (2147483648 ≤ v ∧ lo < 2147483648)) := fun h9 => c2_1 ((nI_ltG (a := v) (b := lo) (by omega) (by omega)).mpr h9)
    refine lv_iload_n hx hb dX5_isIn_5 rfl (lv_at hl 0 rfl) ?_
    refine lv_iload_n hx hb dX5_isIn_6 rfl (lv_at hl 2 rfl) ?_
    refine lv_icmp_gt (tgt := 14) hx hb dX5_isIn_7 (by decide) (fun c7_2 => ?_) (fun c7_2 => ?_)
    · have c7_2 : (hi < v ∧ (2147483648 ≤ hi ∨ v < 2147483648)) ∨ (2147483648 ≤ hi ∧ v < 2147483648) := (nI_ltG (a := hi) (b := v) (by omega) (by omega)).mp c7_2
      refine lv_iconst (v := nI 0) hx hb dX5_isIn_14 (by decide) ?_
      subst hQ
      exact rtz hx hb hr hlocks rfl rfl (bP_0 (by first | omega | exact id)) dX5_isIn_15
    · have c7_2 : ¬ ((hi < v ∧ (2147483648 ≤ hi ∨ v < 2147483648)) ∨ (2147483648 ≤ hi ∧ v < 2147483648)) := fun h9 => c7_2 ((nI_ltG (a := hi) (b := v) (by omega) (by omega)).mpr h9)
      refine lv_iconst (v := nI 1) hx hb dX5_isIn_10 (by decide) ?_
      refine lv_goto (tgt := 15) hx hb dX5_isIn_11 (by decide) ?_
      subst hQ
      exact rtz hx hb hr hlocks rfl rfl (bP_1 (by first | omega | exact id)) dX5_isIn_15

set_option maxHeartbeats 4000000 in
set_option maxRecDepth 100000 in
theorem c_X5_isLetter (l : Launch) (ch : Nat) (hc9 : ch < 4294967296) : Met l yX5_isLetter (.code yX5_isLetter cX5_isLetter 1 (some .boolean) :: wsL_law) ({ frames := 1, cells := 0, slots := 0, locals := 22 }) (va_Pc [.int (nI ch)] PU) (QrI (bP ((97 ≤ ch ∧ ch ≤ 122) ∨ (65 ≤ ch ∧ ch ≤ 90)))) 0 0 (fun _ => False) := by
  refine Met.ofW (cc := cX5_isLetter) (maxL := 1) (ret := (some .boolean)) (by decide) rfl ?_
  intro p e s m args below meth c s₁ B hml hv
  obtain ⟨rfl, hv⟩ := hv
  have hx := B.exec
  have hb := B.bytes
  have hr := B.returns
  have hts := atoms_spec (ws := .code yX5_isLetter cX5_isLetter 1 (some .boolean) :: wsL_law) B.pre
  have hU : ∀ w ∈ wsL_law, w.before _ s = true := fun w h => hts w (List.mem_cons_of_mem _ h)
  have hown : s.vm.findClass RX5 = some m.cls := findClass_of_methodNamed B.named
  have hlocks := B.notSynchronized
  generalize hQ : MQ _ _ _ _ _ _ _ = Q
  have hl := lv_entry ([.int (nI ch)]) (n := 1) (Nat.le_of_ble_eq_true rfl)
  rw [lg_entry_eq]
  generalize (lg_sl ([.int (nI ch)]) ++ List.replicate (1 - (lg_sl ([.int (nI ch)])).length) Slot.unset).toArray = ls at hl ⊢
  have hl : lv_has ls 1 [(0, .int (nI ch))] := hl
  refine lv_iload_n hx hb dX5_isLetter_0 rfl (lv_at hl 0 rfl) ?_
  refine lv_bipush (v := nI 97) hx hb dX5_isLetter_1 (by decide) ?_
  refine lv_bipush (v := nI 122) hx hb dX5_isLetter_3 (by decide) ?_
  refine cSi (As := [.int (nI ch), .int (nI 97), .int (nI 122)]) (rest := []) ⟨hx, hb, hml, hown, hts⟩ (c_X5_isIn l  ch 97 122 (by omega) (by omega) (by omega)) (va_cwS 3 hts (gS mU_116 mU_117 mU_6 mU_118) rfl rfl rfl (by decide +kernel) ⟨Nat.le_of_ble_eq_true rfl, Nat.le_of_ble_eq_true rfl⟩) fbU (fun _ _ _ => trivial) rfl hl.1 rfl (Nat.le_of_ble_eq_true rfl) dX5_isLetter_5 ⟨Nat.zero_le _, Nat.zero_le _⟩ ?_
  refine lv_if_ne (tgt := 22) hx hb dX5_isLetter_8 (by decide) (fun c8_1 => ?_) (fun c8_1 => ?_)
  · have c8_1 : 97 ≤ ch ∧ ch ≤ 122 := bP_t c8_1
    refine lv_iconst (v := nI 1) hx hb dX5_isLetter_22 (by decide) ?_
    refine lv_goto (tgt := 27) hx hb dX5_isLetter_23 (by decide) ?_
    subst hQ
    exact rtz hx hb hr hlocks rfl rfl (bP_1 (by omega)) dX5_isLetter_27
  · have c8_1 : ¬ (97 ≤ ch ∧ ch ≤ 122) := bP_f c8_1
    refine lv_iload_n hx hb dX5_isLetter_11 rfl (lv_at hl 0 rfl) ?_
    refine lv_bipush (v := nI 65) hx hb dX5_isLetter_12 (by decide) ?_
    refine lv_bipush (v := nI 90) hx hb dX5_isLetter_14 (by decide) ?_
    refine cSi (As := [.int (nI ch), .int (nI 65), .int (nI 90)]) (rest := []) ⟨hx, hb, hml, hown, hts⟩ (c_X5_isIn l  ch 65 90 (by omega) (by omega) (by omega)) (va_cwS 3 hts (gS mU_116 mU_117 mU_6 mU_118) rfl rfl rfl (by decide +kernel) ⟨Nat.le_of_ble_eq_true rfl, Nat.le_of_ble_eq_true rfl⟩) fbU (fun _ _ _ => trivial) rfl hl.1 rfl (Nat.le_of_ble_eq_true rfl) dX5_isLetter_16 ⟨Nat.zero_le _, Nat.zero_le _⟩ ?_
    refine lv_if_eq (tgt := 26) hx hb dX5_isLetter_19 (by decide) (fun c19_2 => ?_) (fun c19_2 => ?_)
    · have c19_2 : ¬ (65 ≤ ch ∧ ch ≤ 90) := bP_f c19_2
      refine lv_iconst (v := nI 0) hx hb dX5_isLetter_26 (by decide) ?_
      subst hQ
      exact rtz hx hb hr hlocks rfl rfl (bP_0 (by omega)) dX5_isLetter_27
    · have c19_2 : 65 ≤ ch ∧ ch ≤ 90 := bP_t c19_2
      refine lv_iconst (v := nI 1) hx hb dX5_isLetter_22 (by decide) ?_
      refine lv_goto (tgt := 27) hx hb dX5_isLetter_23 (by decide) ?_
      subst hQ
      exact rtz hx hb hr hlocks rfl rfl (bP_1 (by omega)) dX5_isLetter_27

set_option maxHeartbeats 4000000 in
set_option maxRecDepth 100000 in
theorem c_X5_isDigit (l : Launch) (ch : Nat) (hc9 : ch < 4294967296) : Met l yX5_isDigit (.code yX5_isDigit cX5_isDigit 1 (some .boolean) :: wsL_law) ({ frames := 1, cells := 0, slots := 0, locals := 22 }) (va_Pc [.int (nI ch)] PU) (QrI (bP (48 ≤ ch ∧ ch ≤ 57))) 0 0 (fun _ => False) := by
  refine Met.ofW (cc := cX5_isDigit) (maxL := 1) (ret := (some .boolean)) (by decide) rfl ?_
  intro p e s m args below meth c s₁ B hml hv
  obtain ⟨rfl, hv⟩ := hv
  have hx := B.exec
  have hb := B.bytes
  have hr := B.returns
  have hts := atoms_spec (ws := .code yX5_isDigit cX5_isDigit 1 (some .boolean) :: wsL_law) B.pre
  have hU : ∀ w ∈ wsL_law, w.before _ s = true := fun w h => hts w (List.mem_cons_of_mem _ h)
  have hown : s.vm.findClass RX5 = some m.cls := findClass_of_methodNamed B.named
  have hlocks := B.notSynchronized
  generalize hQ : MQ _ _ _ _ _ _ _ = Q
  have hl := lv_entry ([.int (nI ch)]) (n := 1) (Nat.le_of_ble_eq_true rfl)
  rw [lg_entry_eq]
  generalize (lg_sl ([.int (nI ch)]) ++ List.replicate (1 - (lg_sl ([.int (nI ch)])).length) Slot.unset).toArray = ls at hl ⊢
  have hl : lv_has ls 1 [(0, .int (nI ch))] := hl
  refine lv_iload_n hx hb dX5_isDigit_0 rfl (lv_at hl 0 rfl) ?_
  refine lv_bipush (v := nI 48) hx hb dX5_isDigit_1 (by decide) ?_
  refine lv_bipush (v := nI 57) hx hb dX5_isDigit_3 (by decide) ?_
  refine cSi (As := [.int (nI ch), .int (nI 48), .int (nI 57)]) (rest := []) ⟨hx, hb, hml, hown, hts⟩ (c_X5_isIn l  ch 48 57 (by omega) (by omega) (by omega)) (va_cwS 3 hts (gS mU_116 mU_117 mU_6 mU_118) rfl rfl rfl (by decide +kernel) ⟨Nat.le_of_ble_eq_true rfl, Nat.le_of_ble_eq_true rfl⟩) fbU (fun _ _ _ => trivial) rfl hl.1 rfl (Nat.le_of_ble_eq_true rfl) dX5_isDigit_5 ⟨Nat.zero_le _, Nat.zero_le _⟩ ?_
  subst hQ
  exact rtz hx hb hr hlocks rfl bP_nar (bP_c (by omega)) dX5_isDigit_8

set_option maxHeartbeats 4000000 in
set_option maxRecDepth 100000 in
theorem c_X5_bits (l : Launch) (sx : Nat) (fr : Nat) (wd : Nat) (hsx : sx < 2 ^ 62) (hfr : fr < 64) (hwd : wd < 31) : Met l yX5_bits (.code yX5_bits cX5_bits 4 (some .int) :: wsL_law) ({ frames := 0, cells := 0, slots := 0, locals := 0 }) (va_Pc [.long (lN sx), .int (nI fr), .int (nI wd)] PU) (QrI (nI (bitsN sx fr wd))) 0 0 (fun _ => False) := by
  refine Met.ofW (cc := cX5_bits) (maxL := 4) (ret := (some .int)) (by decide) rfl ?_
  intro p e s m args below meth c s₁ B hml hv
  obtain ⟨rfl, hv⟩ := hv
  have hx := B.exec
  have hb := B.bytes
  have hr := B.returns
  have hts := atoms_spec (ws := .code yX5_bits cX5_bits 4 (some .int) :: wsL_law) B.pre
  have hU : ∀ w ∈ wsL_law, w.before _ s = true := fun w h => hts w (List.mem_cons_of_mem _ h)
  have hown : s.vm.findClass RX5 = some m.cls := findClass_of_methodNamed B.named
  have hlocks := B.notSynchronized
  generalize hQ : MQ _ _ _ _ _ _ _ = Q
  have hl := lv_entry ([.long (lN sx), .int (nI fr), .int (nI wd)]) (n := 4) (Nat.le_of_ble_eq_true rfl)
  rw [lg_entry_eq]
  generalize (lg_sl ([.long (lN sx), .int (nI fr), .int (nI wd)]) ++ List.replicate (4 - (lg_sl ([.long (lN sx), .int (nI fr), .int (nI wd)])).length) Slot.unset).toArray = ls at hl ⊢
  have hl : lv_has ls 4 [(0, .long (lN sx)), (2, .int (nI fr)), (3, .int (nI wd))] := hl
  refine lv_lload_n hx hb dX5_bits_0 rfl (lv_at hl 0 rfl) ?_
  refine lv_iload_n hx hb dX5_bits_1 rfl (lv_at hl 1 rfl) ?_
  refine lv_lshr hx hb dX5_bits_2 rfl ?_
  refine lv_l2i hx hb dX5_bits_3 rfl ?_
  refine lv_iconst (v := nI 1) hx hb dX5_bits_4 (by decide) ?_
  refine lv_iload_n hx hb dX5_bits_5 rfl (lv_at hl 2 rfl) ?_
  refine lv_ishl hx hb dX5_bits_6 ?_
  refine lv_iconst (v := nI 1) hx hb dX5_bits_7 (by decide) ?_
  refine lv_isub hx hb dX5_bits_8 ?_
  refine lv_iand hx hb dX5_bits_9 ?_
  subst hQ
  exact rti hx hb hr hlocks rfl (z_bits hsx hfr hwd) dX5_bits_10

set_option maxHeartbeats 4000000 in
set_option maxRecDepth 100000 in
theorem c_X5_with (l : Launch) (sx : Nat) (fr : Nat) (wd : Nat) (v : Nat) (hsx : sx < 2 ^ 62) (hfw : fr + wd < 62) (hv8 : v < 2147483648) (hv9 : v < 2 ^ wd) : Met l yX5_with (.code yX5_with cX5_with 5 (some .long) :: wsL_law) ({ frames := 0, cells := 0, slots := 0, locals := 0 }) (va_Pc [.long (lN sx), .int (nI fr), .int (nI wd), .int (nI v)] PU) (QrL (lN (withN sx fr wd v))) 0 0 (fun _ => False) := by
  refine Met.ofW (cc := cX5_with) (maxL := 5) (ret := (some .long)) (by decide) rfl ?_
  intro p e s m args below meth c s₁ B hml hv
  obtain ⟨rfl, hv⟩ := hv
  have hx := B.exec
  have hb := B.bytes
  have hr := B.returns
  have hts := atoms_spec (ws := .code yX5_with cX5_with 5 (some .long) :: wsL_law) B.pre
  have hU : ∀ w ∈ wsL_law, w.before _ s = true := fun w h => hts w (List.mem_cons_of_mem _ h)
  have hown : s.vm.findClass RX5 = some m.cls := findClass_of_methodNamed B.named
  have hlocks := B.notSynchronized
  generalize hQ : MQ _ _ _ _ _ _ _ = Q
  have hl := lv_entry ([.long (lN sx), .int (nI fr), .int (nI wd), .int (nI v)]) (n := 5) (Nat.le_of_ble_eq_true rfl)
  rw [lg_entry_eq]
  generalize (lg_sl ([.long (lN sx), .int (nI fr), .int (nI wd), .int (nI v)]) ++ List.replicate (5 - (lg_sl ([.long (lN sx), .int (nI fr), .int (nI wd), .int (nI v)])).length) Slot.unset).toArray = ls at hl ⊢
  have hl : lv_has ls 5 [(0, .long (lN sx)), (2, .int (nI fr)), (3, .int (nI wd)), (4, .int (nI v))] := hl
  refine lv_lload_n hx hb dX5_with_0 rfl (lv_at hl 0 rfl) ?_
  refine lv_lconst (v := lN 1) hx hb dX5_with_1 rfl ?_
  refine lv_iload_n hx hb dX5_with_2 rfl (lv_at hl 2 rfl) ?_
  refine lv_lshl hx hb dX5_with_3 rfl ?_
  refine lv_lconst (v := lN 1) hx hb dX5_with_4 rfl ?_
  refine lv_lsub hx hb dX5_with_5 ?_
  refine lv_iload_n hx hb dX5_with_6 rfl (lv_at hl 1 rfl) ?_
  refine lv_lshl hx hb dX5_with_7 rfl ?_
  refine lv_ldc2 (v := (-1)) hx hb hown (hU _ mU_483) dX5_with_8 ?_
  refine lv_lxor hx hb dX5_with_11 ?_
  refine lv_land hx hb dX5_with_12 ?_
  refine lv_iload hx hb dX5_with_13 (lv_at hl 3 rfl) ?_
  refine lv_i2l (v := lN v) hx hb dX5_with_15 (nI_l (by omega)) ?_
  refine lv_iload_n hx hb dX5_with_16 rfl (lv_at hl 1 rfl) ?_
  refine lv_lshl hx hb dX5_with_17 rfl ?_
  refine lv_lor hx hb dX5_with_18 ?_
  subst hQ
  exact rtl hx hb hr hlocks rfl (z_with hsx hv9 hfw) dX5_with_19

set_option maxHeartbeats 4000000 in
set_option maxRecDepth 100000 in
theorem c_X5_atOf (l : Launch) (sx : Nat) (h : Nat) (hsx : sx < 2 ^ 48) (hh : h < 2) : Met l yX5_atOf (.code yX5_atOf cX5_atOf 3 (some .int) :: wsL_law) ({ frames := 1, cells := 0, slots := 0, locals := 23 }) (va_Pc [.long (lN sx), .int (nI h)] PU) (QrI (nI (bitsN sx (16 + 3 * h) 3))) 0 0 (fun _ => False) := by
  refine Met.ofW (cc := cX5_atOf) (maxL := 3) (ret := (some .int)) (by decide) rfl ?_
  intro p e s m args below meth c s₁ B hml hv
  obtain ⟨rfl, hv⟩ := hv
  have hx := B.exec
  have hb := B.bytes
  have hr := B.returns
  have hts := atoms_spec (ws := .code yX5_atOf cX5_atOf 3 (some .int) :: wsL_law) B.pre
  have hU : ∀ w ∈ wsL_law, w.before _ s = true := fun w h => hts w (List.mem_cons_of_mem _ h)
  have hown : s.vm.findClass RX5 = some m.cls := findClass_of_methodNamed B.named
  have hlocks := B.notSynchronized
  generalize hQ : MQ _ _ _ _ _ _ _ = Q
  have hl := lv_entry ([.long (lN sx), .int (nI h)]) (n := 3) (Nat.le_of_ble_eq_true rfl)
  rw [lg_entry_eq]
  generalize (lg_sl ([.long (lN sx), .int (nI h)]) ++ List.replicate (3 - (lg_sl ([.long (lN sx), .int (nI h)])).length) Slot.unset).toArray = ls at hl ⊢
  have hl : lv_has ls 3 [(0, .long (lN sx)), (2, .int (nI h))] := hl
  refine lv_lload_n hx hb dX5_atOf_0 rfl (lv_at hl 0 rfl) ?_
  refine lv_bipush (v := nI 16) hx hb dX5_atOf_1 (by decide) ?_
  refine lv_iconst (v := nI 3) hx hb dX5_atOf_3 (by decide) ?_
  refine lv_iload_n hx hb dX5_atOf_4 rfl (lv_at hl 1 rfl) ?_
  refine lv_imul hx hb dX5_atOf_5 ?_
  refine lv_topE (nI (3 * h)) (pk_mul _ _) ?_
  refine lv_iadd hx hb dX5_atOf_6 ?_
  refine lv_topE (nI (16 + (3 * h))) (nI_add _ _) ?_
  refine lv_iconst (v := nI 3) hx hb dX5_atOf_7 (by decide) ?_
  refine cSi (As := [.long (lN sx), .int (nI (16 + (3 * h))), .int (nI 3)]) (rest := []) ⟨hx, hb, hml, hown, hts⟩ (c_X5_bits l  sx (16 + (3 * h)) 3 (by omega) (by omega) (by omega)) (va_cwS 3 hts (gS mU_503 mU_504 mU_6 mU_505) rfl rfl rfl (by decide +kernel) ⟨Nat.le_of_ble_eq_true rfl, Nat.le_of_ble_eq_true rfl⟩) fbU (fun _ _ _ => trivial) rfl hl.1 rfl (Nat.le_of_ble_eq_true rfl) dX5_atOf_8 ⟨Nat.zero_le _, Nat.zero_le _⟩ ?_
  have hf_1 : bitsN sx (16 + (3 * h)) 3 < 2 ^ 3 := bitsN_lt _ _ _
  subst hQ
  exact rti hx hb hr hlocks rfl (by first | rfl | (omega)) dX5_atOf_11

set_option maxHeartbeats 4000000 in
set_option maxRecDepth 100000 in
theorem c_X5_wishes (l : Launch) (sx : Nat) (h : Nat) (hsx : sx < 2 ^ 48) (hh : h < 2) : Met l yX5_wishes (.code yX5_wishes cX5_wishes 3 (some .int) :: wsL_law) ({ frames := 1, cells := 0, slots := 0, locals := 23 }) (va_Pc [.long (lN sx), .int (nI h)] PU) (QrI (nI (bitsN sx (22 + 2 * h) 2))) 0 0 (fun _ => False) := by
  refine Met.ofW (cc := cX5_wishes) (maxL := 3) (ret := (some .int)) (by decide) rfl ?_
  intro p e s m args below meth c s₁ B hml hv
  obtain ⟨rfl, hv⟩ := hv
  have hx := B.exec
  have hb := B.bytes
  have hr := B.returns
  have hts := atoms_spec (ws := .code yX5_wishes cX5_wishes 3 (some .int) :: wsL_law) B.pre
  have hU : ∀ w ∈ wsL_law, w.before _ s = true := fun w h => hts w (List.mem_cons_of_mem _ h)
  have hown : s.vm.findClass RX5 = some m.cls := findClass_of_methodNamed B.named
  have hlocks := B.notSynchronized
  generalize hQ : MQ _ _ _ _ _ _ _ = Q
  have hl := lv_entry ([.long (lN sx), .int (nI h)]) (n := 3) (Nat.le_of_ble_eq_true rfl)
  rw [lg_entry_eq]
  generalize (lg_sl ([.long (lN sx), .int (nI h)]) ++ List.replicate (3 - (lg_sl ([.long (lN sx), .int (nI h)])).length) Slot.unset).toArray = ls at hl ⊢
  have hl : lv_has ls 3 [(0, .long (lN sx)), (2, .int (nI h))] := hl
  refine lv_lload_n hx hb dX5_wishes_0 rfl (lv_at hl 0 rfl) ?_
  refine lv_bipush (v := nI 22) hx hb dX5_wishes_1 (by decide) ?_
  refine lv_iconst (v := nI 2) hx hb dX5_wishes_3 (by decide) ?_
  refine lv_iload_n hx hb dX5_wishes_4 rfl (lv_at hl 1 rfl) ?_
  refine lv_imul hx hb dX5_wishes_5 ?_
  refine lv_topE (nI (2 * h)) (pk_mul _ _) ?_
  refine lv_iadd hx hb dX5_wishes_6 ?_
  refine lv_topE (nI (22 + (2 * h))) (nI_add _ _) ?_
  refine lv_iconst (v := nI 2) hx hb dX5_wishes_7 (by decide) ?_
  refine cSi (As := [.long (lN sx), .int (nI (22 + (2 * h))), .int (nI 2)]) (rest := []) ⟨hx, hb, hml, hown, hts⟩ (c_X5_bits l  sx (22 + (2 * h)) 2 (by omega) (by omega) (by omega)) (va_cwS 3 hts (gS mU_503 mU_504 mU_6 mU_505) rfl rfl rfl (by decide +kernel) ⟨Nat.le_of_ble_eq_true rfl, Nat.le_of_ble_eq_true rfl⟩) fbU (fun _ _ _ => trivial) rfl hl.1 rfl (Nat.le_of_ble_eq_true rfl) dX5_wishes_8 ⟨Nat.zero_le _, Nat.zero_le _⟩ ?_
  have hf_1 : bitsN sx (22 + (2 * h)) 2 < 2 ^ 2 := bitsN_lt _ _ _
  subst hQ
  exact rti hx hb hr hlocks rfl (by first | rfl | (omega)) dX5_wishes_11

set_option maxHeartbeats 4000000 in
set_option maxRecDepth 100000 in
theorem c_X5_numbersOf (l : Launch) (so : Nat) (hso : so < 9) : Met l yX5_numbersOf (.code yX5_numbersOf cX5_numbersOf 1 (some .int) :: wsL_law) ({ frames := 0, cells := 0, slots := 0, locals := 0 }) (va_Pc [.int (nI so)] PU) (QrI (nI (arM so))) 0 0 (fun _ => False) := by
  refine Met.ofW (cc := cX5_numbersOf) (maxL := 1) (ret := (some .int)) (by decide) rfl ?_
  intro p e s m args below meth c s₁ B hml hv
  obtain ⟨rfl, hv⟩ := hv
  have hx := B.exec
  have hb := B.bytes
  have hr := B.returns
  have hts := atoms_spec (ws := .code yX5_numbersOf cX5_numbersOf 1 (some .int) :: wsL_law) B.pre
  have hU : ∀ w ∈ wsL_law, w.before _ s = true := fun w h => hts w (List.mem_cons_of_mem _ h)
  have hown : s.vm.findClass RX5 = some m.cls := findClass_of_methodNamed B.named
  have hlocks := B.notSynchronized
  generalize hQ : MQ _ _ _ _ _ _ _ = Q
  have hl := lv_entry ([.int (nI so)]) (n := 1) (Nat.le_of_ble_eq_true rfl)
  rw [lg_entry_eq]
  generalize (lg_sl ([.int (nI so)]) ++ List.replicate (1 - (lg_sl ([.int (nI so)])).length) Slot.unset).toArray = ls at hl ⊢
  have hl : lv_has ls 1 [(0, .int (nI so))] := hl
  refine lv_iload_n hx hb dX5_numbersOf_0 rfl (lv_at hl 0 rfl) ?_
  refine lv_iconst (v := nI 2) hx hb dX5_numbersOf_1 (by decide) ?_
  refine lv_icmp_ne (tgt := 9) hx hb dX5_numbersOf_2 (by decide) (fun c2_1 => ?_) (fun c2_1 => ?_)
  · have c2_1 : ¬ (so = 2) := fun h9 => c2_1 ((nI_eqG (a := so) (b := 2) (by omega) (by omega)).mpr h9)
    refine lv_iload_n hx hb dX5_numbersOf_9 rfl (lv_at hl 0 rfl) ?_
    refine lv_iconst (v := nI 3) hx hb dX5_numbersOf_10 (by decide) ?_
    refine lv_icmp_eq (tgt := 20) hx hb dX5_numbersOf_11 (by decide) (fun c11_2 => ?_) (fun c11_2 => ?_)
    · have c11_2 : so = 3 := (nI_eqG (a := so) (b := 3) (by omega) (by omega)).mp c11_2
      refine lv_iconst (v := nI 3) hx hb dX5_numbersOf_20 (by decide) ?_
      refine lv_goto (tgt := 39) hx hb dX5_numbersOf_21 (by decide) ?_
      subst hQ
      exact rti hx hb hr hlocks rfl (by first | rfl | (simp only [arM]; repeat (first | rw [if_pos (by omega)] | rw [if_neg (by omega)]))) dX5_numbersOf_39
    · have c11_2 : ¬ (so = 3) := fun h9 => c11_2 ((nI_eqG (a := so) (b := 3) (by omega) (by omega)).mpr h9)
      refine lv_iload_n hx hb dX5_numbersOf_14 rfl (lv_at hl 0 rfl) ?_
      refine lv_bipush (v := nI 8) hx hb dX5_numbersOf_15 (by decide) ?_
      refine lv_icmp_ne (tgt := 24) hx hb dX5_numbersOf_17 (by decide) (fun c17_3 => ?_) (fun c17_3 => ?_)
      · have c17_3 : ¬ (so = 8) := fun h9 => c17_3 ((nI_eqG (a := so) (b := 8) (by omega) (by omega)).mpr h9)
        refine lv_iload_n hx hb dX5_numbersOf_24 rfl (lv_at hl 0 rfl) ?_
        refine lv_iconst (v := nI 4) hx hb dX5_numbersOf_25 (by decide) ?_
        refine lv_icmp_eq (tgt := 34) hx hb dX5_numbersOf_26 (by decide) (fun c26_4 => ?_) (fun c26_4 => ?_)
        · have c26_4 : so = 4 := (nI_eqG (a := so) (b := 4) (by omega) (by omega)).mp c26_4
          refine lv_iconst (v := nI 0) hx hb dX5_numbersOf_34 (by decide) ?_
          refine lv_goto (tgt := 39) hx hb dX5_numbersOf_35 (by decide) ?_
          subst hQ
          exact rti hx hb hr hlocks rfl (by first | rfl | (simp only [arM]; repeat (first | rw [if_pos (by omega)] | rw [if_neg (by omega)]))) dX5_numbersOf_39
        · have c26_4 : ¬ (so = 4) := fun h9 => c26_4 ((nI_eqG (a := so) (b := 4) (by omega) (by omega)).mpr h9)
          refine lv_iload_n hx hb dX5_numbersOf_29 rfl (lv_at hl 0 rfl) ?_
          refine lv_iconst (v := nI 5) hx hb dX5_numbersOf_30 (by decide) ?_
          refine lv_icmp_ne (tgt := 38) hx hb dX5_numbersOf_31 (by decide) (fun c31_5 => ?_) (fun c31_5 => ?_)
          · have c31_5 : ¬ (so = 5) := fun h9 => c31_5 ((nI_eqG (a := so) (b := 5) (by omega) (by omega)).mpr h9)
            refine lv_iconst (v := nI 2) hx hb dX5_numbersOf_38 (by decide) ?_
            subst hQ
            exact rti hx hb hr hlocks rfl (by first | rfl | (simp only [arM]; repeat (first | rw [if_pos (by omega)] | rw [if_neg (by omega)]))) dX5_numbersOf_39
          · have c31_5 : so = 5 := (nI_eqG (a := so) (b := 5) (by omega) (by omega)).mp c31_5
            refine lv_iconst (v := nI 0) hx hb dX5_numbersOf_34 (by decide) ?_
            refine lv_goto (tgt := 39) hx hb dX5_numbersOf_35 (by decide) ?_
            subst hQ
            exact rti hx hb hr hlocks rfl (by first | rfl | (simp only [arM]; repeat (first | rw [if_pos (by omega)] | rw [if_neg (by omega)]))) dX5_numbersOf_39
      · have c17_3 : so = 8 := (nI_eqG (a := so) (b := 8) (by omega) (by omega)).mp c17_3
        refine lv_iconst (v := nI 3) hx hb dX5_numbersOf_20 (by decide) ?_
        refine lv_goto (tgt := 39) hx hb dX5_numbersOf_21 (by decide) ?_
        subst hQ
        exact rti hx hb hr hlocks rfl (by first | rfl | (simp only [arM]; repeat (first | rw [if_pos (by omega)] | rw [if_neg (by omega)]))) dX5_numbersOf_39
  · have c2_1 : so = 2 := (nI_eqG (a := so) (b := 2) (by omega) (by omega)).mp c2_1
    refine lv_iconst (v := nI 4) hx hb dX5_numbersOf_5 (by decide) ?_
    refine lv_goto (tgt := 39) hx hb dX5_numbersOf_6 (by decide) ?_
    subst hQ
    exact rti hx hb hr hlocks rfl (by first | rfl | (simp only [arM]; repeat (first | rw [if_pos (by omega)] | rw [if_neg (by omega)]))) dX5_numbersOf_39

set_option maxHeartbeats 4000000 in
set_option maxRecDepth 100000 in
theorem c_X5_isAsked (l : Launch) (va : Nat) (se : Nat) (hv9 : va < 4294967296) (hs9 : se < 4294967296) : Met l yX5_isAsked (.code yX5_isAsked cX5_isAsked 2 (some .boolean) :: wsL_law) ({ frames := 1, cells := 0, slots := 0, locals := 22 }) (va_Pc [.int (nI va), .int (nI se)] PU) (QrI (bP (va ≤ 255 ∧ se ≤ 15))) 0 0 (fun _ => False) := by
  refine Met.ofW (cc := cX5_isAsked) (maxL := 2) (ret := (some .boolean)) (by decide) rfl ?_
  intro p e s m args below meth c s₁ B hml hv
  obtain ⟨rfl, hv⟩ := hv
  have hx := B.exec
  have hb := B.bytes
  have hr := B.returns
  have hts := atoms_spec (ws := .code yX5_isAsked cX5_isAsked 2 (some .boolean) :: wsL_law) B.pre
  have hU : ∀ w ∈ wsL_law, w.before _ s = true := fun w h => hts w (List.mem_cons_of_mem _ h)
  have hown : s.vm.findClass RX5 = some m.cls := findClass_of_methodNamed B.named
  have hlocks := B.notSynchronized
  generalize hQ : MQ _ _ _ _ _ _ _ = Q
  have hl := lv_entry ([.int (nI va), .int (nI se)]) (n := 2) (Nat.le_of_ble_eq_true rfl)
  rw [lg_entry_eq]
  generalize (lg_sl ([.int (nI va), .int (nI se)]) ++ List.replicate (2 - (lg_sl ([.int (nI va), .int (nI se)])).length) Slot.unset).toArray = ls at hl ⊢
  have hl : lv_has ls 2 [(0, .int (nI va)), (1, .int (nI se))] := hl
  refine lv_iload_n hx hb dX5_isAsked_0 rfl (lv_at hl 0 rfl) ?_
  refine lv_iconst (v := nI 0) hx hb dX5_isAsked_1 (by decide) ?_
  refine lv_sipush (v := nI 255) hx hb dX5_isAsked_2 (by decide) ?_
  refine cSi (As := [.int (nI va), .int (nI 0), .int (nI 255)]) (rest := []) ⟨hx, hb, hml, hown, hts⟩ (c_X5_isIn l  va 0 255 (by omega) (by omega) (by omega)) (va_cwS 3 hts (gS mU_116 mU_117 mU_6 mU_118) rfl rfl rfl (by decide +kernel) ⟨Nat.le_of_ble_eq_true rfl, Nat.le_of_ble_eq_true rfl⟩) fbU (fun _ _ _ => trivial) rfl hl.1 rfl (Nat.le_of_ble_eq_true rfl) dX5_isAsked_5 ⟨Nat.zero_le _, Nat.zero_le _⟩ ?_
  refine lv_if_eq (tgt := 25) hx hb dX5_isAsked_8 (by decide) (fun c8_1 => ?_) (fun c8_1 => ?_)
  · have c8_1 : ¬ (0 ≤ va ∧ va ≤ 255) := bP_f c8_1
    refine lv_iconst (v := nI 0) hx hb dX5_isAsked_25 (by decide) ?_
    subst hQ
    exact rtz hx hb hr hlocks rfl rfl (bP_0 (by omega)) dX5_isAsked_26
  · have c8_1 : 0 ≤ va ∧ va ≤ 255 := bP_t c8_1
    refine lv_iload_n hx hb dX5_isAsked_11 rfl (lv_at hl 1 rfl) ?_
    refine lv_iconst (v := nI 0) hx hb dX5_isAsked_12 (by decide) ?_
    refine lv_bipush (v := nI 15) hx hb dX5_isAsked_13 (by decide) ?_
    refine cSi (As := [.int (nI se), .int (nI 0), .int (nI 15)]) (rest := []) ⟨hx, hb, hml, hown, hts⟩ (c_X5_isIn l  se 0 15 (by omega) (by omega) (by omega)) (va_cwS 3 hts (gS mU_116 mU_117 mU_6 mU_118) rfl rfl rfl (by decide +kernel) ⟨Nat.le_of_ble_eq_true rfl, Nat.le_of_ble_eq_true rfl⟩) fbU (fun _ _ _ => trivial) rfl hl.1 rfl (Nat.le_of_ble_eq_true rfl) dX5_isAsked_15 ⟨Nat.zero_le _, Nat.zero_le _⟩ ?_
    refine lv_if_eq (tgt := 25) hx hb dX5_isAsked_18 (by decide) (fun c18_2 => ?_) (fun c18_2 => ?_)
    · have c18_2 : ¬ (0 ≤ se ∧ se ≤ 15) := bP_f c18_2
      refine lv_iconst (v := nI 0) hx hb dX5_isAsked_25 (by decide) ?_
      subst hQ
      exact rtz hx hb hr hlocks rfl rfl (bP_0 (by omega)) dX5_isAsked_26
    · have c18_2 : 0 ≤ se ∧ se ≤ 15 := bP_t c18_2
      refine lv_iconst (v := nI 1) hx hb dX5_isAsked_21 (by decide) ?_
      refine lv_goto (tgt := 26) hx hb dX5_isAsked_22 (by decide) ?_
      subst hQ
      exact rtz hx hb hr hlocks rfl rfl (bP_1 (by omega)) dX5_isAsked_26

set_option maxHeartbeats 4000000 in
set_option maxRecDepth 100000 in
theorem c_X5_moved (l : Launch) (pl : Nat) (h : Nat) (fe : Nat) (hpl : pl < 100) (hh : h < 2) (hfe : fe < 16) : Met l yX5_moved (.code yX5_moved cX5_moved 3 (some .int) :: wsL_law) ({ frames := 0, cells := 0, slots := 0, locals := 0 }) (va_Pc [.int (nI pl), .int (nI h), .int (nI fe)] PU) (QrI (nI (if fe / 8 = h ∧ fe % 8 ≤ pl then pl + 1 else pl))) 0 0 (fun _ => False) := by
  refine Met.ofW (cc := cX5_moved) (maxL := 3) (ret := (some .int)) (by decide) rfl ?_
  intro p e s m args below meth c s₁ B hml hv
  obtain ⟨rfl, hv⟩ := hv
  have hx := B.exec
  have hb := B.bytes
  have hr := B.returns
  have hts := atoms_spec (ws := .code yX5_moved cX5_moved 3 (some .int) :: wsL_law) B.pre
  have hU : ∀ w ∈ wsL_law, w.before _ s = true := fun w h => hts w (List.mem_cons_of_mem _ h)
  have hown : s.vm.findClass RX5 = some m.cls := findClass_of_methodNamed B.named
  have hlocks := B.notSynchronized
  generalize hQ : MQ _ _ _ _ _ _ _ = Q
  have hl := lv_entry ([.int (nI pl), .int (nI h), .int (nI fe)]) (n := 3) (Nat.le_of_ble_eq_true rfl)
  rw [lg_entry_eq]
  generalize (lg_sl ([.int (nI pl), .int (nI h), .int (nI fe)]) ++ List.replicate (3 - (lg_sl ([.int (nI pl), .int (nI h), .int (nI fe)])).length) Slot.unset).toArray = ls at hl ⊢
  have hl : lv_has ls 3 [(0, .int (nI pl)), (1, .int (nI h)), (2, .int (nI fe))] := hl
  refine lv_iload_n hx hb dX5_moved_0 rfl (lv_at hl 2 rfl) ?_
  refine lv_bipush (v := nI 8) hx hb dX5_moved_1 (by decide) ?_
  refine lv_idiv hx hb dX5_moved_3 (nI_ne0 (by omega) (by omega)) ?_
  refine lv_topE (nI (fe / 8)) (pk_div (by omega) (by omega) (by omega)) ?_
  refine lv_iload_n hx hb dX5_moved_4 rfl (lv_at hl 1 rfl) ?_
  refine lv_icmp_ne (tgt := 22) hx hb dX5_moved_5 (by decide) (fun c5_1 => ?_) (fun c5_1 => ?_)
  · have c5_1 : ¬ (fe / 8 = h) := fun h9 => c5_1 ((nI_eqG (a := fe / 8) (b := h) (by omega) (by omega)).mpr h9)
    refine lv_iload_n hx hb dX5_moved_22 rfl (lv_at hl 0 rfl) ?_
    subst hQ
    exact rti hx hb hr hlocks rfl (by first | rfl | (repeat (first | rw [if_pos (by omega)] | rw [if_neg (by omega)]))) dX5_moved_23
  · have c5_1 : fe / 8 = h := (nI_eqG (a := fe / 8) (b := h) (by omega) (by omega)).mp c5_1
    refine lv_iload_n hx hb dX5_moved_8 rfl (lv_at hl 0 rfl) ?_
    refine lv_iload_n hx hb dX5_moved_9 rfl (lv_at hl 2 rfl) ?_
    refine lv_bipush (v := nI 8) hx hb dX5_moved_10 (by decide) ?_
    refine lv_irem hx hb dX5_moved_12 (nI_ne0 (by omega) (by omega)) ?_
    refine lv_topE (nI (fe % 8)) (pk_rem (by omega) (by omega) (by omega)) ?_
    refine lv_icmp_lt (tgt := 22) hx hb dX5_moved_13 (by decide) (fun c13_2 => ?_) (fun c13_2 => ?_)
    · have c13_2 : pl < fe % 8 := (nI_ltI (a := pl) (b := fe % 8) (by omega) (by omega)).mp c13_2
      refine lv_iload_n hx hb dX5_moved_22 rfl (lv_at hl 0 rfl) ?_
      subst hQ
      exact rti hx hb hr hlocks rfl (by first | rfl | (repeat (first | rw [if_pos (by omega)] | rw [if_neg (by omega)]))) dX5_moved_23
    · have c13_2 : ¬ (pl < fe % 8) := fun h9 => c13_2 ((nI_ltI (a := pl) (b := fe % 8) (by omega) (by omega)).mpr h9)
      refine lv_iload_n hx hb dX5_moved_16 rfl (lv_at hl 0 rfl) ?_
      refine lv_iconst (v := nI 1) hx hb dX5_moved_17 (by decide) ?_
      refine lv_iadd hx hb dX5_moved_18 ?_
      refine lv_topE (nI (pl + 1)) (nI_add _ _) ?_
      refine lv_goto (tgt := 23) hx hb dX5_moved_19 (by decide) ?_
      subst hQ
      exact rti hx hb hr hlocks rfl (by first | rfl | (repeat (first | rw [if_pos (by omega)] | rw [if_neg (by omega)]))) dX5_moved_23

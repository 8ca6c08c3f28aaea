set_option maxHeartbeats 4000000 in
set_option maxRecDepth 100000 in
theorem c_X5_isIn (l : Launch) (v : Int32) (lo : Int32) (hi : Int32) : Met l yX5_isIn wsX5_isIn ({ frames := 0, cells := 0, slots := 0, locals := 0 }) (va_Pc [.int v, .int lo, .int hi] (PU)) (RI (bP (lo.toInt ≤ v.toInt ∧ v.toInt ≤ hi.toInt))) 0 0 (fun _ => False) := by
  refine Met.ofW (cc := cX5_isIn) (maxL := 3) (ret := (some .boolean)) (by decide) rfl ?_
  intro p e s m args below meth c s₁ B hml hv
  obtain ⟨rfl, hv⟩ := hv
  have hx := B.exec
  have hb := B.bytes
  have hr := B.returns
  have hts := atoms_spec (ws := wsX5_isIn) B.pre
  have hown : s.vm.findClass RX5 = some m.cls := findClass_of_methodNamed B.named
  have hlocks := B.notSynchronized
  have hl := lv_entry ([.int v, .int lo, .int hi]) (n := 3) (Nat.le_of_ble_eq_true rfl)
  rw [lg_entry_eq]
  generalize (lg_sl ([.int v, .int lo, .int hi]) ++ List.replicate (3 - (lg_sl ([.int v, .int lo, .int hi])).length) Slot.unset).toArray = ls at hl ⊢
  have hl : lv_has ls 3 [(0, .int v), (1, .int lo), (2, .int hi)] := hl
  refine lv_iload_n hx hb dX5_isIn_0 rfl (lv_at hl 0 rfl) ?_
  refine lv_iload_n hx hb dX5_isIn_1 rfl (lv_at hl 1 rfl) ?_
  refine lv_icmp_lt (tgt := 14) hx hb dX5_isIn_2 (by decide) (fun c2_1 => ?_) (fun c2_1 => ?_)
  · have c2_1 : v.toInt < lo.toInt := by
      rw [fa_lt] at c2_1
      exact c2_1
    refine lv_iconst (v := nI 0) hx hb dX5_isIn_14 (by decide) ?_
    exact rtz hx hb hr hlocks rfl rfl (bP_0 (by omega)) dX5_isIn_15
  · have c2_1 : ¬ (v.toInt < lo.toInt) := by
      rw [fa_lt] at c2_1
      exact c2_1
    refine lv_iload_n hx hb dX5_isIn_5 rfl (lv_at hl 0 rfl) ?_
    refine lv_iload_n hx hb dX5_isIn_6 rfl (lv_at hl 2 rfl) ?_
    refine lv_icmp_gt (tgt := 14) hx hb dX5_isIn_7 (by decide) (fun c7_2 => ?_) (fun c7_2 => ?_)
    · have c7_2 : hi.toInt < v.toInt := by
        rw [fa_lt] at c7_2
        exact c7_2
      refine lv_iconst (v := nI 0) hx hb dX5_isIn_14 (by decide) ?_
      exact rtz hx hb hr hlocks rfl rfl (bP_0 (by omega)) dX5_isIn_15
    · have c7_2 : ¬ (hi.toInt < v.toInt) := by
        rw [fa_lt] at c7_2
        exact c7_2
      refine lv_iconst (v := nI 1) hx hb dX5_isIn_10 (by decide) ?_
      refine lv_goto (tgt := 15) hx hb dX5_isIn_11 (by decide) ?_
      exact rtz hx hb hr hlocks rfl rfl (bP_1 (by omega)) dX5_isIn_15

set_option maxHeartbeats 4000000 in
set_option maxRecDepth 100000 in
theorem c_X5_isLetter (l : Launch) (ch : Int32) : Met l yX5_isLetter wsX5_isLetter ({ frames := 1, cells := 0, slots := 0, locals := 22 }) (va_Pc [.int ch] (PU)) (RI (bP ((97 ≤ ch.toInt ∧ ch.toInt ≤ 122) ∨ (65 ≤ ch.toInt ∧ ch.toInt ≤ 90)))) 0 0 (fun _ => False) := by
  refine Met.ofW (cc := cX5_isLetter) (maxL := 1) (ret := (some .boolean)) (by decide) rfl ?_
  intro p e s m args below meth c s₁ B hml hv
  obtain ⟨rfl, hv⟩ := hv
  have hx := B.exec
  have hb := B.bytes
  have hr := B.returns
  have hts := atoms_spec (ws := wsX5_isLetter) B.pre
  have hown : s.vm.findClass RX5 = some m.cls := findClass_of_methodNamed B.named
  have hlocks := B.notSynchronized
  have hl := lv_entry ([.int ch]) (n := 1) (Nat.le_of_ble_eq_true rfl)
  rw [lg_entry_eq]
  generalize (lg_sl ([.int ch]) ++ List.replicate (1 - (lg_sl ([.int ch])).length) Slot.unset).toArray = ls at hl ⊢
  have hl : lv_has ls 1 [(0, .int ch)] := hl
  refine lv_iload_n hx hb dX5_isLetter_0 rfl (lv_at hl 0 rfl) ?_
  refine lv_bipush (v := nI 97) hx hb dX5_isLetter_1 (by decide) ?_
  refine lv_bipush (v := nI 122) hx hb dX5_isLetter_3 (by decide) ?_
  refine cSi (As := [.int ch, .int (nI 97), .int (nI 122)]) (rest := []) ⟨hx, hb, hml, hown, hts⟩ (c_X5_isIn l  ch (nI 97) (nI 122) ) (va_cwS 3 hts gX5_isLetter_X5_isIn rfl rfl rfl (by decide +kernel) ⟨Nat.le_of_ble_eq_true rfl, Nat.le_of_ble_eq_true rfl⟩) fbU (fun _ _ _ => trivial) rfl hl.1 rfl (Nat.le_of_ble_eq_true rfl) dX5_isLetter_5 ⟨Nat.zero_le _, Nat.zero_le _⟩ ?_
  refine lv_if_ne (tgt := 22) hx hb dX5_isLetter_8 (by decide) (fun c8_1 => ?_) (fun c8_1 => ?_)
  · have c8_1 : (nI 97).toInt ≤ ch.toInt ∧ ch.toInt ≤ (nI 122).toInt := bP_t c8_1
    refine lv_iconst (v := nI 1) hx hb dX5_isLetter_22 (by decide) ?_
    refine lv_goto (tgt := 27) hx hb dX5_isLetter_23 (by decide) ?_
    exact rtz hx hb hr hlocks rfl rfl (bP_1 (by simp only [nI_toInt (show 97 < 2 ^ 31 by omega), nI_toInt (show 122 < 2 ^ 31 by omega), nI_toInt (show 65 < 2 ^ 31 by omega), nI_toInt (show 90 < 2 ^ 31 by omega)] at *; omega)) dX5_isLetter_27
  · have c8_1 : ¬ ((nI 97).toInt ≤ ch.toInt ∧ ch.toInt ≤ (nI 122).toInt) := bP_f c8_1
    refine lv_iload_n hx hb dX5_isLetter_11 rfl (lv_at hl 0 rfl) ?_
    refine lv_bipush (v := nI 65) hx hb dX5_isLetter_12 (by decide) ?_
    refine lv_bipush (v := nI 90) hx hb dX5_isLetter_14 (by decide) ?_
    refine cSi (As := [.int ch, .int (nI 65), .int (nI 90)]) (rest := []) ⟨hx, hb, hml, hown, hts⟩ (c_X5_isIn l  ch (nI 65) (nI 90) ) (va_cwS 3 hts gX5_isLetter_X5_isIn rfl rfl rfl (by decide +kernel) ⟨Nat.le_of_ble_eq_true rfl, Nat.le_of_ble_eq_true rfl⟩) fbU (fun _ _ _ => trivial) rfl hl.1 rfl (Nat.le_of_ble_eq_true rfl) dX5_isLetter_16 ⟨Nat.zero_le _, Nat.zero_le _⟩ ?_
    refine lv_if_eq (tgt := 26) hx hb dX5_isLetter_19 (by decide) (fun c19_2 => ?_) (fun c19_2 => ?_)
    · have c19_2 : ¬ ((nI 65).toInt ≤ ch.toInt ∧ ch.toInt ≤ (nI 90).toInt) := bP_f c19_2
      refine lv_iconst (v := nI 0) hx hb dX5_isLetter_26 (by decide) ?_
      exact rtz hx hb hr hlocks rfl rfl (bP_0 (by simp only [nI_toInt (show 97 < 2 ^ 31 by omega), nI_toInt (show 122 < 2 ^ 31 by omega), nI_toInt (show 65 < 2 ^ 31 by omega), nI_toInt (show 90 < 2 ^ 31 by omega)] at *; omega)) dX5_isLetter_27
    · have c19_2 : (nI 65).toInt ≤ ch.toInt ∧ ch.toInt ≤ (nI 90).toInt := bP_t c19_2
      refine lv_iconst (v := nI 1) hx hb dX5_isLetter_22 (by decide) ?_
      refine lv_goto (tgt := 27) hx hb dX5_isLetter_23 (by decide) ?_
      exact rtz hx hb hr hlocks rfl rfl (bP_1 (by simp only [nI_toInt (show 97 < 2 ^ 31 by omega), nI_toInt (show 122 < 2 ^ 31 by omega), nI_toInt (show 65 < 2 ^ 31 by omega), nI_toInt (show 90 < 2 ^ 31 by omega)] at *; omega)) dX5_isLetter_27

set_option maxHeartbeats 4000000 in
set_option maxRecDepth 100000 in
theorem c_X5_isDigit (l : Launch) (ch : Int32) : Met l yX5_isDigit wsX5_isDigit ({ frames := 1, cells := 0, slots := 0, locals := 22 }) (va_Pc [.int ch] (PU)) (RI (bP (48 ≤ ch.toInt ∧ ch.toInt ≤ 57))) 0 0 (fun _ => False) := by
  refine Met.ofW (cc := cX5_isDigit) (maxL := 1) (ret := (some .boolean)) (by decide) rfl ?_
  intro p e s m args below meth c s₁ B hml hv
  obtain ⟨rfl, hv⟩ := hv
  have hx := B.exec
  have hb := B.bytes
  have hr := B.returns
  have hts := atoms_spec (ws := wsX5_isDigit) B.pre
  have hown : s.vm.findClass RX5 = some m.cls := findClass_of_methodNamed B.named
  have hlocks := B.notSynchronized
  have hl := lv_entry ([.int ch]) (n := 1) (Nat.le_of_ble_eq_true rfl)
  rw [lg_entry_eq]
  generalize (lg_sl ([.int ch]) ++ List.replicate (1 - (lg_sl ([.int ch])).length) Slot.unset).toArray = ls at hl ⊢
  have hl : lv_has ls 1 [(0, .int ch)] := hl
  refine lv_iload_n hx hb dX5_isDigit_0 rfl (lv_at hl 0 rfl) ?_
  refine lv_bipush (v := nI 48) hx hb dX5_isDigit_1 (by decide) ?_
  refine lv_bipush (v := nI 57) hx hb dX5_isDigit_3 (by decide) ?_
  refine cSi (As := [.int ch, .int (nI 48), .int (nI 57)]) (rest := []) ⟨hx, hb, hml, hown, hts⟩ (c_X5_isIn l  ch (nI 48) (nI 57) ) (va_cwS 3 hts gX5_isDigit_X5_isIn rfl rfl rfl (by decide +kernel) ⟨Nat.le_of_ble_eq_true rfl, Nat.le_of_ble_eq_true rfl⟩) fbU (fun _ _ _ => trivial) rfl hl.1 rfl (Nat.le_of_ble_eq_true rfl) dX5_isDigit_5 ⟨Nat.zero_le _, Nat.zero_le _⟩ ?_
  exact rtz hx hb hr hlocks rfl bP_nar (bP_c (by simp only [nI_toInt (show 48 < 2 ^ 31 by omega), nI_toInt (show 57 < 2 ^ 31 by omega)]; omega)) dX5_isDigit_8

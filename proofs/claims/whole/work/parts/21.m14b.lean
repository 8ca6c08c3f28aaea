abbrev mayM (h so k told : Nat) : Prop := (so = 8 ∧ ((k = 0 ∧ told < 2) ∨ (k = 1 ∧ told < 4) ∨ (2 ≤ k ∧ 1 ≤ told ∧ told ≤ 7))) ∨ (so ≠ 8 ∧ k = 0 ∧ (so = 6 ∨ so = 7) ∧ 2 * h ≤ told ∧ told ≤ 2 * h + 1) ∨ (so ≠ 8 ∧ k = 0 ∧ ¬ (so = 6 ∨ so = 7) ∧ 2 - 2 * h ≤ told ∧ told ≤ 3 - 2 * h) ∨ (so ≠ 8 ∧ k ≠ 0 ∧ (((so = 1 ∨ so = 7) ∧ k = 1) ∨ (so = 2 ∧ k = 3) ∨ (so = 3 ∧ k = 2)) ∧ told < 2) ∨ (so ≠ 8 ∧ k ≠ 0 ∧ ¬ (((so = 1 ∨ so = 7) ∧ k = 1) ∨ (so = 2 ∧ k = 3) ∨ (so = 3 ∧ k = 2)) ∧ told < 4)
set_option maxHeartbeats 4000000 in
set_option maxRecDepth 100000 in
theorem c_X5_mayBe (l : Launch) (D : va_G) (ad : Nat → Nat) (ka : Nat → ClassId) (f : Nat → Nat) (g : Nat → Nat → Nat) (t : Nat → Nat) (h : Nat) (so : Nat) (kk : Nat) (hh : h < 2) (hso : so < 9) (hkk : kk < 4) (ht : f 13 < 2147483648) : Met l yX5_mayBe (.code yX5_mayBe cX5_mayBe 7 (some .boolean) :: wsL_law) ({ frames := 1, cells := 0, slots := 0, locals := 22 }) (va_Pc [.ref (ad 0), .int (nI h), .int (nI so), .int (nI kk)] (PR D (mW ad ka f g t) (mT ka))) (QrI (bP (mayM h so kk (f 13)))) 0 0 (fun _ => False) := by
  refine Met.ofW (cc := cX5_mayBe) (maxL := 7) (ret := (some .boolean)) (by decide) rfl ?_
  intro p e s m args below meth c s₁ B hml hv
  obtain ⟨rfl, hP, hK⟩ := hv
  have hx := B.exec
  have hb := B.bytes
  have hr := B.returns
  have hts := atoms_spec (ws := .code yX5_mayBe cX5_mayBe 7 (some .boolean) :: wsL_law) B.pre
  have hU : ∀ w ∈ wsL_law, w.before _ s = true := fun w h => hts w (List.mem_cons_of_mem _ h)
  have hown : s.vm.findClass RX5 = some m.cls := findClass_of_methodNamed B.named
  have hlocks := B.notSynchronized
  generalize hQ : MQ _ _ _ _ _ _ _ = Q
  have hl := lv_entry ([.ref (ad 0), .int (nI h), .int (nI so), .int (nI kk)]) (n := 7) (Nat.le_of_ble_eq_true rfl)
  rw [lg_entry_eq]
  generalize (lg_sl ([.ref (ad 0), .int (nI h), .int (nI so), .int (nI kk)]) ++ List.replicate (7 - (lg_sl ([.ref (ad 0), .int (nI h), .int (nI so), .int (nI kk)])).length) Slot.unset).toArray = ls at hl ⊢
  have hl : lv_has ls 7 [(0, .ref (ad 0)), (1, .int (nI h)), (2, .int (nI so)), (3, .int (nI kk))] := hl
  refine lv_aload_n hx hb dX5_mayBe_0 rfl (lv_at hl 0 rfl) ?_
  refine va_get (D := D) (ci := 5) (v := .int (nI (f 13))) (C := RX5) (T := TX5) (N := 23) hx hb hU iX5 hown hK hP 0 rfl rfl 13 (by decide) (hU _ mU_255) (fun _ h9 => h9) rfl dX5_mayBe_1 ?_
  refine lv_iconst (v := nI 2) hx hb dX5_mayBe_4 (by decide) ?_
  refine lv_iconst (v := nI 2) hx hb dX5_mayBe_5 (by decide) ?_
  refine lv_iload_n hx hb dX5_mayBe_6 rfl (lv_at hl 1 rfl) ?_
  refine lv_imul hx hb dX5_mayBe_7 ?_
  refine lv_topE (nI (2 * h)) (pk_mul _ _) ?_
  refine lv_isub hx hb dX5_mayBe_8 ?_
  refine lv_topE (nI (2 - (2 * h))) (pk_sub (by omega)) ?_
  refine lv_iconst (v := nI 3) hx hb dX5_mayBe_9 (by decide) ?_
  refine lv_iconst (v := nI 2) hx hb dX5_mayBe_10 (by decide) ?_
  refine lv_iload_n hx hb dX5_mayBe_11 rfl (lv_at hl 1 rfl) ?_
  refine lv_imul hx hb dX5_mayBe_12 ?_
  refine lv_topE (nI (2 * h)) (pk_mul _ _) ?_
  refine lv_isub hx hb dX5_mayBe_13 ?_
  refine lv_topE (nI (3 - (2 * h))) (pk_sub (by omega)) ?_
  refine cSi (As := [.int (nI (f 13)), .int (nI (2 - (2 * h))), .int (nI (3 - (2 * h)))]) (rest := []) ⟨hx, hb, hml, hown, hts⟩ (c_X5_isIn l  (f 13) (2 - (2 * h)) (3 - (2 * h)) (by omega) (by omega) (by omega)) (va_cwS 3 hts (gS mU_116 mU_117 mU_6 mU_118) rfl rfl rfl (by decide +kernel) ⟨Nat.le_of_ble_eq_true rfl, Nat.le_of_ble_eq_true rfl⟩) fbU (fun _ _ _ => trivial) rfl hl.1 rfl (Nat.le_of_ble_eq_true rfl) dX5_mayBe_14 ⟨Nat.zero_le _, Nat.zero_le _⟩ ?_
  refine lv_istore (lv' := [(4, .int (bP ((2 - (2 * h)) ≤ (f 13) ∧ (f 13) ≤ (3 - (2 * h))))), (0, .ref (ad 0)), (1, .int (nI h)), (2, .int (nI so)), (3, .int (nI kk))]) hx hb dX5_mayBe_17 hl (by decide) rfl (fun ls hl => ?_)
  refine lv_aload_n hx hb dX5_mayBe_19 rfl (lv_at hl 1 rfl) ?_
  refine va_get (D := D) (ci := 5) (v := .int (nI (f 13))) (C := RX5) (T := TX5) (N := 23) hx hb hU iX5 hown hK hP 0 rfl rfl 13 (by decide) (hU _ mU_255) (fun _ h9 => h9) rfl dX5_mayBe_20 ?_
  refine lv_iconst (v := nI 2) hx hb dX5_mayBe_23 (by decide) ?_
  refine lv_iload_n hx hb dX5_mayBe_24 rfl (lv_at hl 2 rfl) ?_
  refine lv_imul hx hb dX5_mayBe_25 ?_
  refine lv_topE (nI (2 * h)) (pk_mul _ _) ?_
  refine lv_iconst (v := nI 1) hx hb dX5_mayBe_26 (by decide) ?_
  refine lv_iconst (v := nI 2) hx hb dX5_mayBe_27 (by decide) ?_
  refine lv_iload_n hx hb dX5_mayBe_28 rfl (lv_at hl 2 rfl) ?_
  refine lv_imul hx hb dX5_mayBe_29 ?_
  refine lv_topE (nI (2 * h)) (pk_mul _ _) ?_
  refine lv_iadd hx hb dX5_mayBe_30 ?_
  refine lv_topE (nI (1 + (2 * h))) (nI_add _ _) ?_
  refine cSi (As := [.int (nI (f 13)), .int (nI (2 * h)), .int (nI (1 + (2 * h)))]) (rest := []) ⟨hx, hb, hml, hown, hts⟩ (c_X5_isIn l  (f 13) (2 * h) (1 + (2 * h)) (by omega) (by omega) (by omega)) (va_cwS 3 hts (gS mU_116 mU_117 mU_6 mU_118) rfl rfl rfl (by decide +kernel) ⟨Nat.le_of_ble_eq_true rfl, Nat.le_of_ble_eq_true rfl⟩) fbU (fun _ _ _ => trivial) rfl hl.1 rfl (Nat.le_of_ble_eq_true rfl) dX5_mayBe_31 ⟨Nat.zero_le _, Nat.zero_le _⟩ ?_
  refine lv_istore (lv' := [(5, .int (bP ((2 * h) ≤ (f 13) ∧ (f 13) ≤ (1 + (2 * h))))), (4, .int (bP ((2 - (2 * h)) ≤ (f 13) ∧ (f 13) ≤ (3 - (2 * h))))), (0, .ref (ad 0)), (1, .int (nI h)), (2, .int (nI so)), (3, .int (nI kk))]) hx hb dX5_mayBe_34 hl (by decide) rfl (fun ls hl => ?_)
  refine lv_iload_n hx hb dX5_mayBe_36 rfl (lv_at hl 5 rfl) ?_
  refine lv_if_ne (tgt := 66) hx hb dX5_mayBe_37 (by decide) (fun c37_1 => ?_) (fun c37_1 => ?_)
  · have c37_1 : ¬ (kk = 0) := fun h9 => c37_1 ((nI_eqG (a := kk) (b := 0) (by omega) (by omega)).mpr h9)
    refine lv_iload_n hx hb dX5_mayBe_66 rfl (lv_at hl 4 rfl) ?_
    refine lv_bipush (v := nI 8) hx hb dX5_mayBe_67 (by decide) ?_
    refine lv_icmp_ne (tgt := 124) hx hb dX5_mayBe_69 (by decide) (fun c69_2 => ?_) (fun c69_2 => ?_)
    · have c69_2 : ¬ (so = 8) := fun h9 => c69_2 ((nI_eqG (a := so) (b := 8) (by omega) (by omega)).mpr h9)
      refine lv_iload_n hx hb dX5_mayBe_124 rfl (lv_at hl 4 rfl) ?_
      refine lv_iconst (v := nI 1) hx hb dX5_mayBe_125 (by decide) ?_
      refine lv_icmp_eq (tgt := 135) hx hb dX5_mayBe_126 (by decide) (fun c126_3 => ?_) (fun c126_3 => ?_)
      · have c126_3 : so = 1 := (nI_eqG (a := so) (b := 1) (by omega) (by omega)).mp c126_3
        refine lv_iload_n hx hb dX5_mayBe_135 rfl (lv_at hl 5 rfl) ?_
        refine lv_iconst (v := nI 1) hx hb dX5_mayBe_136 (by decide) ?_
        refine lv_icmp_eq (tgt := 160) hx hb dX5_mayBe_137 (by decide) (fun c137_4 => ?_) (fun c137_4 => ?_)
        · have c137_4 : kk = 1 := (nI_eqG (a := kk) (b := 1) (by omega) (by omega)).mp c137_4
          refine lv_iconst (v := nI 1) hx hb dX5_mayBe_160 (by decide) ?_
          refine lv_goto (tgt := 165) hx hb dX5_mayBe_161 (by decide) ?_
          refine lv_istore (lv' := [(6, .int (nI 1)), (5, .int (bP ((2 * h) ≤ (f 13) ∧ (f 13) ≤ (1 + (2 * h))))), (4, .int (bP ((2 - (2 * h)) ≤ (f 13) ∧ (f 13) ≤ (3 - (2 * h))))), (0, .ref (ad 0)), (1, .int (nI h)), (2, .int (nI so)), (3, .int (nI kk))]) hx hb dX5_mayBe_165 hl (by decide) rfl (fun ls hl => ?_)
          refine lv_iload hx hb dX5_mayBe_167 (lv_at hl 0 rfl) ?_
          refine lv_if_eq (tgt := 188) hx hb dX5_mayBe_169 (by decide) (fun c169_5 => absurd c169_5 (by decide)) (fun c169_5 => ?_)
          refine lv_aload_n hx hb dX5_mayBe_172 rfl (lv_at hl 3 rfl) ?_
          refine va_get (D := D) (ci := 5) (v := .int (nI (f 13))) (C := RX5) (T := TX5) (N := 23) hx hb hU iX5 hown hK hP 0 rfl rfl 13 (by decide) (hU _ mU_255) (fun _ h9 => h9) rfl dX5_mayBe_173 ?_
          refine lv_iconst (v := nI 2) hx hb dX5_mayBe_176 (by decide) ?_
          refine lv_icmp_ge (tgt := 184) hx hb dX5_mayBe_177 (by decide) (fun c177_6 => ?_) (fun c177_6 => ?_)
          · have c177_6 : 2 ≤ f 13 := (nI_leI (a := 2) (b := f 13) (by omega) (by omega)).mp c177_6
            refine lv_iconst (v := nI 0) hx hb dX5_mayBe_184 (by decide) ?_
            refine lv_goto (tgt := 201) hx hb dX5_mayBe_185 (by decide) ?_
            subst hQ
            exact rtz hx hb hr hlocks rfl rfl (bP_0 (by unfold mayM; omega)) dX5_mayBe_201
          · have c177_6 : ¬ (2 ≤ f 13) := fun h9 => c177_6 ((nI_leI (a := 2) (b := f 13) (by omega) (by omega)).mpr h9)
            refine lv_iconst (v := nI 1) hx hb dX5_mayBe_180 (by decide) ?_
            refine lv_goto (tgt := 201) hx hb dX5_mayBe_181 (by decide) ?_
            subst hQ
            exact rtz hx hb hr hlocks rfl rfl (bP_1 (by unfold mayM; omega)) dX5_mayBe_201
        · have c137_4 : ¬ (kk = 1) := fun h9 => c137_4 ((nI_eqG (a := kk) (b := 1) (by omega) (by omega)).mpr h9)
          refine lv_iload_n hx hb dX5_mayBe_140 rfl (lv_at hl 4 rfl) ?_
          refine lv_iconst (v := nI 2) hx hb dX5_mayBe_141 (by decide) ?_
          refine lv_icmp_ne (tgt := 150) hx hb dX5_mayBe_142 (by decide) (fun c142_7 => ?_) (fun c142_7 => ?_)
          · have c142_7 : ¬ (so = 2) := fun h9 => c142_7 ((nI_eqG (a := so) (b := 2) (by omega) (by omega)).mpr h9)
            refine lv_iload_n hx hb dX5_mayBe_150 rfl (lv_at hl 4 rfl) ?_
            refine lv_iconst (v := nI 3) hx hb dX5_mayBe_151 (by decide) ?_
            refine lv_icmp_ne (tgt := 164) hx hb dX5_mayBe_152 (by decide) (fun c152_8 => ?_) (fun c152_8 => ?_)
            · have c152_8 : ¬ (so = 3) := fun h9 => c152_8 ((nI_eqG (a := so) (b := 3) (by omega) (by omega)).mpr h9)
              refine lv_iconst (v := nI 0) hx hb dX5_mayBe_164 (by decide) ?_
              refine lv_istore (lv' := [(6, .int (nI 0)), (5, .int (bP ((2 * h) ≤ (f 13) ∧ (f 13) ≤ (1 + (2 * h))))), (4, .int (bP ((2 - (2 * h)) ≤ (f 13) ∧ (f 13) ≤ (3 - (2 * h))))), (0, .ref (ad 0)), (1, .int (nI h)), (2, .int (nI so)), (3, .int (nI kk))]) hx hb dX5_mayBe_165 hl (by decide) rfl (fun ls hl => ?_)
              refine lv_iload hx hb dX5_mayBe_167 (lv_at hl 0 rfl) ?_
              refine lv_if_eq (tgt := 188) hx hb dX5_mayBe_169 (by decide) (fun c169_9 => ?_) (fun c169_9 => absurd (by decide) c169_9)
              refine lv_aload_n hx hb dX5_mayBe_188 rfl (lv_at hl 3 rfl) ?_
              refine va_get (D := D) (ci := 5) (v := .int (nI (f 13))) (C := RX5) (T := TX5) (N := 23) hx hb hU iX5 hown hK hP 0 rfl rfl 13 (by decide) (hU _ mU_255) (fun _ h9 => h9) rfl dX5_mayBe_189 ?_
              refine lv_iconst (v := nI 4) hx hb dX5_mayBe_192 (by decide) ?_
              refine lv_icmp_ge (tgt := 200) hx hb dX5_mayBe_193 (by decide) (fun c193_10 => ?_) (fun c193_10 => ?_)
              · have c193_10 : 4 ≤ f 13 := (nI_leI (a := 4) (b := f 13) (by omega) (by omega)).mp c193_10
                refine lv_iconst (v := nI 0) hx hb dX5_mayBe_200 (by decide) ?_
                subst hQ
                exact rtz hx hb hr hlocks rfl rfl (bP_0 (by unfold mayM; omega)) dX5_mayBe_201
              · have c193_10 : ¬ (4 ≤ f 13) := fun h9 => c193_10 ((nI_leI (a := 4) (b := f 13) (by omega) (by omega)).mpr h9)
                refine lv_iconst (v := nI 1) hx hb dX5_mayBe_196 (by decide) ?_
                refine lv_goto (tgt := 201) hx hb dX5_mayBe_197 (by decide) ?_
                subst hQ
                exact rtz hx hb hr hlocks rfl rfl (bP_1 (by unfold mayM; omega)) dX5_mayBe_201
            · have c152_8 : so = 3 := (nI_eqG (a := so) (b := 3) (by omega) (by omega)).mp c152_8
              refine lv_iload_n hx hb dX5_mayBe_155 rfl (lv_at hl 5 rfl) ?_
              refine lv_iconst (v := nI 2) hx hb dX5_mayBe_156 (by decide) ?_
              refine lv_icmp_ne (tgt := 164) hx hb dX5_mayBe_157 (by decide) (fun c157_11 => ?_) (fun c157_11 => ?_)
              · have c157_11 : ¬ (kk = 2) := fun h9 => c157_11 ((nI_eqG (a := kk) (b := 2) (by omega) (by omega)).mpr h9)
                refine lv_iconst (v := nI 0) hx hb dX5_mayBe_164 (by decide) ?_
                refine lv_istore (lv' := [(6, .int (nI 0)), (5, .int (bP ((2 * h) ≤ (f 13) ∧ (f 13) ≤ (1 + (2 * h))))), (4, .int (bP ((2 - (2 * h)) ≤ (f 13) ∧ (f 13) ≤ (3 - (2 * h))))), (0, .ref (ad 0)), (1, .int (nI h)), (2, .int (nI so)), (3, .int (nI kk))]) hx hb dX5_mayBe_165 hl (by decide) rfl (fun ls hl => ?_)
                refine lv_iload hx hb dX5_mayBe_167 (lv_at hl 0 rfl) ?_
                refine lv_if_eq (tgt := 188) hx hb dX5_mayBe_169 (by decide) (fun c169_12 => ?_) (fun c169_12 => absurd (by decide) c169_12)
                refine lv_aload_n hx hb dX5_mayBe_188 rfl (lv_at hl 3 rfl) ?_
                refine va_get (D := D) (ci := 5) (v := .int (nI (f 13))) (C := RX5) (T := TX5) (N := 23) hx hb hU iX5 hown hK hP 0 rfl rfl 13 (by decide) (hU _ mU_255) (fun _ h9 => h9) rfl dX5_mayBe_189 ?_
                refine lv_iconst (v := nI 4) hx hb dX5_mayBe_192 (by decide) ?_
                refine lv_icmp_ge (tgt := 200) hx hb dX5_mayBe_193 (by decide) (fun c193_13 => ?_) (fun c193_13 => ?_)
                · have c193_13 : 4 ≤ f 13 := (nI_leI (a := 4) (b := f 13) (by omega) (by omega)).mp c193_13
                  refine lv_iconst (v := nI 0) hx hb dX5_mayBe_200 (by decide) ?_
                  subst hQ
                  exact rtz hx hb hr hlocks rfl rfl (bP_0 (by unfold mayM; omega)) dX5_mayBe_201
                · have c193_13 : ¬ (4 ≤ f 13) := fun h9 => c193_13 ((nI_leI (a := 4) (b := f 13) (by omega) (by omega)).mpr h9)
                  refine lv_iconst (v := nI 1) hx hb dX5_mayBe_196 (by decide) ?_
                  refine lv_goto (tgt := 201) hx hb dX5_mayBe_197 (by decide) ?_
                  subst hQ
                  exact rtz hx hb hr hlocks rfl rfl (bP_1 (by unfold mayM; omega)) dX5_mayBe_201
              · have c157_11 : kk = 2 := (nI_eqG (a := kk) (b := 2) (by omega) (by omega)).mp c157_11
                refine lv_iconst (v := nI 1) hx hb dX5_mayBe_160 (by decide) ?_
                refine lv_goto (tgt := 165) hx hb dX5_mayBe_161 (by decide) ?_
                refine lv_istore (lv' := [(6, .int (nI 1)), (5, .int (bP ((2 * h) ≤ (f 13) ∧ (f 13) ≤ (1 + (2 * h))))), (4, .int (bP ((2 - (2 * h)) ≤ (f 13) ∧ (f 13) ≤ (3 - (2 * h))))), (0, .ref (ad 0)), (1, .int (nI h)), (2, .int (nI so)), (3, .int (nI kk))]) hx hb dX5_mayBe_165 hl (by decide) rfl (fun ls hl => ?_)
                refine lv_iload hx hb dX5_mayBe_167 (lv_at hl 0 rfl) ?_
                refine lv_if_eq (tgt := 188) hx hb dX5_mayBe_169 (by decide) (fun c169_14 => absurd c169_14 (by decide)) (fun c169_14 => ?_)
                refine lv_aload_n hx hb dX5_mayBe_172 rfl (lv_at hl 3 rfl) ?_
                refine va_get (D := D) (ci := 5) (v := .int (nI (f 13))) (C := RX5) (T := TX5) (N := 23) hx hb hU iX5 hown hK hP 0 rfl rfl 13 (by decide) (hU _ mU_255) (fun _ h9 => h9) rfl dX5_mayBe_173 ?_
                refine lv_iconst (v := nI 2) hx hb dX5_mayBe_176 (by decide) ?_
                refine lv_icmp_ge (tgt := 184) hx hb dX5_mayBe_177 (by decide) (fun c177_15 => ?_) (fun c177_15 => ?_)
                · have c177_15 : 2 ≤ f 13 := (nI_leI (a := 2) (b := f 13) (by omega) (by omega)).mp c177_15
                  refine lv_iconst (v := nI 0) hx hb dX5_mayBe_184 (by decide) ?_
                  refine lv_goto (tgt := 201) hx hb dX5_mayBe_185 (by decide) ?_
                  subst hQ
                  exact rtz hx hb hr hlocks rfl rfl (bP_0 (by unfold mayM; omega)) dX5_mayBe_201
                · have c177_15 : ¬ (2 ≤ f 13) := fun h9 => c177_15 ((nI_leI (a := 2) (b := f 13) (by omega) (by omega)).mpr h9)
                  refine lv_iconst (v := nI 1) hx hb dX5_mayBe_180 (by decide) ?_
                  refine lv_goto (tgt := 201) hx hb dX5_mayBe_181 (by decide) ?_
                  subst hQ
                  exact rtz hx hb hr hlocks rfl rfl (bP_1 (by unfold mayM; omega)) dX5_mayBe_201
          · have c142_7 : so = 2 := (nI_eqG (a := so) (b := 2) (by omega) (by omega)).mp c142_7
            refine lv_iload_n hx hb dX5_mayBe_145 rfl (lv_at hl 5 rfl) ?_
            refine lv_iconst (v := nI 3) hx hb dX5_mayBe_146 (by decide) ?_
            refine lv_icmp_eq (tgt := 160) hx hb dX5_mayBe_147 (by decide) (fun c147_16 => ?_) (fun c147_16 => ?_)
            · have c147_16 : kk = 3 := (nI_eqG (a := kk) (b := 3) (by omega) (by omega)).mp c147_16
              refine lv_iconst (v := nI 1) hx hb dX5_mayBe_160 (by decide) ?_
              refine lv_goto (tgt := 165) hx hb dX5_mayBe_161 (by decide) ?_
              refine lv_istore (lv' := [(6, .int (nI 1)), (5, .int (bP ((2 * h) ≤ (f 13) ∧ (f 13) ≤ (1 + (2 * h))))), (4, .int (bP ((2 - (2 * h)) ≤ (f 13) ∧ (f 13) ≤ (3 - (2 * h))))), (0, .ref (ad 0)), (1, .int (nI h)), (2, .int (nI so)), (3, .int (nI kk))]) hx hb dX5_mayBe_165 hl (by decide) rfl (fun ls hl => ?_)
              refine lv_iload hx hb dX5_mayBe_167 (lv_at hl 0 rfl) ?_
              refine lv_if_eq (tgt := 188) hx hb dX5_mayBe_169 (by decide) (fun c169_17 => absurd c169_17 (by decide)) (fun c169_17 => ?_)
              refine lv_aload_n hx hb dX5_mayBe_172 rfl (lv_at hl 3 rfl) ?_
              refine va_get (D := D) (ci := 5) (v := .int (nI (f 13))) (C := RX5) (T := TX5) (N := 23) hx hb hU iX5 hown hK hP 0 rfl rfl 13 (by decide) (hU _ mU_255) (fun _ h9 => h9) rfl dX5_mayBe_173 ?_
              refine lv_iconst (v := nI 2) hx hb dX5_mayBe_176 (by decide) ?_
              refine lv_icmp_ge (tgt := 184) hx hb dX5_mayBe_177 (by decide) (fun c177_18 => ?_) (fun c177_18 => ?_)
              · have c177_18 : 2 ≤ f 13 := (nI_leI (a := 2) (b := f 13) (by omega) (by omega)).mp c177_18
                refine lv_iconst (v := nI 0) hx hb dX5_mayBe_184 (by decide) ?_
                refine lv_goto (tgt := 201) hx hb dX5_mayBe_185 (by decide) ?_
                subst hQ
                exact rtz hx hb hr hlocks rfl rfl (bP_0 (by unfold mayM; omega)) dX5_mayBe_201
              · have c177_18 : ¬ (2 ≤ f 13) := fun h9 => c177_18 ((nI_leI (a := 2) (b := f 13) (by omega) (by omega)).mpr h9)
                refine lv_iconst (v := nI 1) hx hb dX5_mayBe_180 (by decide) ?_
                refine lv_goto (tgt := 201) hx hb dX5_mayBe_181 (by decide) ?_
                subst hQ
                exact rtz hx hb hr hlocks rfl rfl (bP_1 (by unfold mayM; omega)) dX5_mayBe_201
            · have c147_16 : ¬ (kk = 3) := fun h9 => c147_16 ((nI_eqG (a := kk) (b := 3) (by omega) (by omega)).mpr h9)
              refine lv_iload_n hx hb dX5_mayBe_150 rfl (lv_at hl 4 rfl) ?_
              refine lv_iconst (v := nI 3) hx hb dX5_mayBe_151 (by decide) ?_
              refine lv_icmp_ne (tgt := 164) hx hb dX5_mayBe_152 (by decide) (fun c152_19 => ?_) (fun c152_19 => ?_)
              · have c152_19 : ¬ (so = 3) := fun h9 => c152_19 ((nI_eqG (a := so) (b := 3) (by omega) (by omega)).mpr h9)
                refine lv_iconst (v := nI 0) hx hb dX5_mayBe_164 (by decide) ?_
                refine lv_istore (lv' := [(6, .int (nI 0)), (5, .int (bP ((2 * h) ≤ (f 13) ∧ (f 13) ≤ (1 + (2 * h))))), (4, .int (bP ((2 - (2 * h)) ≤ (f 13) ∧ (f 13) ≤ (3 - (2 * h))))), (0, .ref (ad 0)), (1, .int (nI h)), (2, .int (nI so)), (3, .int (nI kk))]) hx hb dX5_mayBe_165 hl (by decide) rfl (fun ls hl => ?_)
                refine lv_iload hx hb dX5_mayBe_167 (lv_at hl 0 rfl) ?_
                refine lv_if_eq (tgt := 188) hx hb dX5_mayBe_169 (by decide) (fun c169_20 => ?_) (fun c169_20 => absurd (by decide) c169_20)
                refine lv_aload_n hx hb dX5_mayBe_188 rfl (lv_at hl 3 rfl) ?_
                refine va_get (D := D) (ci := 5) (v := .int (nI (f 13))) (C := RX5) (T := TX5) (N := 23) hx hb hU iX5 hown hK hP 0 rfl rfl 13 (by decide) (hU _ mU_255) (fun _ h9 => h9) rfl dX5_mayBe_189 ?_
                refine lv_iconst (v := nI 4) hx hb dX5_mayBe_192 (by decide) ?_
                refine lv_icmp_ge (tgt := 200) hx hb dX5_mayBe_193 (by decide) (fun c193_21 => ?_) (fun c193_21 => ?_)
                · have c193_21 : 4 ≤ f 13 := (nI_leI (a := 4) (b := f 13) (by omega) (by omega)).mp c193_21
                  refine lv_iconst (v := nI 0) hx hb dX5_mayBe_200 (by decide) ?_
                  subst hQ
                  exact rtz hx hb hr hlocks rfl rfl (bP_0 (by unfold mayM; omega)) dX5_mayBe_201
                · have c193_21 : ¬ (4 ≤ f 13) := fun h9 => c193_21 ((nI_leI (a := 4) (b := f 13) (by omega) (by omega)).mpr h9)
                  refine lv_iconst (v := nI 1) hx hb dX5_mayBe_196 (by decide) ?_
                  refine lv_goto (tgt := 201) hx hb dX5_mayBe_197 (by decide) ?_
                  subst hQ
                  exact rtz hx hb hr hlocks rfl rfl (bP_1 (by unfold mayM; omega)) dX5_mayBe_201
              · have c152_19 : so = 3 := (nI_eqG (a := so) (b := 3) (by omega) (by omega)).mp c152_19
                refine lv_iload_n hx hb dX5_mayBe_155 rfl (lv_at hl 5 rfl) ?_
                refine lv_iconst (v := nI 2) hx hb dX5_mayBe_156 (by decide) ?_
                refine lv_icmp_ne (tgt := 164) hx hb dX5_mayBe_157 (by decide) (fun c157_22 => ?_) (fun c157_22 => ?_)
                · have c157_22 : ¬ (kk = 2) := fun h9 => c157_22 ((nI_eqG (a := kk) (b := 2) (by omega) (by omega)).mpr h9)
                  refine lv_iconst (v := nI 0) hx hb dX5_mayBe_164 (by decide) ?_
                  refine lv_istore (lv' := [(6, .int (nI 0)), (5, .int (bP ((2 * h) ≤ (f 13) ∧ (f 13) ≤ (1 + (2 * h))))), (4, .int (bP ((2 - (2 * h)) ≤ (f 13) ∧ (f 13) ≤ (3 - (2 * h))))), (0, .ref (ad 0)), (1, .int (nI h)), (2, .int (nI so)), (3, .int (nI kk))]) hx hb dX5_mayBe_165 hl (by decide) rfl (fun ls hl => ?_)
                  refine lv_iload hx hb dX5_mayBe_167 (lv_at hl 0 rfl) ?_
                  refine lv_if_eq (tgt := 188) hx hb dX5_mayBe_169 (by decide) (fun c169_23 => ?_) (fun c169_23 => absurd (by decide) c169_23)
                  refine lv_aload_n hx hb dX5_mayBe_188 rfl (lv_at hl 3 rfl) ?_
                  refine va_get (D := D) (ci := 5) (v := .int (nI (f 13))) (C := RX5) (T := TX5) (N := 23) hx hb hU iX5 hown hK hP 0 rfl rfl 13 (by decide) (hU _ mU_255) (fun _ h9 => h9) rfl dX5_mayBe_189 ?_
                  refine lv_iconst (v := nI 4) hx hb dX5_mayBe_192 (by decide) ?_
                  refine lv_icmp_ge (tgt := 200) hx hb dX5_mayBe_193 (by decide) (fun c193_24 => ?_) (fun c193_24 => ?_)
                  · have c193_24 : 4 ≤ f 13 := (nI_leI (a := 4) (b := f 13) (by omega) (by omega)).mp c193_24
                    refine lv_iconst (v := nI 0) hx hb dX5_mayBe_200 (by decide) ?_
                    subst hQ
                    exact rtz hx hb hr hlocks rfl rfl (bP_0 (by unfold mayM; omega)) dX5_mayBe_201
                  · have c193_24 : ¬ (4 ≤ f 13) := fun h9 => c193_24 ((nI_leI (a := 4) (b := f 13) (by omega) (by omega)).mpr h9)
                    refine lv_iconst (v := nI 1) hx hb dX5_mayBe_196 (by decide) ?_
                    refine lv_goto (tgt := 201) hx hb dX5_mayBe_197 (by decide) ?_
                    subst hQ
                    exact rtz hx hb hr hlocks rfl rfl (bP_1 (by unfold mayM; omega)) dX5_mayBe_201
                · have c157_22 : kk = 2 := (nI_eqG (a := kk) (b := 2) (by omega) (by omega)).mp c157_22
                  refine lv_iconst (v := nI 1) hx hb dX5_mayBe_160 (by decide) ?_
                  refine lv_goto (tgt := 165) hx hb dX5_mayBe_161 (by decide) ?_
                  refine lv_istore (lv' := [(6, .int (nI 1)), (5, .int (bP ((2 * h) ≤ (f 13) ∧ (f 13) ≤ (1 + (2 * h))))), (4, .int (bP ((2 - (2 * h)) ≤ (f 13) ∧ (f 13) ≤ (3 - (2 * h))))), (0, .ref (ad 0)), (1, .int (nI h)), (2, .int (nI so)), (3, .int (nI kk))]) hx hb dX5_mayBe_165 hl (by decide) rfl (fun ls hl => ?_)
                  refine lv_iload hx hb dX5_mayBe_167 (lv_at hl 0 rfl) ?_
                  refine lv_if_eq (tgt := 188) hx hb dX5_mayBe_169 (by decide) (fun c169_25 => absurd c169_25 (by decide)) (fun c169_25 => ?_)
                  refine lv_aload_n hx hb dX5_mayBe_172 rfl (lv_at hl 3 rfl) ?_
                  refine va_get (D := D) (ci := 5) (v := .int (nI (f 13))) (C := RX5) (T := TX5) (N := 23) hx hb hU iX5 hown hK hP 0 rfl rfl 13 (by decide) (hU _ mU_255) (fun _ h9 => h9) rfl dX5_mayBe_173 ?_
                  refine lv_iconst (v := nI 2) hx hb dX5_mayBe_176 (by decide) ?_
                  refine lv_icmp_ge (tgt := 184) hx hb dX5_mayBe_177 (by decide) (fun c177_26 => ?_) (fun c177_26 => ?_)
                  · have c177_26 : 2 ≤ f 13 := (nI_leI (a := 2) (b := f 13) (by omega) (by omega)).mp c177_26
                    refine lv_iconst (v := nI 0) hx hb dX5_mayBe_184 (by decide) ?_
                    refine lv_goto (tgt := 201) hx hb dX5_mayBe_185 (by decide) ?_
                    subst hQ
                    exact rtz hx hb hr hlocks rfl rfl (bP_0 (by unfold mayM; omega)) dX5_mayBe_201
                  · have c177_26 : ¬ (2 ≤ f 13) := fun h9 => c177_26 ((nI_leI (a := 2) (b := f 13) (by omega) (by omega)).mpr h9)
                    refine lv_iconst (v := nI 1) hx hb dX5_mayBe_180 (by decide) ?_
                    refine lv_goto (tgt := 201) hx hb dX5_mayBe_181 (by decide) ?_
                    subst hQ
                    exact rtz hx hb hr hlocks rfl rfl (bP_1 (by unfold mayM; omega)) dX5_mayBe_201
      · have c126_3 : ¬ (so = 1) := fun h9 => c126_3 ((nI_eqG (a := so) (b := 1) (by omega) (by omega)).mpr h9)
        refine lv_iload_n hx hb dX5_mayBe_129 rfl (lv_at hl 4 rfl) ?_
        refine lv_bipush (v := nI 7) hx hb dX5_mayBe_130 (by decide) ?_
        refine lv_icmp_ne (tgt := 140) hx hb dX5_mayBe_132 (by decide) (fun c132_27 => ?_) (fun c132_27 => ?_)
        · have c132_27 : ¬ (so = 7) := fun h9 => c132_27 ((nI_eqG (a := so) (b := 7) (by omega) (by omega)).mpr h9)
          refine lv_iload_n hx hb dX5_mayBe_140 rfl (lv_at hl 4 rfl) ?_
          refine lv_iconst (v := nI 2) hx hb dX5_mayBe_141 (by decide) ?_
          refine lv_icmp_ne (tgt := 150) hx hb dX5_mayBe_142 (by decide) (fun c142_28 => ?_) (fun c142_28 => ?_)
          · have c142_28 : ¬ (so = 2) := fun h9 => c142_28 ((nI_eqG (a := so) (b := 2) (by omega) (by omega)).mpr h9)
            refine lv_iload_n hx hb dX5_mayBe_150 rfl (lv_at hl 4 rfl) ?_
            refine lv_iconst (v := nI 3) hx hb dX5_mayBe_151 (by decide) ?_
            refine lv_icmp_ne (tgt := 164) hx hb dX5_mayBe_152 (by decide) (fun c152_29 => ?_) (fun c152_29 => ?_)
            · have c152_29 : ¬ (so = 3) := fun h9 => c152_29 ((nI_eqG (a := so) (b := 3) (by omega) (by omega)).mpr h9)
              refine lv_iconst (v := nI 0) hx hb dX5_mayBe_164 (by decide) ?_
              refine lv_istore (lv' := [(6, .int (nI 0)), (5, .int (bP ((2 * h) ≤ (f 13) ∧ (f 13) ≤ (1 + (2 * h))))), (4, .int (bP ((2 - (2 * h)) ≤ (f 13) ∧ (f 13) ≤ (3 - (2 * h))))), (0, .ref (ad 0)), (1, .int (nI h)), (2, .int (nI so)), (3, .int (nI kk))]) hx hb dX5_mayBe_165 hl (by decide) rfl (fun ls hl => ?_)
              refine lv_iload hx hb dX5_mayBe_167 (lv_at hl 0 rfl) ?_
              refine lv_if_eq (tgt := 188) hx hb dX5_mayBe_169 (by decide) (fun c169_30 => ?_) (fun c169_30 => absurd (by decide) c169_30)
              refine lv_aload_n hx hb dX5_mayBe_188 rfl (lv_at hl 3 rfl) ?_
              refine va_get (D := D) (ci := 5) (v := .int (nI (f 13))) (C := RX5) (T := TX5) (N := 23) hx hb hU iX5 hown hK hP 0 rfl rfl 13 (by decide) (hU _ mU_255) (fun _ h9 => h9) rfl dX5_mayBe_189 ?_
              refine lv_iconst (v := nI 4) hx hb dX5_mayBe_192 (by decide) ?_
              refine lv_icmp_ge (tgt := 200) hx hb dX5_mayBe_193 (by decide) (fun c193_31 => ?_) (fun c193_31 => ?_)
              · have c193_31 : 4 ≤ f 13 := (nI_leI (a := 4) (b := f 13) (by omega) (by omega)).mp c193_31
                refine lv_iconst (v := nI 0) hx hb dX5_mayBe_200 (by decide) ?_
                subst hQ
                exact rtz hx hb hr hlocks rfl rfl (bP_0 (by unfold mayM; omega)) dX5_mayBe_201
              · have c193_31 : ¬ (4 ≤ f 13) := fun h9 => c193_31 ((nI_leI (a := 4) (b := f 13) (by omega) (by omega)).mpr h9)
                refine lv_iconst (v := nI 1) hx hb dX5_mayBe_196 (by decide) ?_
                refine lv_goto (tgt := 201) hx hb dX5_mayBe_197 (by decide) ?_
                subst hQ
                exact rtz hx hb hr hlocks rfl rfl (bP_1 (by unfold mayM; omega)) dX5_mayBe_201
            · have c152_29 : so = 3 := (nI_eqG (a := so) (b := 3) (by omega) (by omega)).mp c152_29
              refine lv_iload_n hx hb dX5_mayBe_155 rfl (lv_at hl 5 rfl) ?_
              refine lv_iconst (v := nI 2) hx hb dX5_mayBe_156 (by decide) ?_
              refine lv_icmp_ne (tgt := 164) hx hb dX5_mayBe_157 (by decide) (fun c157_32 => ?_) (fun c157_32 => ?_)
              · have c157_32 : ¬ (kk = 2) := fun h9 => c157_32 ((nI_eqG (a := kk) (b := 2) (by omega) (by omega)).mpr h9)
                refine lv_iconst (v := nI 0) hx hb dX5_mayBe_164 (by decide) ?_
                refine lv_istore (lv' := [(6, .int (nI 0)), (5, .int (bP ((2 * h) ≤ (f 13) ∧ (f 13) ≤ (1 + (2 * h))))), (4, .int (bP ((2 - (2 * h)) ≤ (f 13) ∧ (f 13) ≤ (3 - (2 * h))))), (0, .ref (ad 0)), (1, .int (nI h)), (2, .int (nI so)), (3, .int (nI kk))]) hx hb dX5_mayBe_165 hl (by decide) rfl (fun ls hl => ?_)
                refine lv_iload hx hb dX5_mayBe_167 (lv_at hl 0 rfl) ?_
                refine lv_if_eq (tgt := 188) hx hb dX5_mayBe_169 (by decide) (fun c169_33 => ?_) (fun c169_33 => absurd (by decide) c169_33)
                refine lv_aload_n hx hb dX5_mayBe_188 rfl (lv_at hl 3 rfl) ?_
                refine va_get (D := D) (ci := 5) (v := .int (nI (f 13))) (C := RX5) (T := TX5) (N := 23) hx hb hU iX5 hown hK hP 0 rfl rfl 13 (by decide) (hU _ mU_255) (fun _ h9 => h9) rfl dX5_mayBe_189 ?_
                refine lv_iconst (v := nI 4) hx hb dX5_mayBe_192 (by decide) ?_
                refine lv_icmp_ge (tgt := 200) hx hb dX5_mayBe_193 (by decide) (fun c193_34 => ?_) (fun c193_34 => ?_)
                · have c193_34 : 4 ≤ f 13 := (nI_leI (a := 4) (b := f 13) (by omega) (by omega)).mp c193_34
                  refine lv_iconst (v := nI 0) hx hb dX5_mayBe_200 (by decide) ?_
                  subst hQ
                  exact rtz hx hb hr hlocks rfl rfl (bP_0 (by unfold mayM; omega)) dX5_mayBe_201
                · have c193_34 : ¬ (4 ≤ f 13) := fun h9 => c193_34 ((nI_leI (a := 4) (b := f 13) (by omega) (by omega)).mpr h9)
                  refine lv_iconst (v := nI 1) hx hb dX5_mayBe_196 (by decide) ?_
                  refine lv_goto (tgt := 201) hx hb dX5_mayBe_197 (by decide) ?_
                  subst hQ
                  exact rtz hx hb hr hlocks rfl rfl (bP_1 (by unfold mayM; omega)) dX5_mayBe_201
              · have c157_32 : kk = 2 := (nI_eqG (a := kk) (b := 2) (by omega) (by omega)).mp c157_32
                refine lv_iconst (v := nI 1) hx hb dX5_mayBe_160 (by decide) ?_
                refine lv_goto (tgt := 165) hx hb dX5_mayBe_161 (by decide) ?_
                refine lv_istore (lv' := [(6, .int (nI 1)), (5, .int (bP ((2 * h) ≤ (f 13) ∧ (f 13) ≤ (1 + (2 * h))))), (4, .int (bP ((2 - (2 * h)) ≤ (f 13) ∧ (f 13) ≤ (3 - (2 * h))))), (0, .ref (ad 0)), (1, .int (nI h)), (2, .int (nI so)), (3, .int (nI kk))]) hx hb dX5_mayBe_165 hl (by decide) rfl (fun ls hl => ?_)
                refine lv_iload hx hb dX5_mayBe_167 (lv_at hl 0 rfl) ?_
                refine lv_if_eq (tgt := 188) hx hb dX5_mayBe_169 (by decide) (fun c169_35 => absurd c169_35 (by decide)) (fun c169_35 => ?_)
                refine lv_aload_n hx hb dX5_mayBe_172 rfl (lv_at hl 3 rfl) ?_
                refine va_get (D := D) (ci := 5) (v := .int (nI (f 13))) (C := RX5) (T := TX5) (N := 23) hx hb hU iX5 hown hK hP 0 rfl rfl 13 (by decide) (hU _ mU_255) (fun _ h9 => h9) rfl dX5_mayBe_173 ?_
                refine lv_iconst (v := nI 2) hx hb dX5_mayBe_176 (by decide) ?_
                refine lv_icmp_ge (tgt := 184) hx hb dX5_mayBe_177 (by decide) (fun c177_36 => ?_) (fun c177_36 => ?_)
                · have c177_36 : 2 ≤ f 13 := (nI_leI (a := 2) (b := f 13) (by omega) (by omega)).mp c177_36
                  refine lv_iconst (v := nI 0) hx hb dX5_mayBe_184 (by decide) ?_
                  refine lv_goto (tgt := 201) hx hb dX5_mayBe_185 (by decide) ?_
                  subst hQ
                  exact rtz hx hb hr hlocks rfl rfl (bP_0 (by unfold mayM; omega)) dX5_mayBe_201
                · have c177_36 : ¬ (2 ≤ f 13) := fun h9 => c177_36 ((nI_leI (a := 2) (b := f 13) (by omega) (by omega)).mpr h9)
                  refine lv_iconst (v := nI 1) hx hb dX5_mayBe_180 (by decide) ?_
                  refine lv_goto (tgt := 201) hx hb dX5_mayBe_181 (by decide) ?_
                  subst hQ
                  exact rtz hx hb hr hlocks rfl rfl (bP_1 (by unfold mayM; omega)) dX5_mayBe_201
          · have c142_28 : so = 2 := (nI_eqG (a := so) (b := 2) (by omega) (by omega)).mp c142_28
            refine lv_iload_n hx hb dX5_mayBe_145 rfl (lv_at hl 5 rfl) ?_
            refine lv_iconst (v := nI 3) hx hb dX5_mayBe_146 (by decide) ?_
            refine lv_icmp_eq (tgt := 160) hx hb dX5_mayBe_147 (by decide) (fun c147_37 => ?_) (fun c147_37 => ?_)
            · have c147_37 : kk = 3 := (nI_eqG (a := kk) (b := 3) (by omega) (by omega)).mp c147_37
              refine lv_iconst (v := nI 1) hx hb dX5_mayBe_160 (by decide) ?_
              refine lv_goto (tgt := 165) hx hb dX5_mayBe_161 (by decide) ?_
              refine lv_istore (lv' := [(6, .int (nI 1)), (5, .int (bP ((2 * h) ≤ (f 13) ∧ (f 13) ≤ (1 + (2 * h))))), (4, .int (bP ((2 - (2 * h)) ≤ (f 13) ∧ (f 13) ≤ (3 - (2 * h))))), (0, .ref (ad 0)), (1, .int (nI h)), (2, .int (nI so)), (3, .int (nI kk))]) hx hb dX5_mayBe_165 hl (by decide) rfl (fun ls hl => ?_)
              refine lv_iload hx hb dX5_mayBe_167 (lv_at hl 0 rfl) ?_
              refine lv_if_eq (tgt := 188) hx hb dX5_mayBe_169 (by decide) (fun c169_38 => absurd c169_38 (by decide)) (fun c169_38 => ?_)
              refine lv_aload_n hx hb dX5_mayBe_172 rfl (lv_at hl 3 rfl) ?_
              refine va_get (D := D) (ci := 5) (v := .int (nI (f 13))) (C := RX5) (T := TX5) (N := 23) hx hb hU iX5 hown hK hP 0 rfl rfl 13 (by decide) (hU _ mU_255) (fun _ h9 => h9) rfl dX5_mayBe_173 ?_
              refine lv_iconst (v := nI 2) hx hb dX5_mayBe_176 (by decide) ?_
              refine lv_icmp_ge (tgt := 184) hx hb dX5_mayBe_177 (by decide) (fun c177_39 => ?_) (fun c177_39 => ?_)
              · have c177_39 : 2 ≤ f 13 := (nI_leI (a := 2) (b := f 13) (by omega) (by omega)).mp c177_39
                refine lv_iconst (v := nI 0) hx hb dX5_mayBe_184 (by decide) ?_
                refine lv_goto (tgt := 201) hx hb dX5_mayBe_185 (by decide) ?_
                subst hQ
                exact rtz hx hb hr hlocks rfl rfl (bP_0 (by unfold mayM; omega)) dX5_mayBe_201
              · have c177_39 : ¬ (2 ≤ f 13) := fun h9 => c177_39 ((nI_leI (a := 2) (b := f 13) (by omega) (by omega)).mpr h9)
                refine lv_iconst (v := nI 1) hx hb dX5_mayBe_180 (by decide) ?_
                refine lv_goto (tgt := 201) hx hb dX5_mayBe_181 (by decide) ?_
                subst hQ
                exact rtz hx hb hr hlocks rfl rfl (bP_1 (by unfold mayM; omega)) dX5_mayBe_201
            · have c147_37 : ¬ (kk = 3) := fun h9 => c147_37 ((nI_eqG (a := kk) (b := 3) (by omega) (by omega)).mpr h9)
              refine lv_iload_n hx hb dX5_mayBe_150 rfl (lv_at hl 4 rfl) ?_
              refine lv_iconst (v := nI 3) hx hb dX5_mayBe_151 (by decide) ?_
              refine lv_icmp_ne (tgt := 164) hx hb dX5_mayBe_152 (by decide) (fun c152_40 => ?_) (fun c152_40 => ?_)
              · have c152_40 : ¬ (so = 3) := fun h9 => c152_40 ((nI_eqG (a := so) (b := 3) (by omega) (by omega)).mpr h9)
                refine lv_iconst (v := nI 0) hx hb dX5_mayBe_164 (by decide) ?_
                refine lv_istore (lv' := [(6, .int (nI 0)), (5, .int (bP ((2 * h) ≤ (f 13) ∧ (f 13) ≤ (1 + (2 * h))))), (4, .int (bP ((2 - (2 * h)) ≤ (f 13) ∧ (f 13) ≤ (3 - (2 * h))))), (0, .ref (ad 0)), (1, .int (nI h)), (2, .int (nI so)), (3, .int (nI kk))]) hx hb dX5_mayBe_165 hl (by decide) rfl (fun ls hl => ?_)
                refine lv_iload hx hb dX5_mayBe_167 (lv_at hl 0 rfl) ?_
                refine lv_if_eq (tgt := 188) hx hb dX5_mayBe_169 (by decide) (fun c169_41 => ?_) (fun c169_41 => absurd (by decide) c169_41)
                refine lv_aload_n hx hb dX5_mayBe_188 rfl (lv_at hl 3 rfl) ?_
                refine va_get (D := D) (ci := 5) (v := .int (nI (f 13))) (C := RX5) (T := TX5) (N := 23) hx hb hU iX5 hown hK hP 0 rfl rfl 13 (by decide) (hU _ mU_255) (fun _ h9 => h9) rfl dX5_mayBe_189 ?_
                refine lv_iconst (v := nI 4) hx hb dX5_mayBe_192 (by decide) ?_
                refine lv_icmp_ge (tgt := 200) hx hb dX5_mayBe_193 (by decide) (fun c193_42 => ?_) (fun c193_42 => ?_)
                · have c193_42 : 4 ≤ f 13 := (nI_leI (a := 4) (b := f 13) (by omega) (by omega)).mp c193_42
                  refine lv_iconst (v := nI 0) hx hb dX5_mayBe_200 (by decide) ?_
                  subst hQ
                  exact rtz hx hb hr hlocks rfl rfl (bP_0 (by unfold mayM; omega)) dX5_mayBe_201
                · have c193_42 : ¬ (4 ≤ f 13) := fun h9 => c193_42 ((nI_leI (a := 4) (b := f 13) (by omega) (by omega)).mpr h9)
                  refine lv_iconst (v := nI 1) hx hb dX5_mayBe_196 (by decide) ?_
                  refine lv_goto (tgt := 201) hx hb dX5_mayBe_197 (by decide) ?_
                  subst hQ
                  exact rtz hx hb hr hlocks rfl rfl (bP_1 (by unfold mayM; omega)) dX5_mayBe_201
              · have c152_40 : so = 3 := (nI_eqG (a := so) (b := 3) (by omega) (by omega)).mp c152_40
                refine lv_iload_n hx hb dX5_mayBe_155 rfl (lv_at hl 5 rfl) ?_
                refine lv_iconst (v := nI 2) hx hb dX5_mayBe_156 (by decide) ?_
                refine lv_icmp_ne (tgt := 164) hx hb dX5_mayBe_157 (by decide) (fun c157_43 => ?_) (fun c157_43 => ?_)
                · have c157_43 : ¬ (kk = 2) := fun h9 => c157_43 ((nI_eqG (a := kk) (b := 2) (by omega) (by omega)).mpr h9)
                  refine lv_iconst (v := nI 0) hx hb dX5_mayBe_164 (by decide) ?_
                  refine lv_istore (lv' := [(6, .int (nI 0)), (5, .int (bP ((2 * h) ≤ (f 13) ∧ (f 13) ≤ (1 + (2 * h))))), (4, .int (bP ((2 - (2 * h)) ≤ (f 13) ∧ (f 13) ≤ (3 - (2 * h))))), (0, .ref (ad 0)), (1, .int (nI h)), (2, .int (nI so)), (3, .int (nI kk))]) hx hb dX5_mayBe_165 hl (by decide) rfl (fun ls hl => ?_)
                  refine lv_iload hx hb dX5_mayBe_167 (lv_at hl 0 rfl) ?_
                  refine lv_if_eq (tgt := 188) hx hb dX5_mayBe_169 (by decide) (fun c169_44 => ?_) (fun c169_44 => absurd (by decide) c169_44)
                  refine lv_aload_n hx hb dX5_mayBe_188 rfl (lv_at hl 3 rfl) ?_
                  refine va_get (D := D) (ci := 5) (v := .int (nI (f 13))) (C := RX5) (T := TX5) (N := 23) hx hb hU iX5 hown hK hP 0 rfl rfl 13 (by decide) (hU _ mU_255) (fun _ h9 => h9) rfl dX5_mayBe_189 ?_
                  refine lv_iconst (v := nI 4) hx hb dX5_mayBe_192 (by decide) ?_
                  refine lv_icmp_ge (tgt := 200) hx hb dX5_mayBe_193 (by decide) (fun c193_45 => ?_) (fun c193_45 => ?_)
                  · have c193_45 : 4 ≤ f 13 := (nI_leI (a := 4) (b := f 13) (by omega) (by omega)).mp c193_45
                    refine lv_iconst (v := nI 0) hx hb dX5_mayBe_200 (by decide) ?_
                    subst hQ
                    exact rtz hx hb hr hlocks rfl rfl (bP_0 (by unfold mayM; omega)) dX5_mayBe_201
                  · have c193_45 : ¬ (4 ≤ f 13) := fun h9 => c193_45 ((nI_leI (a := 4) (b := f 13) (by omega) (by omega)).mpr h9)
                    refine lv_iconst (v := nI 1) hx hb dX5_mayBe_196 (by decide) ?_
                    refine lv_goto (tgt := 201) hx hb dX5_mayBe_197 (by decide) ?_
                    subst hQ
                    exact rtz hx hb hr hlocks rfl rfl (bP_1 (by unfold mayM; omega)) dX5_mayBe_201
                · have c157_43 : kk = 2 := (nI_eqG (a := kk) (b := 2) (by omega) (by omega)).mp c157_43
                  refine lv_iconst (v := nI 1) hx hb dX5_mayBe_160 (by decide) ?_
                  refine lv_goto (tgt := 165) hx hb dX5_mayBe_161 (by decide) ?_
                  refine lv_istore (lv' := [(6, .int (nI 1)), (5, .int (bP ((2 * h) ≤ (f 13) ∧ (f 13) ≤ (1 + (2 * h))))), (4, .int (bP ((2 - (2 * h)) ≤ (f 13) ∧ (f 13) ≤ (3 - (2 * h))))), (0, .ref (ad 0)), (1, .int (nI h)), (2, .int (nI so)), (3, .int (nI kk))]) hx hb dX5_mayBe_165 hl (by decide) rfl (fun ls hl => ?_)
                  refine lv_iload hx hb dX5_mayBe_167 (lv_at hl 0 rfl) ?_
                  refine lv_if_eq (tgt := 188) hx hb dX5_mayBe_169 (by decide) (fun c169_46 => absurd c169_46 (by decide)) (fun c169_46 => ?_)
                  refine lv_aload_n hx hb dX5_mayBe_172 rfl (lv_at hl 3 rfl) ?_
                  refine va_get (D := D) (ci := 5) (v := .int (nI (f 13))) (C := RX5) (T := TX5) (N := 23) hx hb hU iX5 hown hK hP 0 rfl rfl 13 (by decide) (hU _ mU_255) (fun _ h9 => h9) rfl dX5_mayBe_173 ?_
                  refine lv_iconst (v := nI 2) hx hb dX5_mayBe_176 (by decide) ?_
                  refine lv_icmp_ge (tgt := 184) hx hb dX5_mayBe_177 (by decide) (fun c177_47 => ?_) (fun c177_47 => ?_)
                  · have c177_47 : 2 ≤ f 13 := (nI_leI (a := 2) (b := f 13) (by omega) (by omega)).mp c177_47
                    refine lv_iconst (v := nI 0) hx hb dX5_mayBe_184 (by decide) ?_
                    refine lv_goto (tgt := 201) hx hb dX5_mayBe_185 (by decide) ?_
                    subst hQ
                    exact rtz hx hb hr hlocks rfl rfl (bP_0 (by unfold mayM; omega)) dX5_mayBe_201
                  · have c177_47 : ¬ (2 ≤ f 13) := fun h9 => c177_47 ((nI_leI (a := 2) (b := f 13) (by omega) (by omega)).mpr h9)
                    refine lv_iconst (v := nI 1) hx hb dX5_mayBe_180 (by decide) ?_
                    refine lv_goto (tgt := 201) hx hb dX5_mayBe_181 (by decide) ?_
                    subst hQ
                    exact rtz hx hb hr hlocks rfl rfl (bP_1 (by unfold mayM; omega)) dX5_mayBe_201
        · have c132_27 : so = 7 := (nI_eqG (a := so) (b := 7) (by omega) (by omega)).mp c132_27
          refine lv_iload_n hx hb dX5_mayBe_135 rfl (lv_at hl 5 rfl) ?_
          refine lv_iconst (v := nI 1) hx hb dX5_mayBe_136 (by decide) ?_
          refine lv_icmp_eq (tgt := 160) hx hb dX5_mayBe_137 (by decide) (fun c137_48 => ?_) (fun c137_48 => ?_)
          · have c137_48 : kk = 1 := (nI_eqG (a := kk) (b := 1) (by omega) (by omega)).mp c137_48
            refine lv_iconst (v := nI 1) hx hb dX5_mayBe_160 (by decide) ?_
            refine lv_goto (tgt := 165) hx hb dX5_mayBe_161 (by decide) ?_
            refine lv_istore (lv' := [(6, .int (nI 1)), (5, .int (bP ((2 * h) ≤ (f 13) ∧ (f 13) ≤ (1 + (2 * h))))), (4, .int (bP ((2 - (2 * h)) ≤ (f 13) ∧ (f 13) ≤ (3 - (2 * h))))), (0, .ref (ad 0)), (1, .int (nI h)), (2, .int (nI so)), (3, .int (nI kk))]) hx hb dX5_mayBe_165 hl (by decide) rfl (fun ls hl => ?_)
            refine lv_iload hx hb dX5_mayBe_167 (lv_at hl 0 rfl) ?_
            refine lv_if_eq (tgt := 188) hx hb dX5_mayBe_169 (by decide) (fun c169_49 => absurd c169_49 (by decide)) (fun c169_49 => ?_)
            refine lv_aload_n hx hb dX5_mayBe_172 rfl (lv_at hl 3 rfl) ?_
            refine va_get (D := D) (ci := 5) (v := .int (nI (f 13))) (C := RX5) (T := TX5) (N := 23) hx hb hU iX5 hown hK hP 0 rfl rfl 13 (by decide) (hU _ mU_255) (fun _ h9 => h9) rfl dX5_mayBe_173 ?_
            refine lv_iconst (v := nI 2) hx hb dX5_mayBe_176 (by decide) ?_
            refine lv_icmp_ge (tgt := 184) hx hb dX5_mayBe_177 (by decide) (fun c177_50 => ?_) (fun c177_50 => ?_)
            · have c177_50 : 2 ≤ f 13 := (nI_leI (a := 2) (b := f 13) (by omega) (by omega)).mp c177_50
              refine lv_iconst (v := nI 0) hx hb dX5_mayBe_184 (by decide) ?_
              refine lv_goto (tgt := 201) hx hb dX5_mayBe_185 (by decide) ?_
              subst hQ
              exact rtz hx hb hr hlocks rfl rfl (bP_0 (by unfold mayM; omega)) dX5_mayBe_201
            · have c177_50 : ¬ (2 ≤ f 13) := fun h9 => c177_50 ((nI_leI (a := 2) (b := f 13) (by omega) (by omega)).mpr h9)
              refine lv_iconst (v := nI 1) hx hb dX5_mayBe_180 (by decide) ?_
              refine lv_goto (tgt := 201) hx hb dX5_mayBe_181 (by decide) ?_
              subst hQ
              exact rtz hx hb hr hlocks rfl rfl (bP_1 (by unfold mayM; omega)) dX5_mayBe_201
          · have c137_48 : ¬ (kk = 1) := fun h9 => c137_48 ((nI_eqG (a := kk) (b := 1) (by omega) (by omega)).mpr h9)
            refine lv_iload_n hx hb dX5_mayBe_140 rfl (lv_at hl 4 rfl) ?_
            refine lv_iconst (v := nI 2) hx hb dX5_mayBe_141 (by decide) ?_
            refine lv_icmp_ne (tgt := 150) hx hb dX5_mayBe_142 (by decide) (fun c142_51 => ?_) (fun c142_51 => ?_)
            · have c142_51 : ¬ (so = 2) := fun h9 => c142_51 ((nI_eqG (a := so) (b := 2) (by omega) (by omega)).mpr h9)
              refine lv_iload_n hx hb dX5_mayBe_150 rfl (lv_at hl 4 rfl) ?_
              refine lv_iconst (v := nI 3) hx hb dX5_mayBe_151 (by decide) ?_
              refine lv_icmp_ne (tgt := 164) hx hb dX5_mayBe_152 (by decide) (fun c152_52 => ?_) (fun c152_52 => ?_)
              · have c152_52 : ¬ (so = 3) := fun h9 => c152_52 ((nI_eqG (a := so) (b := 3) (by omega) (by omega)).mpr h9)
                refine lv_iconst (v := nI 0) hx hb dX5_mayBe_164 (by decide) ?_
                refine lv_istore (lv' := [(6, .int (nI 0)), (5, .int (bP ((2 * h) ≤ (f 13) ∧ (f 13) ≤ (1 + (2 * h))))), (4, .int (bP ((2 - (2 * h)) ≤ (f 13) ∧ (f 13) ≤ (3 - (2 * h))))), (0, .ref (ad 0)), (1, .int (nI h)), (2, .int (nI so)), (3, .int (nI kk))]) hx hb dX5_mayBe_165 hl (by decide) rfl (fun ls hl => ?_)
                refine lv_iload hx hb dX5_mayBe_167 (lv_at hl 0 rfl) ?_
                refine lv_if_eq (tgt := 188) hx hb dX5_mayBe_169 (by decide) (fun c169_53 => ?_) (fun c169_53 => absurd (by decide) c169_53)
                refine lv_aload_n hx hb dX5_mayBe_188 rfl (lv_at hl 3 rfl) ?_
                refine va_get (D := D) (ci := 5) (v := .int (nI (f 13))) (C := RX5) (T := TX5) (N := 23) hx hb hU iX5 hown hK hP 0 rfl rfl 13 (by decide) (hU _ mU_255) (fun _ h9 => h9) rfl dX5_mayBe_189 ?_
                refine lv_iconst (v := nI 4) hx hb dX5_mayBe_192 (by decide) ?_
                refine lv_icmp_ge (tgt := 200) hx hb dX5_mayBe_193 (by decide) (fun c193_54 => ?_) (fun c193_54 => ?_)
                · have c193_54 : 4 ≤ f 13 := (nI_leI (a := 4) (b := f 13) (by omega) (by omega)).mp c193_54
                  refine lv_iconst (v := nI 0) hx hb dX5_mayBe_200 (by decide) ?_
                  subst hQ
                  exact rtz hx hb hr hlocks rfl rfl (bP_0 (by unfold mayM; omega)) dX5_mayBe_201
                · have c193_54 : ¬ (4 ≤ f 13) := fun h9 => c193_54 ((nI_leI (a := 4) (b := f 13) (by omega) (by omega)).mpr h9)
                  refine lv_iconst (v := nI 1) hx hb dX5_mayBe_196 (by decide) ?_
                  refine lv_goto (tgt := 201) hx hb dX5_mayBe_197 (by decide) ?_
                  subst hQ
                  exact rtz hx hb hr hlocks rfl rfl (bP_1 (by unfold mayM; omega)) dX5_mayBe_201
              · have c152_52 : so = 3 := (nI_eqG (a := so) (b := 3) (by omega) (by omega)).mp c152_52
                refine lv_iload_n hx hb dX5_mayBe_155 rfl (lv_at hl 5 rfl) ?_
                refine lv_iconst (v := nI 2) hx hb dX5_mayBe_156 (by decide) ?_
                refine lv_icmp_ne (tgt := 164) hx hb dX5_mayBe_157 (by decide) (fun c157_55 => ?_) (fun c157_55 => ?_)
                · have c157_55 : ¬ (kk = 2) := fun h9 => c157_55 ((nI_eqG (a := kk) (b := 2) (by omega) (by omega)).mpr h9)
                  refine lv_iconst (v := nI 0) hx hb dX5_mayBe_164 (by decide) ?_
                  refine lv_istore (lv' := [(6, .int (nI 0)), (5, .int (bP ((2 * h) ≤ (f 13) ∧ (f 13) ≤ (1 + (2 * h))))), (4, .int (bP ((2 - (2 * h)) ≤ (f 13) ∧ (f 13) ≤ (3 - (2 * h))))), (0, .ref (ad 0)), (1, .int (nI h)), (2, .int (nI so)), (3, .int (nI kk))]) hx hb dX5_mayBe_165 hl (by decide) rfl (fun ls hl => ?_)
                  refine lv_iload hx hb dX5_mayBe_167 (lv_at hl 0 rfl) ?_
                  refine lv_if_eq (tgt := 188) hx hb dX5_mayBe_169 (by decide) (fun c169_56 => ?_) (fun c169_56 => absurd (by decide) c169_56)
                  refine lv_aload_n hx hb dX5_mayBe_188 rfl (lv_at hl 3 rfl) ?_
                  refine va_get (D := D) (ci := 5) (v := .int (nI (f 13))) (C := RX5) (T := TX5) (N := 23) hx hb hU iX5 hown hK hP 0 rfl rfl 13 (by decide) (hU _ mU_255) (fun _ h9 => h9) rfl dX5_mayBe_189 ?_
                  refine lv_iconst (v := nI 4) hx hb dX5_mayBe_192 (by decide) ?_
                  refine lv_icmp_ge (tgt := 200) hx hb dX5_mayBe_193 (by decide) (fun c193_57 => ?_) (fun c193_57 => ?_)
                  · have c193_57 : 4 ≤ f 13 := (nI_leI (a := 4) (b := f 13) (by omega) (by omega)).mp c193_57
                    refine lv_iconst (v := nI 0) hx hb dX5_mayBe_200 (by decide) ?_
                    subst hQ
                    exact rtz hx hb hr hlocks rfl rfl (bP_0 (by unfold mayM; omega)) dX5_mayBe_201
                  · have c193_57 : ¬ (4 ≤ f 13) := fun h9 => c193_57 ((nI_leI (a := 4) (b := f 13) (by omega) (by omega)).mpr h9)
                    refine lv_iconst (v := nI 1) hx hb dX5_mayBe_196 (by decide) ?_
                    refine lv_goto (tgt := 201) hx hb dX5_mayBe_197 (by decide) ?_
                    subst hQ
                    exact rtz hx hb hr hlocks rfl rfl (bP_1 (by unfold mayM; omega)) dX5_mayBe_201
                · have c157_55 : kk = 2 := (nI_eqG (a := kk) (b := 2) (by omega) (by omega)).mp c157_55
                  refine lv_iconst (v := nI 1) hx hb dX5_mayBe_160 (by decide) ?_
                  refine lv_goto (tgt := 165) hx hb dX5_mayBe_161 (by decide) ?_
                  refine lv_istore (lv' := [(6, .int (nI 1)), (5, .int (bP ((2 * h) ≤ (f 13) ∧ (f 13) ≤ (1 + (2 * h))))), (4, .int (bP ((2 - (2 * h)) ≤ (f 13) ∧ (f 13) ≤ (3 - (2 * h))))), (0, .ref (ad 0)), (1, .int (nI h)), (2, .int (nI so)), (3, .int (nI kk))]) hx hb dX5_mayBe_165 hl (by decide) rfl (fun ls hl => ?_)
                  refine lv_iload hx hb dX5_mayBe_167 (lv_at hl 0 rfl) ?_
                  refine lv_if_eq (tgt := 188) hx hb dX5_mayBe_169 (by decide) (fun c169_58 => absurd c169_58 (by decide)) (fun c169_58 => ?_)
                  refine lv_aload_n hx hb dX5_mayBe_172 rfl (lv_at hl 3 rfl) ?_
                  refine va_get (D := D) (ci := 5) (v := .int (nI (f 13))) (C := RX5) (T := TX5) (N := 23) hx hb hU iX5 hown hK hP 0 rfl rfl 13 (by decide) (hU _ mU_255) (fun _ h9 => h9) rfl dX5_mayBe_173 ?_
                  refine lv_iconst (v := nI 2) hx hb dX5_mayBe_176 (by decide) ?_
                  refine lv_icmp_ge (tgt := 184) hx hb dX5_mayBe_177 (by decide) (fun c177_59 => ?_) (fun c177_59 => ?_)
                  · have c177_59 : 2 ≤ f 13 := (nI_leI (a := 2) (b := f 13) (by omega) (by omega)).mp c177_59
                    refine lv_iconst (v := nI 0) hx hb dX5_mayBe_184 (by decide) ?_
                    refine lv_goto (tgt := 201) hx hb dX5_mayBe_185 (by decide) ?_
                    subst hQ
                    exact rtz hx hb hr hlocks rfl rfl (bP_0 (by unfold mayM; omega)) dX5_mayBe_201
                  · have c177_59 : ¬ (2 ≤ f 13) := fun h9 => c177_59 ((nI_leI (a := 2) (b := f 13) (by omega) (by omega)).mpr h9)
                    refine lv_iconst (v := nI 1) hx hb dX5_mayBe_180 (by decide) ?_
                    refine lv_goto (tgt := 201) hx hb dX5_mayBe_181 (by decide) ?_
                    subst hQ
                    exact rtz hx hb hr hlocks rfl rfl (bP_1 (by unfold mayM; omega)) dX5_mayBe_201
            · have c142_51 : so = 2 := (nI_eqG (a := so) (b := 2) (by omega) (by omega)).mp c142_51
              refine lv_iload_n hx hb dX5_mayBe_145 rfl (lv_at hl 5 rfl) ?_
              refine lv_iconst (v := nI 3) hx hb dX5_mayBe_146 (by decide) ?_
              refine lv_icmp_eq (tgt := 160) hx hb dX5_mayBe_147 (by decide) (fun c147_60 => ?_) (fun c147_60 => ?_)
              · have c147_60 : kk = 3 := (nI_eqG (a := kk) (b := 3) (by omega) (by omega)).mp c147_60
                refine lv_iconst (v := nI 1) hx hb dX5_mayBe_160 (by decide) ?_
                refine lv_goto (tgt := 165) hx hb dX5_mayBe_161 (by decide) ?_
                refine lv_istore (lv' := [(6, .int (nI 1)), (5, .int (bP ((2 * h) ≤ (f 13) ∧ (f 13) ≤ (1 + (2 * h))))), (4, .int (bP ((2 - (2 * h)) ≤ (f 13) ∧ (f 13) ≤ (3 - (2 * h))))), (0, .ref (ad 0)), (1, .int (nI h)), (2, .int (nI so)), (3, .int (nI kk))]) hx hb dX5_mayBe_165 hl (by decide) rfl (fun ls hl => ?_)
                refine lv_iload hx hb dX5_mayBe_167 (lv_at hl 0 rfl) ?_
                refine lv_if_eq (tgt := 188) hx hb dX5_mayBe_169 (by decide) (fun c169_61 => absurd c169_61 (by decide)) (fun c169_61 => ?_)
                refine lv_aload_n hx hb dX5_mayBe_172 rfl (lv_at hl 3 rfl) ?_
                refine va_get (D := D) (ci := 5) (v := .int (nI (f 13))) (C := RX5) (T := TX5) (N := 23) hx hb hU iX5 hown hK hP 0 rfl rfl 13 (by decide) (hU _ mU_255) (fun _ h9 => h9) rfl dX5_mayBe_173 ?_
                refine lv_iconst (v := nI 2) hx hb dX5_mayBe_176 (by decide) ?_
                refine lv_icmp_ge (tgt := 184) hx hb dX5_mayBe_177 (by decide) (fun c177_62 => ?_) (fun c177_62 => ?_)
                · have c177_62 : 2 ≤ f 13 := (nI_leI (a := 2) (b := f 13) (by omega) (by omega)).mp c177_62
                  refine lv_iconst (v := nI 0) hx hb dX5_mayBe_184 (by decide) ?_
                  refine lv_goto (tgt := 201) hx hb dX5_mayBe_185 (by decide) ?_
                  subst hQ
                  exact rtz hx hb hr hlocks rfl rfl (bP_0 (by unfold mayM; omega)) dX5_mayBe_201
                · have c177_62 : ¬ (2 ≤ f 13) := fun h9 => c177_62 ((nI_leI (a := 2) (b := f 13) (by omega) (by omega)).mpr h9)
                  refine lv_iconst (v := nI 1) hx hb dX5_mayBe_180 (by decide) ?_
                  refine lv_goto (tgt := 201) hx hb dX5_mayBe_181 (by decide) ?_
                  subst hQ
                  exact rtz hx hb hr hlocks rfl rfl (bP_1 (by unfold mayM; omega)) dX5_mayBe_201
              · have c147_60 : ¬ (kk = 3) := fun h9 => c147_60 ((nI_eqG (a := kk) (b := 3) (by omega) (by omega)).mpr h9)
                refine lv_iload_n hx hb dX5_mayBe_150 rfl (lv_at hl 4 rfl) ?_
                refine lv_iconst (v := nI 3) hx hb dX5_mayBe_151 (by decide) ?_
                refine lv_icmp_ne (tgt := 164) hx hb dX5_mayBe_152 (by decide) (fun c152_63 => ?_) (fun c152_63 => ?_)
                · have c152_63 : ¬ (so = 3) := fun h9 => c152_63 ((nI_eqG (a := so) (b := 3) (by omega) (by omega)).mpr h9)
                  refine lv_iconst (v := nI 0) hx hb dX5_mayBe_164 (by decide) ?_
                  refine lv_istore (lv' := [(6, .int (nI 0)), (5, .int (bP ((2 * h) ≤ (f 13) ∧ (f 13) ≤ (1 + (2 * h))))), (4, .int (bP ((2 - (2 * h)) ≤ (f 13) ∧ (f 13) ≤ (3 - (2 * h))))), (0, .ref (ad 0)), (1, .int (nI h)), (2, .int (nI so)), (3, .int (nI kk))]) hx hb dX5_mayBe_165 hl (by decide) rfl (fun ls hl => ?_)
                  refine lv_iload hx hb dX5_mayBe_167 (lv_at hl 0 rfl) ?_
                  refine lv_if_eq (tgt := 188) hx hb dX5_mayBe_169 (by decide) (fun c169_64 => ?_) (fun c169_64 => absurd (by decide) c169_64)
                  refine lv_aload_n hx hb dX5_mayBe_188 rfl (lv_at hl 3 rfl) ?_
                  refine va_get (D := D) (ci := 5) (v := .int (nI (f 13))) (C := RX5) (T := TX5) (N := 23) hx hb hU iX5 hown hK hP 0 rfl rfl 13 (by decide) (hU _ mU_255) (fun _ h9 => h9) rfl dX5_mayBe_189 ?_
                  refine lv_iconst (v := nI 4) hx hb dX5_mayBe_192 (by decide) ?_
                  refine lv_icmp_ge (tgt := 200) hx hb dX5_mayBe_193 (by decide) (fun c193_65 => ?_) (fun c193_65 => ?_)
                  · have c193_65 : 4 ≤ f 13 := (nI_leI (a := 4) (b := f 13) (by omega) (by omega)).mp c193_65
                    refine lv_iconst (v := nI 0) hx hb dX5_mayBe_200 (by decide) ?_
                    subst hQ
                    exact rtz hx hb hr hlocks rfl rfl (bP_0 (by unfold mayM; omega)) dX5_mayBe_201
                  · have c193_65 : ¬ (4 ≤ f 13) := fun h9 => c193_65 ((nI_leI (a := 4) (b := f 13) (by omega) (by omega)).mpr h9)
                    refine lv_iconst (v := nI 1) hx hb dX5_mayBe_196 (by decide) ?_
                    refine lv_goto (tgt := 201) hx hb dX5_mayBe_197 (by decide) ?_
                    subst hQ
                    exact rtz hx hb hr hlocks rfl rfl (bP_1 (by unfold mayM; omega)) dX5_mayBe_201
                · have c152_63 : so = 3 := (nI_eqG (a := so) (b := 3) (by omega) (by omega)).mp c152_63
                  refine lv_iload_n hx hb dX5_mayBe_155 rfl (lv_at hl 5 rfl) ?_
                  refine lv_iconst (v := nI 2) hx hb dX5_mayBe_156 (by decide) ?_
                  refine lv_icmp_ne (tgt := 164) hx hb dX5_mayBe_157 (by decide) (fun c157_66 => ?_) (fun c157_66 => ?_)
                  · have c157_66 : ¬ (kk = 2) := fun h9 => c157_66 ((nI_eqG (a := kk) (b := 2) (by omega) (by omega)).mpr h9)
                    refine lv_iconst (v := nI 0) hx hb dX5_mayBe_164 (by decide) ?_
                    refine lv_istore (lv' := [(6, .int (nI 0)), (5, .int (bP ((2 * h) ≤ (f 13) ∧ (f 13) ≤ (1 + (2 * h))))), (4, .int (bP ((2 - (2 * h)) ≤ (f 13) ∧ (f 13) ≤ (3 - (2 * h))))), (0, .ref (ad 0)), (1, .int (nI h)), (2, .int (nI so)), (3, .int (nI kk))]) hx hb dX5_mayBe_165 hl (by decide) rfl (fun ls hl => ?_)
                    refine lv_iload hx hb dX5_mayBe_167 (lv_at hl 0 rfl) ?_
                    refine lv_if_eq (tgt := 188) hx hb dX5_mayBe_169 (by decide) (fun c169_67 => ?_) (fun c169_67 => absurd (by decide) c169_67)
                    refine lv_aload_n hx hb dX5_mayBe_188 rfl (lv_at hl 3 rfl) ?_
                    refine va_get (D := D) (ci := 5) (v := .int (nI (f 13))) (C := RX5) (T := TX5) (N := 23) hx hb hU iX5 hown hK hP 0 rfl rfl 13 (by decide) (hU _ mU_255) (fun _ h9 => h9) rfl dX5_mayBe_189 ?_
                    refine lv_iconst (v := nI 4) hx hb dX5_mayBe_192 (by decide) ?_
                    refine lv_icmp_ge (tgt := 200) hx hb dX5_mayBe_193 (by decide) (fun c193_68 => ?_) (fun c193_68 => ?_)
                    · have c193_68 : 4 ≤ f 13 := (nI_leI (a := 4) (b := f 13) (by omega) (by omega)).mp c193_68
                      refine lv_iconst (v := nI 0) hx hb dX5_mayBe_200 (by decide) ?_
                      subst hQ
                      exact rtz hx hb hr hlocks rfl rfl (bP_0 (by unfold mayM; omega)) dX5_mayBe_201
                    · have c193_68 : ¬ (4 ≤ f 13) := fun h9 => c193_68 ((nI_leI (a := 4) (b := f 13) (by omega) (by omega)).mpr h9)
                      refine lv_iconst (v := nI 1) hx hb dX5_mayBe_196 (by decide) ?_
                      refine lv_goto (tgt := 201) hx hb dX5_mayBe_197 (by decide) ?_
                      subst hQ
                      exact rtz hx hb hr hlocks rfl rfl (bP_1 (by unfold mayM; omega)) dX5_mayBe_201
                  · have c157_66 : kk = 2 := (nI_eqG (a := kk) (b := 2) (by omega) (by omega)).mp c157_66
                    refine lv_iconst (v := nI 1) hx hb dX5_mayBe_160 (by decide) ?_
                    refine lv_goto (tgt := 165) hx hb dX5_mayBe_161 (by decide) ?_
                    refine lv_istore (lv' := [(6, .int (nI 1)), (5, .int (bP ((2 * h) ≤ (f 13) ∧ (f 13) ≤ (1 + (2 * h))))), (4, .int (bP ((2 - (2 * h)) ≤ (f 13) ∧ (f 13) ≤ (3 - (2 * h))))), (0, .ref (ad 0)), (1, .int (nI h)), (2, .int (nI so)), (3, .int (nI kk))]) hx hb dX5_mayBe_165 hl (by decide) rfl (fun ls hl => ?_)
                    refine lv_iload hx hb dX5_mayBe_167 (lv_at hl 0 rfl) ?_
                    refine lv_if_eq (tgt := 188) hx hb dX5_mayBe_169 (by decide) (fun c169_69 => absurd c169_69 (by decide)) (fun c169_69 => ?_)
                    refine lv_aload_n hx hb dX5_mayBe_172 rfl (lv_at hl 3 rfl) ?_
                    refine va_get (D := D) (ci := 5) (v := .int (nI (f 13))) (C := RX5) (T := TX5) (N := 23) hx hb hU iX5 hown hK hP 0 rfl rfl 13 (by decide) (hU _ mU_255) (fun _ h9 => h9) rfl dX5_mayBe_173 ?_
                    refine lv_iconst (v := nI 2) hx hb dX5_mayBe_176 (by decide) ?_
                    refine lv_icmp_ge (tgt := 184) hx hb dX5_mayBe_177 (by decide) (fun c177_70 => ?_) (fun c177_70 => ?_)
                    · have c177_70 : 2 ≤ f 13 := (nI_leI (a := 2) (b := f 13) (by omega) (by omega)).mp c177_70
                      refine lv_iconst (v := nI 0) hx hb dX5_mayBe_184 (by decide) ?_
                      refine lv_goto (tgt := 201) hx hb dX5_mayBe_185 (by decide) ?_
                      subst hQ
                      exact rtz hx hb hr hlocks rfl rfl (bP_0 (by unfold mayM; omega)) dX5_mayBe_201
                    · have c177_70 : ¬ (2 ≤ f 13) := fun h9 => c177_70 ((nI_leI (a := 2) (b := f 13) (by omega) (by omega)).mpr h9)
                      refine lv_iconst (v := nI 1) hx hb dX5_mayBe_180 (by decide) ?_
                      refine lv_goto (tgt := 201) hx hb dX5_mayBe_181 (by decide) ?_
                      subst hQ
                      exact rtz hx hb hr hlocks rfl rfl (bP_1 (by unfold mayM; omega)) dX5_mayBe_201
    · have c69_2 : so = 8 := (nI_eqG (a := so) (b := 8) (by omega) (by omega)).mp c69_2
      refine lv_iload_n hx hb dX5_mayBe_72 rfl (lv_at hl 5 rfl) ?_
      refine lv_if_ne (tgt := 92) hx hb dX5_mayBe_73 (by decide) (fun c73_71 => ?_) (fun c73_71 => ?_)
      · have c73_71 : ¬ (kk = 0) := fun h9 => c73_71 ((nI_eqG (a := kk) (b := 0) (by omega) (by omega)).mpr h9)
        refine lv_iload_n hx hb dX5_mayBe_92 rfl (lv_at hl 5 rfl) ?_
        refine lv_iconst (v := nI 1) hx hb dX5_mayBe_93 (by decide) ?_
        refine lv_icmp_ne (tgt := 113) hx hb dX5_mayBe_94 (by decide) (fun c94_72 => ?_) (fun c94_72 => ?_)
        · have c94_72 : ¬ (kk = 1) := fun h9 => c94_72 ((nI_eqG (a := kk) (b := 1) (by omega) (by omega)).mpr h9)
          refine lv_aload_n hx hb dX5_mayBe_113 rfl (lv_at hl 2 rfl) ?_
          refine va_get (D := D) (ci := 5) (v := .int (nI (f 13))) (C := RX5) (T := TX5) (N := 23) hx hb hU iX5 hown hK hP 0 rfl rfl 13 (by decide) (hU _ mU_255) (fun _ h9 => h9) rfl dX5_mayBe_114 ?_
          refine lv_iconst (v := nI 1) hx hb dX5_mayBe_117 (by decide) ?_
          refine lv_bipush (v := nI 7) hx hb dX5_mayBe_118 (by decide) ?_
          refine cSi (As := [.int (nI (f 13)), .int (nI 1), .int (nI 7)]) (rest := []) ⟨hx, hb, hml, hown, hts⟩ (c_X5_isIn l  (f 13) 1 7 (by omega) (by omega) (by omega)) (va_cwS 3 hts (gS mU_116 mU_117 mU_6 mU_118) rfl rfl rfl (by decide +kernel) ⟨Nat.le_of_ble_eq_true rfl, Nat.le_of_ble_eq_true rfl⟩) fbU (fun _ _ _ => trivial) rfl hl.1 rfl (Nat.le_of_ble_eq_true rfl) dX5_mayBe_120 ⟨Nat.zero_le _, Nat.zero_le _⟩ ?_
          subst hQ
          exact rtz hx hb hr hlocks rfl bP_nar (bP_c (by unfold mayM; omega)) dX5_mayBe_123
        · have c94_72 : kk = 1 := (nI_eqG (a := kk) (b := 1) (by omega) (by omega)).mp c94_72
          refine lv_aload_n hx hb dX5_mayBe_97 rfl (lv_at hl 2 rfl) ?_
          refine va_get (D := D) (ci := 5) (v := .int (nI (f 13))) (C := RX5) (T := TX5) (N := 23) hx hb hU iX5 hown hK hP 0 rfl rfl 13 (by decide) (hU _ mU_255) (fun _ h9 => h9) rfl dX5_mayBe_98 ?_
          refine lv_iconst (v := nI 4) hx hb dX5_mayBe_101 (by decide) ?_
          refine lv_icmp_ge (tgt := 109) hx hb dX5_mayBe_102 (by decide) (fun c102_73 => ?_) (fun c102_73 => ?_)
          · have c102_73 : 4 ≤ f 13 := (nI_leI (a := 4) (b := f 13) (by omega) (by omega)).mp c102_73
            refine lv_iconst (v := nI 0) hx hb dX5_mayBe_109 (by decide) ?_
            refine lv_goto (tgt := 123) hx hb dX5_mayBe_110 (by decide) ?_
            subst hQ
            exact rtz hx hb hr hlocks rfl rfl (bP_0 (by unfold mayM; omega)) dX5_mayBe_123
          · have c102_73 : ¬ (4 ≤ f 13) := fun h9 => c102_73 ((nI_leI (a := 4) (b := f 13) (by omega) (by omega)).mpr h9)
            refine lv_iconst (v := nI 1) hx hb dX5_mayBe_105 (by decide) ?_
            refine lv_goto (tgt := 123) hx hb dX5_mayBe_106 (by decide) ?_
            subst hQ
            exact rtz hx hb hr hlocks rfl rfl (bP_1 (by unfold mayM; omega)) dX5_mayBe_123
      · have c73_71 : kk = 0 := (nI_eqG (a := kk) (b := 0) (by omega) (by omega)).mp c73_71
        refine lv_aload_n hx hb dX5_mayBe_76 rfl (lv_at hl 2 rfl) ?_
        refine va_get (D := D) (ci := 5) (v := .int (nI (f 13))) (C := RX5) (T := TX5) (N := 23) hx hb hU iX5 hown hK hP 0 rfl rfl 13 (by decide) (hU _ mU_255) (fun _ h9 => h9) rfl dX5_mayBe_77 ?_
        refine lv_iconst (v := nI 2) hx hb dX5_mayBe_80 (by decide) ?_
        refine lv_icmp_ge (tgt := 88) hx hb dX5_mayBe_81 (by decide) (fun c81_74 => ?_) (fun c81_74 => ?_)
        · have c81_74 : 2 ≤ f 13 := (nI_leI (a := 2) (b := f 13) (by omega) (by omega)).mp c81_74
          refine lv_iconst (v := nI 0) hx hb dX5_mayBe_88 (by decide) ?_
          refine lv_goto (tgt := 123) hx hb dX5_mayBe_89 (by decide) ?_
          subst hQ
          exact rtz hx hb hr hlocks rfl rfl (bP_0 (by unfold mayM; omega)) dX5_mayBe_123
        · have c81_74 : ¬ (2 ≤ f 13) := fun h9 => c81_74 ((nI_leI (a := 2) (b := f 13) (by omega) (by omega)).mpr h9)
          refine lv_iconst (v := nI 1) hx hb dX5_mayBe_84 (by decide) ?_
          refine lv_goto (tgt := 123) hx hb dX5_mayBe_85 (by decide) ?_
          subst hQ
          exact rtz hx hb hr hlocks rfl rfl (bP_1 (by unfold mayM; omega)) dX5_mayBe_123
  · have c37_1 : kk = 0 := (nI_eqG (a := kk) (b := 0) (by omega) (by omega)).mp c37_1
    refine lv_iload_n hx hb dX5_mayBe_40 rfl (lv_at hl 4 rfl) ?_
    refine lv_bipush (v := nI 8) hx hb dX5_mayBe_41 (by decide) ?_
    refine lv_icmp_eq (tgt := 66) hx hb dX5_mayBe_43 (by decide) (fun c43_75 => ?_) (fun c43_75 => ?_)
    · have c43_75 : so = 8 := (nI_eqG (a := so) (b := 8) (by omega) (by omega)).mp c43_75
      refine lv_iload_n hx hb dX5_mayBe_66 rfl (lv_at hl 4 rfl) ?_
      refine lv_bipush (v := nI 8) hx hb dX5_mayBe_67 (by decide) ?_
      refine lv_icmp_ne (tgt := 124) hx hb dX5_mayBe_69 (by decide) (fun c69_76 => ?_) (fun c69_76 => ?_)
      · have c69_76 : ¬ (so = 8) := fun h9 => c69_76 ((nI_eqG (a := so) (b := 8) (by omega) (by omega)).mpr h9)
        refine lv_iload_n hx hb dX5_mayBe_124 rfl (lv_at hl 4 rfl) ?_
        refine lv_iconst (v := nI 1) hx hb dX5_mayBe_125 (by decide) ?_
        refine lv_icmp_eq (tgt := 135) hx hb dX5_mayBe_126 (by decide) (fun c126_77 => ?_) (fun c126_77 => ?_)
        · have c126_77 : so = 1 := (nI_eqG (a := so) (b := 1) (by omega) (by omega)).mp c126_77
          refine lv_iload_n hx hb dX5_mayBe_135 rfl (lv_at hl 5 rfl) ?_
          refine lv_iconst (v := nI 1) hx hb dX5_mayBe_136 (by decide) ?_
          refine lv_icmp_eq (tgt := 160) hx hb dX5_mayBe_137 (by decide) (fun c137_78 => ?_) (fun c137_78 => ?_)
          · have c137_78 : kk = 1 := (nI_eqG (a := kk) (b := 1) (by omega) (by omega)).mp c137_78
            refine lv_iconst (v := nI 1) hx hb dX5_mayBe_160 (by decide) ?_
            refine lv_goto (tgt := 165) hx hb dX5_mayBe_161 (by decide) ?_
            refine lv_istore (lv' := [(6, .int (nI 1)), (5, .int (bP ((2 * h) ≤ (f 13) ∧ (f 13) ≤ (1 + (2 * h))))), (4, .int (bP ((2 - (2 * h)) ≤ (f 13) ∧ (f 13) ≤ (3 - (2 * h))))), (0, .ref (ad 0)), (1, .int (nI h)), (2, .int (nI so)), (3, .int (nI kk))]) hx hb dX5_mayBe_165 hl (by decide) rfl (fun ls hl => ?_)
            refine lv_iload hx hb dX5_mayBe_167 (lv_at hl 0 rfl) ?_
            refine lv_if_eq (tgt := 188) hx hb dX5_mayBe_169 (by decide) (fun c169_79 => absurd c169_79 (by decide)) (fun c169_79 => ?_)
            refine lv_aload_n hx hb dX5_mayBe_172 rfl (lv_at hl 3 rfl) ?_
            refine va_get (D := D) (ci := 5) (v := .int (nI (f 13))) (C := RX5) (T := TX5) (N := 23) hx hb hU iX5 hown hK hP 0 rfl rfl 13 (by decide) (hU _ mU_255) (fun _ h9 => h9) rfl dX5_mayBe_173 ?_
            refine lv_iconst (v := nI 2) hx hb dX5_mayBe_176 (by decide) ?_
            refine lv_icmp_ge (tgt := 184) hx hb dX5_mayBe_177 (by decide) (fun c177_80 => ?_) (fun c177_80 => ?_)
            · have c177_80 : 2 ≤ f 13 := (nI_leI (a := 2) (b := f 13) (by omega) (by omega)).mp c177_80
              refine lv_iconst (v := nI 0) hx hb dX5_mayBe_184 (by decide) ?_
              refine lv_goto (tgt := 201) hx hb dX5_mayBe_185 (by decide) ?_
              subst hQ
              exact rtz hx hb hr hlocks rfl rfl (bP_0 (by unfold mayM; omega)) dX5_mayBe_201
            · have c177_80 : ¬ (2 ≤ f 13) := fun h9 => c177_80 ((nI_leI (a := 2) (b := f 13) (by omega) (by omega)).mpr h9)
              refine lv_iconst (v := nI 1) hx hb dX5_mayBe_180 (by decide) ?_
              refine lv_goto (tgt := 201) hx hb dX5_mayBe_181 (by decide) ?_
              subst hQ
              exact rtz hx hb hr hlocks rfl rfl (bP_1 (by unfold mayM; omega)) dX5_mayBe_201
          · have c137_78 : ¬ (kk = 1) := fun h9 => c137_78 ((nI_eqG (a := kk) (b := 1) (by omega) (by omega)).mpr h9)
            refine lv_iload_n hx hb dX5_mayBe_140 rfl (lv_at hl 4 rfl) ?_
            refine lv_iconst (v := nI 2) hx hb dX5_mayBe_141 (by decide) ?_
            refine lv_icmp_ne (tgt := 150) hx hb dX5_mayBe_142 (by decide) (fun c142_81 => ?_) (fun c142_81 => ?_)
            · have c142_81 : ¬ (so = 2) := fun h9 => c142_81 ((nI_eqG (a := so) (b := 2) (by omega) (by omega)).mpr h9)
              refine lv_iload_n hx hb dX5_mayBe_150 rfl (lv_at hl 4 rfl) ?_
              refine lv_iconst (v := nI 3) hx hb dX5_mayBe_151 (by decide) ?_
              refine lv_icmp_ne (tgt := 164) hx hb dX5_mayBe_152 (by decide) (fun c152_82 => ?_) (fun c152_82 => ?_)
              · have c152_82 : ¬ (so = 3) := fun h9 => c152_82 ((nI_eqG (a := so) (b := 3) (by omega) (by omega)).mpr h9)
                refine lv_iconst (v := nI 0) hx hb dX5_mayBe_164 (by decide) ?_
                refine lv_istore (lv' := [(6, .int (nI 0)), (5, .int (bP ((2 * h) ≤ (f 13) ∧ (f 13) ≤ (1 + (2 * h))))), (4, .int (bP ((2 - (2 * h)) ≤ (f 13) ∧ (f 13) ≤ (3 - (2 * h))))), (0, .ref (ad 0)), (1, .int (nI h)), (2, .int (nI so)), (3, .int (nI kk))]) hx hb dX5_mayBe_165 hl (by decide) rfl (fun ls hl => ?_)
                refine lv_iload hx hb dX5_mayBe_167 (lv_at hl 0 rfl) ?_
                refine lv_if_eq (tgt := 188) hx hb dX5_mayBe_169 (by decide) (fun c169_83 => ?_) (fun c169_83 => absurd (by decide) c169_83)
                refine lv_aload_n hx hb dX5_mayBe_188 rfl (lv_at hl 3 rfl) ?_
                refine va_get (D := D) (ci := 5) (v := .int (nI (f 13))) (C := RX5) (T := TX5) (N := 23) hx hb hU iX5 hown hK hP 0 rfl rfl 13 (by decide) (hU _ mU_255) (fun _ h9 => h9) rfl dX5_mayBe_189 ?_
                refine lv_iconst (v := nI 4) hx hb dX5_mayBe_192 (by decide) ?_
                refine lv_icmp_ge (tgt := 200) hx hb dX5_mayBe_193 (by decide) (fun c193_84 => ?_) (fun c193_84 => ?_)
                · have c193_84 : 4 ≤ f 13 := (nI_leI (a := 4) (b := f 13) (by omega) (by omega)).mp c193_84
                  refine lv_iconst (v := nI 0) hx hb dX5_mayBe_200 (by decide) ?_
                  subst hQ
                  exact rtz hx hb hr hlocks rfl rfl (bP_0 (by unfold mayM; omega)) dX5_mayBe_201
                · have c193_84 : ¬ (4 ≤ f 13) := fun h9 => c193_84 ((nI_leI (a := 4) (b := f 13) (by omega) (by omega)).mpr h9)
                  refine lv_iconst (v := nI 1) hx hb dX5_mayBe_196 (by decide) ?_
                  refine lv_goto (tgt := 201) hx hb dX5_mayBe_197 (by decide) ?_
                  subst hQ
                  exact rtz hx hb hr hlocks rfl rfl (bP_1 (by unfold mayM; omega)) dX5_mayBe_201
              · have c152_82 : so = 3 := (nI_eqG (a := so) (b := 3) (by omega) (by omega)).mp c152_82
                refine lv_iload_n hx hb dX5_mayBe_155 rfl (lv_at hl 5 rfl) ?_
                refine lv_iconst (v := nI 2) hx hb dX5_mayBe_156 (by decide) ?_
                refine lv_icmp_ne (tgt := 164) hx hb dX5_mayBe_157 (by decide) (fun c157_85 => ?_) (fun c157_85 => ?_)
                · have c157_85 : ¬ (kk = 2) := fun h9 => c157_85 ((nI_eqG (a := kk) (b := 2) (by omega) (by omega)).mpr h9)
                  refine lv_iconst (v := nI 0) hx hb dX5_mayBe_164 (by decide) ?_
                  refine lv_istore (lv' := [(6, .int (nI 0)), (5, .int (bP ((2 * h) ≤ (f 13) ∧ (f 13) ≤ (1 + (2 * h))))), (4, .int (bP ((2 - (2 * h)) ≤ (f 13) ∧ (f 13) ≤ (3 - (2 * h))))), (0, .ref (ad 0)), (1, .int (nI h)), (2, .int (nI so)), (3, .int (nI kk))]) hx hb dX5_mayBe_165 hl (by decide) rfl (fun ls hl => ?_)
                  refine lv_iload hx hb dX5_mayBe_167 (lv_at hl 0 rfl) ?_
                  refine lv_if_eq (tgt := 188) hx hb dX5_mayBe_169 (by decide) (fun c169_86 => ?_) (fun c169_86 => absurd (by decide) c169_86)
                  refine lv_aload_n hx hb dX5_mayBe_188 rfl (lv_at hl 3 rfl) ?_
                  refine va_get (D := D) (ci := 5) (v := .int (nI (f 13))) (C := RX5) (T := TX5) (N := 23) hx hb hU iX5 hown hK hP 0 rfl rfl 13 (by decide) (hU _ mU_255) (fun _ h9 => h9) rfl dX5_mayBe_189 ?_
                  refine lv_iconst (v := nI 4) hx hb dX5_mayBe_192 (by decide) ?_
                  refine lv_icmp_ge (tgt := 200) hx hb dX5_mayBe_193 (by decide) (fun c193_87 => ?_) (fun c193_87 => ?_)
                  · have c193_87 : 4 ≤ f 13 := (nI_leI (a := 4) (b := f 13) (by omega) (by omega)).mp c193_87
                    refine lv_iconst (v := nI 0) hx hb dX5_mayBe_200 (by decide) ?_
                    subst hQ
                    exact rtz hx hb hr hlocks rfl rfl (bP_0 (by unfold mayM; omega)) dX5_mayBe_201
                  · have c193_87 : ¬ (4 ≤ f 13) := fun h9 => c193_87 ((nI_leI (a := 4) (b := f 13) (by omega) (by omega)).mpr h9)
                    refine lv_iconst (v := nI 1) hx hb dX5_mayBe_196 (by decide) ?_
                    refine lv_goto (tgt := 201) hx hb dX5_mayBe_197 (by decide) ?_
                    subst hQ
                    exact rtz hx hb hr hlocks rfl rfl (bP_1 (by unfold mayM; omega)) dX5_mayBe_201
                · have c157_85 : kk = 2 := (nI_eqG (a := kk) (b := 2) (by omega) (by omega)).mp c157_85
                  refine lv_iconst (v := nI 1) hx hb dX5_mayBe_160 (by decide) ?_
                  refine lv_goto (tgt := 165) hx hb dX5_mayBe_161 (by decide) ?_
                  refine lv_istore (lv' := [(6, .int (nI 1)), (5, .int (bP ((2 * h) ≤ (f 13) ∧ (f 13) ≤ (1 + (2 * h))))), (4, .int (bP ((2 - (2 * h)) ≤ (f 13) ∧ (f 13) ≤ (3 - (2 * h))))), (0, .ref (ad 0)), (1, .int (nI h)), (2, .int (nI so)), (3, .int (nI kk))]) hx hb dX5_mayBe_165 hl (by decide) rfl (fun ls hl => ?_)
                  refine lv_iload hx hb dX5_mayBe_167 (lv_at hl 0 rfl) ?_
                  refine lv_if_eq (tgt := 188) hx hb dX5_mayBe_169 (by decide) (fun c169_88 => absurd c169_88 (by decide)) (fun c169_88 => ?_)
                  refine lv_aload_n hx hb dX5_mayBe_172 rfl (lv_at hl 3 rfl) ?_
                  refine va_get (D := D) (ci := 5) (v := .int (nI (f 13))) (C := RX5) (T := TX5) (N := 23) hx hb hU iX5 hown hK hP 0 rfl rfl 13 (by decide) (hU _ mU_255) (fun _ h9 => h9) rfl dX5_mayBe_173 ?_
                  refine lv_iconst (v := nI 2) hx hb dX5_mayBe_176 (by decide) ?_
                  refine lv_icmp_ge (tgt := 184) hx hb dX5_mayBe_177 (by decide) (fun c177_89 => ?_) (fun c177_89 => ?_)
                  · have c177_89 : 2 ≤ f 13 := (nI_leI (a := 2) (b := f 13) (by omega) (by omega)).mp c177_89
                    refine lv_iconst (v := nI 0) hx hb dX5_mayBe_184 (by decide) ?_
                    refine lv_goto (tgt := 201) hx hb dX5_mayBe_185 (by decide) ?_
                    subst hQ
                    exact rtz hx hb hr hlocks rfl rfl (bP_0 (by unfold mayM; omega)) dX5_mayBe_201
                  · have c177_89 : ¬ (2 ≤ f 13) := fun h9 => c177_89 ((nI_leI (a := 2) (b := f 13) (by omega) (by omega)).mpr h9)
                    refine lv_iconst (v := nI 1) hx hb dX5_mayBe_180 (by decide) ?_
                    refine lv_goto (tgt := 201) hx hb dX5_mayBe_181 (by decide) ?_
                    subst hQ
                    exact rtz hx hb hr hlocks rfl rfl (bP_1 (by unfold mayM; omega)) dX5_mayBe_201
            · have c142_81 : so = 2 := (nI_eqG (a := so) (b := 2) (by omega) (by omega)).mp c142_81
              refine lv_iload_n hx hb dX5_mayBe_145 rfl (lv_at hl 5 rfl) ?_
              refine lv_iconst (v := nI 3) hx hb dX5_mayBe_146 (by decide) ?_
              refine lv_icmp_eq (tgt := 160) hx hb dX5_mayBe_147 (by decide) (fun c147_90 => ?_) (fun c147_90 => ?_)
              · have c147_90 : kk = 3 := (nI_eqG (a := kk) (b := 3) (by omega) (by omega)).mp c147_90
                refine lv_iconst (v := nI 1) hx hb dX5_mayBe_160 (by decide) ?_
                refine lv_goto (tgt := 165) hx hb dX5_mayBe_161 (by decide) ?_
                refine lv_istore (lv' := [(6, .int (nI 1)), (5, .int (bP ((2 * h) ≤ (f 13) ∧ (f 13) ≤ (1 + (2 * h))))), (4, .int (bP ((2 - (2 * h)) ≤ (f 13) ∧ (f 13) ≤ (3 - (2 * h))))), (0, .ref (ad 0)), (1, .int (nI h)), (2, .int (nI so)), (3, .int (nI kk))]) hx hb dX5_mayBe_165 hl (by decide) rfl (fun ls hl => ?_)
                refine lv_iload hx hb dX5_mayBe_167 (lv_at hl 0 rfl) ?_
                refine lv_if_eq (tgt := 188) hx hb dX5_mayBe_169 (by decide) (fun c169_91 => absurd c169_91 (by decide)) (fun c169_91 => ?_)
                refine lv_aload_n hx hb dX5_mayBe_172 rfl (lv_at hl 3 rfl) ?_
                refine va_get (D := D) (ci := 5) (v := .int (nI (f 13))) (C := RX5) (T := TX5) (N := 23) hx hb hU iX5 hown hK hP 0 rfl rfl 13 (by decide) (hU _ mU_255) (fun _ h9 => h9) rfl dX5_mayBe_173 ?_
                refine lv_iconst (v := nI 2) hx hb dX5_mayBe_176 (by decide) ?_
                refine lv_icmp_ge (tgt := 184) hx hb dX5_mayBe_177 (by decide) (fun c177_92 => ?_) (fun c177_92 => ?_)
                · have c177_92 : 2 ≤ f 13 := (nI_leI (a := 2) (b := f 13) (by omega) (by omega)).mp c177_92
                  refine lv_iconst (v := nI 0) hx hb dX5_mayBe_184 (by decide) ?_
                  refine lv_goto (tgt := 201) hx hb dX5_mayBe_185 (by decide) ?_
                  subst hQ
                  exact rtz hx hb hr hlocks rfl rfl (bP_0 (by unfold mayM; omega)) dX5_mayBe_201
                · have c177_92 : ¬ (2 ≤ f 13) := fun h9 => c177_92 ((nI_leI (a := 2) (b := f 13) (by omega) (by omega)).mpr h9)
                  refine lv_iconst (v := nI 1) hx hb dX5_mayBe_180 (by decide) ?_
                  refine lv_goto (tgt := 201) hx hb dX5_mayBe_181 (by decide) ?_
                  subst hQ
                  exact rtz hx hb hr hlocks rfl rfl (bP_1 (by unfold mayM; omega)) dX5_mayBe_201
              · have c147_90 : ¬ (kk = 3) := fun h9 => c147_90 ((nI_eqG (a := kk) (b := 3) (by omega) (by omega)).mpr h9)
                refine lv_iload_n hx hb dX5_mayBe_150 rfl (lv_at hl 4 rfl) ?_
                refine lv_iconst (v := nI 3) hx hb dX5_mayBe_151 (by decide) ?_
                refine lv_icmp_ne (tgt := 164) hx hb dX5_mayBe_152 (by decide) (fun c152_93 => ?_) (fun c152_93 => ?_)
                · have c152_93 : ¬ (so = 3) := fun h9 => c152_93 ((nI_eqG (a := so) (b := 3) (by omega) (by omega)).mpr h9)
                  refine lv_iconst (v := nI 0) hx hb dX5_mayBe_164 (by decide) ?_
                  refine lv_istore (lv' := [(6, .int (nI 0)), (5, .int (bP ((2 * h) ≤ (f 13) ∧ (f 13) ≤ (1 + (2 * h))))), (4, .int (bP ((2 - (2 * h)) ≤ (f 13) ∧ (f 13) ≤ (3 - (2 * h))))), (0, .ref (ad 0)), (1, .int (nI h)), (2, .int (nI so)), (3, .int (nI kk))]) hx hb dX5_mayBe_165 hl (by decide) rfl (fun ls hl => ?_)
                  refine lv_iload hx hb dX5_mayBe_167 (lv_at hl 0 rfl) ?_
                  refine lv_if_eq (tgt := 188) hx hb dX5_mayBe_169 (by decide) (fun c169_94 => ?_) (fun c169_94 => absurd (by decide) c169_94)
                  refine lv_aload_n hx hb dX5_mayBe_188 rfl (lv_at hl 3 rfl) ?_
                  refine va_get (D := D) (ci := 5) (v := .int (nI (f 13))) (C := RX5) (T := TX5) (N := 23) hx hb hU iX5 hown hK hP 0 rfl rfl 13 (by decide) (hU _ mU_255) (fun _ h9 => h9) rfl dX5_mayBe_189 ?_
                  refine lv_iconst (v := nI 4) hx hb dX5_mayBe_192 (by decide) ?_
                  refine lv_icmp_ge (tgt := 200) hx hb dX5_mayBe_193 (by decide) (fun c193_95 => ?_) (fun c193_95 => ?_)
                  · have c193_95 : 4 ≤ f 13 := (nI_leI (a := 4) (b := f 13) (by omega) (by omega)).mp c193_95
                    refine lv_iconst (v := nI 0) hx hb dX5_mayBe_200 (by decide) ?_
                    subst hQ
                    exact rtz hx hb hr hlocks rfl rfl (bP_0 (by unfold mayM; omega)) dX5_mayBe_201
                  · have c193_95 : ¬ (4 ≤ f 13) := fun h9 => c193_95 ((nI_leI (a := 4) (b := f 13) (by omega) (by omega)).mpr h9)
                    refine lv_iconst (v := nI 1) hx hb dX5_mayBe_196 (by decide) ?_
                    refine lv_goto (tgt := 201) hx hb dX5_mayBe_197 (by decide) ?_
                    subst hQ
                    exact rtz hx hb hr hlocks rfl rfl (bP_1 (by unfold mayM; omega)) dX5_mayBe_201
                · have c152_93 : so = 3 := (nI_eqG (a := so) (b := 3) (by omega) (by omega)).mp c152_93
                  refine lv_iload_n hx hb dX5_mayBe_155 rfl (lv_at hl 5 rfl) ?_
                  refine lv_iconst (v := nI 2) hx hb dX5_mayBe_156 (by decide) ?_
                  refine lv_icmp_ne (tgt := 164) hx hb dX5_mayBe_157 (by decide) (fun c157_96 => ?_) (fun c157_96 => ?_)
                  · have c157_96 : ¬ (kk = 2) := fun h9 => c157_96 ((nI_eqG (a := kk) (b := 2) (by omega) (by omega)).mpr h9)
                    refine lv_iconst (v := nI 0) hx hb dX5_mayBe_164 (by decide) ?_
                    refine lv_istore (lv' := [(6, .int (nI 0)), (5, .int (bP ((2 * h) ≤ (f 13) ∧ (f 13) ≤ (1 + (2 * h))))), (4, .int (bP ((2 - (2 * h)) ≤ (f 13) ∧ (f 13) ≤ (3 - (2 * h))))), (0, .ref (ad 0)), (1, .int (nI h)), (2, .int (nI so)), (3, .int (nI kk))]) hx hb dX5_mayBe_165 hl (by decide) rfl (fun ls hl => ?_)
                    refine lv_iload hx hb dX5_mayBe_167 (lv_at hl 0 rfl) ?_
                    refine lv_if_eq (tgt := 188) hx hb dX5_mayBe_169 (by decide) (fun c169_97 => ?_) (fun c169_97 => absurd (by decide) c169_97)
                    refine lv_aload_n hx hb dX5_mayBe_188 rfl (lv_at hl 3 rfl) ?_
                    refine va_get (D := D) (ci := 5) (v := .int (nI (f 13))) (C := RX5) (T := TX5) (N := 23) hx hb hU iX5 hown hK hP 0 rfl rfl 13 (by decide) (hU _ mU_255) (fun _ h9 => h9) rfl dX5_mayBe_189 ?_
                    refine lv_iconst (v := nI 4) hx hb dX5_mayBe_192 (by decide) ?_
                    refine lv_icmp_ge (tgt := 200) hx hb dX5_mayBe_193 (by decide) (fun c193_98 => ?_) (fun c193_98 => ?_)
                    · have c193_98 : 4 ≤ f 13 := (nI_leI (a := 4) (b := f 13) (by omega) (by omega)).mp c193_98
                      refine lv_iconst (v := nI 0) hx hb dX5_mayBe_200 (by decide) ?_
                      subst hQ
                      exact rtz hx hb hr hlocks rfl rfl (bP_0 (by unfold mayM; omega)) dX5_mayBe_201
                    · have c193_98 : ¬ (4 ≤ f 13) := fun h9 => c193_98 ((nI_leI (a := 4) (b := f 13) (by omega) (by omega)).mpr h9)
                      refine lv_iconst (v := nI 1) hx hb dX5_mayBe_196 (by decide) ?_
                      refine lv_goto (tgt := 201) hx hb dX5_mayBe_197 (by decide) ?_
                      subst hQ
                      exact rtz hx hb hr hlocks rfl rfl (bP_1 (by unfold mayM; omega)) dX5_mayBe_201
                  · have c157_96 : kk = 2 := (nI_eqG (a := kk) (b := 2) (by omega) (by omega)).mp c157_96
                    refine lv_iconst (v := nI 1) hx hb dX5_mayBe_160 (by decide) ?_
                    refine lv_goto (tgt := 165) hx hb dX5_mayBe_161 (by decide) ?_
                    refine lv_istore (lv' := [(6, .int (nI 1)), (5, .int (bP ((2 * h) ≤ (f 13) ∧ (f 13) ≤ (1 + (2 * h))))), (4, .int (bP ((2 - (2 * h)) ≤ (f 13) ∧ (f 13) ≤ (3 - (2 * h))))), (0, .ref (ad 0)), (1, .int (nI h)), (2, .int (nI so)), (3, .int (nI kk))]) hx hb dX5_mayBe_165 hl (by decide) rfl (fun ls hl => ?_)
                    refine lv_iload hx hb dX5_mayBe_167 (lv_at hl 0 rfl) ?_
                    refine lv_if_eq (tgt := 188) hx hb dX5_mayBe_169 (by decide) (fun c169_99 => absurd c169_99 (by decide)) (fun c169_99 => ?_)
                    refine lv_aload_n hx hb dX5_mayBe_172 rfl (lv_at hl 3 rfl) ?_
                    refine va_get (D := D) (ci := 5) (v := .int (nI (f 13))) (C := RX5) (T := TX5) (N := 23) hx hb hU iX5 hown hK hP 0 rfl rfl 13 (by decide) (hU _ mU_255) (fun _ h9 => h9) rfl dX5_mayBe_173 ?_
                    refine lv_iconst (v := nI 2) hx hb dX5_mayBe_176 (by decide) ?_
                    refine lv_icmp_ge (tgt := 184) hx hb dX5_mayBe_177 (by decide) (fun c177_100 => ?_) (fun c177_100 => ?_)
                    · have c177_100 : 2 ≤ f 13 := (nI_leI (a := 2) (b := f 13) (by omega) (by omega)).mp c177_100
                      refine lv_iconst (v := nI 0) hx hb dX5_mayBe_184 (by decide) ?_
                      refine lv_goto (tgt := 201) hx hb dX5_mayBe_185 (by decide) ?_
                      subst hQ
                      exact rtz hx hb hr hlocks rfl rfl (bP_0 (by unfold mayM; omega)) dX5_mayBe_201
                    · have c177_100 : ¬ (2 ≤ f 13) := fun h9 => c177_100 ((nI_leI (a := 2) (b := f 13) (by omega) (by omega)).mpr h9)
                      refine lv_iconst (v := nI 1) hx hb dX5_mayBe_180 (by decide) ?_
                      refine lv_goto (tgt := 201) hx hb dX5_mayBe_181 (by decide) ?_
                      subst hQ
                      exact rtz hx hb hr hlocks rfl rfl (bP_1 (by unfold mayM; omega)) dX5_mayBe_201
        · have c126_77 : ¬ (so = 1) := fun h9 => c126_77 ((nI_eqG (a := so) (b := 1) (by omega) (by omega)).mpr h9)
          refine lv_iload_n hx hb dX5_mayBe_129 rfl (lv_at hl 4 rfl) ?_
          refine lv_bipush (v := nI 7) hx hb dX5_mayBe_130 (by decide) ?_
          refine lv_icmp_ne (tgt := 140) hx hb dX5_mayBe_132 (by decide) (fun c132_101 => ?_) (fun c132_101 => ?_)
          · have c132_101 : ¬ (so = 7) := fun h9 => c132_101 ((nI_eqG (a := so) (b := 7) (by omega) (by omega)).mpr h9)
            refine lv_iload_n hx hb dX5_mayBe_140 rfl (lv_at hl 4 rfl) ?_
            refine lv_iconst (v := nI 2) hx hb dX5_mayBe_141 (by decide) ?_
            refine lv_icmp_ne (tgt := 150) hx hb dX5_mayBe_142 (by decide) (fun c142_102 => ?_) (fun c142_102 => ?_)
            · have c142_102 : ¬ (so = 2) := fun h9 => c142_102 ((nI_eqG (a := so) (b := 2) (by omega) (by omega)).mpr h9)
              refine lv_iload_n hx hb dX5_mayBe_150 rfl (lv_at hl 4 rfl) ?_
              refine lv_iconst (v := nI 3) hx hb dX5_mayBe_151 (by decide) ?_
              refine lv_icmp_ne (tgt := 164) hx hb dX5_mayBe_152 (by decide) (fun c152_103 => ?_) (fun c152_103 => ?_)
              · have c152_103 : ¬ (so = 3) := fun h9 => c152_103 ((nI_eqG (a := so) (b := 3) (by omega) (by omega)).mpr h9)
                refine lv_iconst (v := nI 0) hx hb dX5_mayBe_164 (by decide) ?_
                refine lv_istore (lv' := [(6, .int (nI 0)), (5, .int (bP ((2 * h) ≤ (f 13) ∧ (f 13) ≤ (1 + (2 * h))))), (4, .int (bP ((2 - (2 * h)) ≤ (f 13) ∧ (f 13) ≤ (3 - (2 * h))))), (0, .ref (ad 0)), (1, .int (nI h)), (2, .int (nI so)), (3, .int (nI kk))]) hx hb dX5_mayBe_165 hl (by decide) rfl (fun ls hl => ?_)
                refine lv_iload hx hb dX5_mayBe_167 (lv_at hl 0 rfl) ?_
                refine lv_if_eq (tgt := 188) hx hb dX5_mayBe_169 (by decide) (fun c169_104 => ?_) (fun c169_104 => absurd (by decide) c169_104)
                refine lv_aload_n hx hb dX5_mayBe_188 rfl (lv_at hl 3 rfl) ?_
                refine va_get (D := D) (ci := 5) (v := .int (nI (f 13))) (C := RX5) (T := TX5) (N := 23) hx hb hU iX5 hown hK hP 0 rfl rfl 13 (by decide) (hU _ mU_255) (fun _ h9 => h9) rfl dX5_mayBe_189 ?_
                refine lv_iconst (v := nI 4) hx hb dX5_mayBe_192 (by decide) ?_
                refine lv_icmp_ge (tgt := 200) hx hb dX5_mayBe_193 (by decide) (fun c193_105 => ?_) (fun c193_105 => ?_)
                · have c193_105 : 4 ≤ f 13 := (nI_leI (a := 4) (b := f 13) (by omega) (by omega)).mp c193_105
                  refine lv_iconst (v := nI 0) hx hb dX5_mayBe_200 (by decide) ?_
                  subst hQ
                  exact rtz hx hb hr hlocks rfl rfl (bP_0 (by unfold mayM; omega)) dX5_mayBe_201
                · have c193_105 : ¬ (4 ≤ f 13) := fun h9 => c193_105 ((nI_leI (a := 4) (b := f 13) (by omega) (by omega)).mpr h9)
                  refine lv_iconst (v := nI 1) hx hb dX5_mayBe_196 (by decide) ?_
                  refine lv_goto (tgt := 201) hx hb dX5_mayBe_197 (by decide) ?_
                  subst hQ
                  exact rtz hx hb hr hlocks rfl rfl (bP_1 (by unfold mayM; omega)) dX5_mayBe_201
              · have c152_103 : so = 3 := (nI_eqG (a := so) (b := 3) (by omega) (by omega)).mp c152_103
                refine lv_iload_n hx hb dX5_mayBe_155 rfl (lv_at hl 5 rfl) ?_
                refine lv_iconst (v := nI 2) hx hb dX5_mayBe_156 (by decide) ?_
                refine lv_icmp_ne (tgt := 164) hx hb dX5_mayBe_157 (by decide) (fun c157_106 => ?_) (fun c157_106 => ?_)
                · have c157_106 : ¬ (kk = 2) := fun h9 => c157_106 ((nI_eqG (a := kk) (b := 2) (by omega) (by omega)).mpr h9)
                  refine lv_iconst (v := nI 0) hx hb dX5_mayBe_164 (by decide) ?_
                  refine lv_istore (lv' := [(6, .int (nI 0)), (5, .int (bP ((2 * h) ≤ (f 13) ∧ (f 13) ≤ (1 + (2 * h))))), (4, .int (bP ((2 - (2 * h)) ≤ (f 13) ∧ (f 13) ≤ (3 - (2 * h))))), (0, .ref (ad 0)), (1, .int (nI h)), (2, .int (nI so)), (3, .int (nI kk))]) hx hb dX5_mayBe_165 hl (by decide) rfl (fun ls hl => ?_)
                  refine lv_iload hx hb dX5_mayBe_167 (lv_at hl 0 rfl) ?_
                  refine lv_if_eq (tgt := 188) hx hb dX5_mayBe_169 (by decide) (fun c169_107 => ?_) (fun c169_107 => absurd (by decide) c169_107)
                  refine lv_aload_n hx hb dX5_mayBe_188 rfl (lv_at hl 3 rfl) ?_
                  refine va_get (D := D) (ci := 5) (v := .int (nI (f 13))) (C := RX5) (T := TX5) (N := 23) hx hb hU iX5 hown hK hP 0 rfl rfl 13 (by decide) (hU _ mU_255) (fun _ h9 => h9) rfl dX5_mayBe_189 ?_
                  refine lv_iconst (v := nI 4) hx hb dX5_mayBe_192 (by decide) ?_
                  refine lv_icmp_ge (tgt := 200) hx hb dX5_mayBe_193 (by decide) (fun c193_108 => ?_) (fun c193_108 => ?_)
                  · have c193_108 : 4 ≤ f 13 := (nI_leI (a := 4) (b := f 13) (by omega) (by omega)).mp c193_108
                    refine lv_iconst (v := nI 0) hx hb dX5_mayBe_200 (by decide) ?_
                    subst hQ
                    exact rtz hx hb hr hlocks rfl rfl (bP_0 (by unfold mayM; omega)) dX5_mayBe_201
                  · have c193_108 : ¬ (4 ≤ f 13) := fun h9 => c193_108 ((nI_leI (a := 4) (b := f 13) (by omega) (by omega)).mpr h9)
                    refine lv_iconst (v := nI 1) hx hb dX5_mayBe_196 (by decide) ?_
                    refine lv_goto (tgt := 201) hx hb dX5_mayBe_197 (by decide) ?_
                    subst hQ
                    exact rtz hx hb hr hlocks rfl rfl (bP_1 (by unfold mayM; omega)) dX5_mayBe_201
                · have c157_106 : kk = 2 := (nI_eqG (a := kk) (b := 2) (by omega) (by omega)).mp c157_106
                  refine lv_iconst (v := nI 1) hx hb dX5_mayBe_160 (by decide) ?_
                  refine lv_goto (tgt := 165) hx hb dX5_mayBe_161 (by decide) ?_
                  refine lv_istore (lv' := [(6, .int (nI 1)), (5, .int (bP ((2 * h) ≤ (f 13) ∧ (f 13) ≤ (1 + (2 * h))))), (4, .int (bP ((2 - (2 * h)) ≤ (f 13) ∧ (f 13) ≤ (3 - (2 * h))))), (0, .ref (ad 0)), (1, .int (nI h)), (2, .int (nI so)), (3, .int (nI kk))]) hx hb dX5_mayBe_165 hl (by decide) rfl (fun ls hl => ?_)
                  refine lv_iload hx hb dX5_mayBe_167 (lv_at hl 0 rfl) ?_
                  refine lv_if_eq (tgt := 188) hx hb dX5_mayBe_169 (by decide) (fun c169_109 => absurd c169_109 (by decide)) (fun c169_109 => ?_)
                  refine lv_aload_n hx hb dX5_mayBe_172 rfl (lv_at hl 3 rfl) ?_
                  refine va_get (D := D) (ci := 5) (v := .int (nI (f 13))) (C := RX5) (T := TX5) (N := 23) hx hb hU iX5 hown hK hP 0 rfl rfl 13 (by decide) (hU _ mU_255) (fun _ h9 => h9) rfl dX5_mayBe_173 ?_
                  refine lv_iconst (v := nI 2) hx hb dX5_mayBe_176 (by decide) ?_
                  refine lv_icmp_ge (tgt := 184) hx hb dX5_mayBe_177 (by decide) (fun c177_110 => ?_) (fun c177_110 => ?_)
                  · have c177_110 : 2 ≤ f 13 := (nI_leI (a := 2) (b := f 13) (by omega) (by omega)).mp c177_110
                    refine lv_iconst (v := nI 0) hx hb dX5_mayBe_184 (by decide) ?_
                    refine lv_goto (tgt := 201) hx hb dX5_mayBe_185 (by decide) ?_
                    subst hQ
                    exact rtz hx hb hr hlocks rfl rfl (bP_0 (by unfold mayM; omega)) dX5_mayBe_201
                  · have c177_110 : ¬ (2 ≤ f 13) := fun h9 => c177_110 ((nI_leI (a := 2) (b := f 13) (by omega) (by omega)).mpr h9)
                    refine lv_iconst (v := nI 1) hx hb dX5_mayBe_180 (by decide) ?_
                    refine lv_goto (tgt := 201) hx hb dX5_mayBe_181 (by decide) ?_
                    subst hQ
                    exact rtz hx hb hr hlocks rfl rfl (bP_1 (by unfold mayM; omega)) dX5_mayBe_201
            · have c142_102 : so = 2 := (nI_eqG (a := so) (b := 2) (by omega) (by omega)).mp c142_102
              refine lv_iload_n hx hb dX5_mayBe_145 rfl (lv_at hl 5 rfl) ?_
              refine lv_iconst (v := nI 3) hx hb dX5_mayBe_146 (by decide) ?_
              refine lv_icmp_eq (tgt := 160) hx hb dX5_mayBe_147 (by decide) (fun c147_111 => ?_) (fun c147_111 => ?_)
              · have c147_111 : kk = 3 := (nI_eqG (a := kk) (b := 3) (by omega) (by omega)).mp c147_111
                refine lv_iconst (v := nI 1) hx hb dX5_mayBe_160 (by decide) ?_
                refine lv_goto (tgt := 165) hx hb dX5_mayBe_161 (by decide) ?_
                refine lv_istore (lv' := [(6, .int (nI 1)), (5, .int (bP ((2 * h) ≤ (f 13) ∧ (f 13) ≤ (1 + (2 * h))))), (4, .int (bP ((2 - (2 * h)) ≤ (f 13) ∧ (f 13) ≤ (3 - (2 * h))))), (0, .ref (ad 0)), (1, .int (nI h)), (2, .int (nI so)), (3, .int (nI kk))]) hx hb dX5_mayBe_165 hl (by decide) rfl (fun ls hl => ?_)
                refine lv_iload hx hb dX5_mayBe_167 (lv_at hl 0 rfl) ?_
                refine lv_if_eq (tgt := 188) hx hb dX5_mayBe_169 (by decide) (fun c169_112 => absurd c169_112 (by decide)) (fun c169_112 => ?_)
                refine lv_aload_n hx hb dX5_mayBe_172 rfl (lv_at hl 3 rfl) ?_
                refine va_get (D := D) (ci := 5) (v := .int (nI (f 13))) (C := RX5) (T := TX5) (N := 23) hx hb hU iX5 hown hK hP 0 rfl rfl 13 (by decide) (hU _ mU_255) (fun _ h9 => h9) rfl dX5_mayBe_173 ?_
                refine lv_iconst (v := nI 2) hx hb dX5_mayBe_176 (by decide) ?_
                refine lv_icmp_ge (tgt := 184) hx hb dX5_mayBe_177 (by decide) (fun c177_113 => ?_) (fun c177_113 => ?_)
                · have c177_113 : 2 ≤ f 13 := (nI_leI (a := 2) (b := f 13) (by omega) (by omega)).mp c177_113
                  refine lv_iconst (v := nI 0) hx hb dX5_mayBe_184 (by decide) ?_
                  refine lv_goto (tgt := 201) hx hb dX5_mayBe_185 (by decide) ?_
                  subst hQ
                  exact rtz hx hb hr hlocks rfl rfl (bP_0 (by unfold mayM; omega)) dX5_mayBe_201
                · have c177_113 : ¬ (2 ≤ f 13) := fun h9 => c177_113 ((nI_leI (a := 2) (b := f 13) (by omega) (by omega)).mpr h9)
                  refine lv_iconst (v := nI 1) hx hb dX5_mayBe_180 (by decide) ?_
                  refine lv_goto (tgt := 201) hx hb dX5_mayBe_181 (by decide) ?_
                  subst hQ
                  exact rtz hx hb hr hlocks rfl rfl (bP_1 (by unfold mayM; omega)) dX5_mayBe_201
              · have c147_111 : ¬ (kk = 3) := fun h9 => c147_111 ((nI_eqG (a := kk) (b := 3) (by omega) (by omega)).mpr h9)
                refine lv_iload_n hx hb dX5_mayBe_150 rfl (lv_at hl 4 rfl) ?_
                refine lv_iconst (v := nI 3) hx hb dX5_mayBe_151 (by decide) ?_
                refine lv_icmp_ne (tgt := 164) hx hb dX5_mayBe_152 (by decide) (fun c152_114 => ?_) (fun c152_114 => ?_)
                · have c152_114 : ¬ (so = 3) := fun h9 => c152_114 ((nI_eqG (a := so) (b := 3) (by omega) (by omega)).mpr h9)
                  refine lv_iconst (v := nI 0) hx hb dX5_mayBe_164 (by decide) ?_
                  refine lv_istore (lv' := [(6, .int (nI 0)), (5, .int (bP ((2 * h) ≤ (f 13) ∧ (f 13) ≤ (1 + (2 * h))))), (4, .int (bP ((2 - (2 * h)) ≤ (f 13) ∧ (f 13) ≤ (3 - (2 * h))))), (0, .ref (ad 0)), (1, .int (nI h)), (2, .int (nI so)), (3, .int (nI kk))]) hx hb dX5_mayBe_165 hl (by decide) rfl (fun ls hl => ?_)
                  refine lv_iload hx hb dX5_mayBe_167 (lv_at hl 0 rfl) ?_
                  refine lv_if_eq (tgt := 188) hx hb dX5_mayBe_169 (by decide) (fun c169_115 => ?_) (fun c169_115 => absurd (by decide) c169_115)
                  refine lv_aload_n hx hb dX5_mayBe_188 rfl (lv_at hl 3 rfl) ?_
                  refine va_get (D := D) (ci := 5) (v := .int (nI (f 13))) (C := RX5) (T := TX5) (N := 23) hx hb hU iX5 hown hK hP 0 rfl rfl 13 (by decide) (hU _ mU_255) (fun _ h9 => h9) rfl dX5_mayBe_189 ?_
                  refine lv_iconst (v := nI 4) hx hb dX5_mayBe_192 (by decide) ?_
                  refine lv_icmp_ge (tgt := 200) hx hb dX5_mayBe_193 (by decide) (fun c193_116 => ?_) (fun c193_116 => ?_)
                  · have c193_116 : 4 ≤ f 13 := (nI_leI (a := 4) (b := f 13) (by omega) (by omega)).mp c193_116
                    refine lv_iconst (v := nI 0) hx hb dX5_mayBe_200 (by decide) ?_
                    subst hQ
                    exact rtz hx hb hr hlocks rfl rfl (bP_0 (by unfold mayM; omega)) dX5_mayBe_201
                  · have c193_116 : ¬ (4 ≤ f 13) := fun h9 => c193_116 ((nI_leI (a := 4) (b := f 13) (by omega) (by omega)).mpr h9)
                    refine lv_iconst (v := nI 1) hx hb dX5_mayBe_196 (by decide) ?_
                    refine lv_goto (tgt := 201) hx hb dX5_mayBe_197 (by decide) ?_
                    subst hQ
                    exact rtz hx hb hr hlocks rfl rfl (bP_1 (by unfold mayM; omega)) dX5_mayBe_201
                · have c152_114 : so = 3 := (nI_eqG (a := so) (b := 3) (by omega) (by omega)).mp c152_114
                  refine lv_iload_n hx hb dX5_mayBe_155 rfl (lv_at hl 5 rfl) ?_
                  refine lv_iconst (v := nI 2) hx hb dX5_mayBe_156 (by decide) ?_
                  refine lv_icmp_ne (tgt := 164) hx hb dX5_mayBe_157 (by decide) (fun c157_117 => ?_) (fun c157_117 => ?_)
                  · have c157_117 : ¬ (kk = 2) := fun h9 => c157_117 ((nI_eqG (a := kk) (b := 2) (by omega) (by omega)).mpr h9)
                    refine lv_iconst (v := nI 0) hx hb dX5_mayBe_164 (by decide) ?_
                    refine lv_istore (lv' := [(6, .int (nI 0)), (5, .int (bP ((2 * h) ≤ (f 13) ∧ (f 13) ≤ (1 + (2 * h))))), (4, .int (bP ((2 - (2 * h)) ≤ (f 13) ∧ (f 13) ≤ (3 - (2 * h))))), (0, .ref (ad 0)), (1, .int (nI h)), (2, .int (nI so)), (3, .int (nI kk))]) hx hb dX5_mayBe_165 hl (by decide) rfl (fun ls hl => ?_)
                    refine lv_iload hx hb dX5_mayBe_167 (lv_at hl 0 rfl) ?_
                    refine lv_if_eq (tgt := 188) hx hb dX5_mayBe_169 (by decide) (fun c169_118 => ?_) (fun c169_118 => absurd (by decide) c169_118)
                    refine lv_aload_n hx hb dX5_mayBe_188 rfl (lv_at hl 3 rfl) ?_
                    refine va_get (D := D) (ci := 5) (v := .int (nI (f 13))) (C := RX5) (T := TX5) (N := 23) hx hb hU iX5 hown hK hP 0 rfl rfl 13 (by decide) (hU _ mU_255) (fun _ h9 => h9) rfl dX5_mayBe_189 ?_
                    refine lv_iconst (v := nI 4) hx hb dX5_mayBe_192 (by decide) ?_
                    refine lv_icmp_ge (tgt := 200) hx hb dX5_mayBe_193 (by decide) (fun c193_119 => ?_) (fun c193_119 => ?_)
                    · have c193_119 : 4 ≤ f 13 := (nI_leI (a := 4) (b := f 13) (by omega) (by omega)).mp c193_119
                      refine lv_iconst (v := nI 0) hx hb dX5_mayBe_200 (by decide) ?_
                      subst hQ
                      exact rtz hx hb hr hlocks rfl rfl (bP_0 (by unfold mayM; omega)) dX5_mayBe_201
                    · have c193_119 : ¬ (4 ≤ f 13) := fun h9 => c193_119 ((nI_leI (a := 4) (b := f 13) (by omega) (by omega)).mpr h9)
                      refine lv_iconst (v := nI 1) hx hb dX5_mayBe_196 (by decide) ?_
                      refine lv_goto (tgt := 201) hx hb dX5_mayBe_197 (by decide) ?_
                      subst hQ
                      exact rtz hx hb hr hlocks rfl rfl (bP_1 (by unfold mayM; omega)) dX5_mayBe_201
                  · have c157_117 : kk = 2 := (nI_eqG (a := kk) (b := 2) (by omega) (by omega)).mp c157_117
                    refine lv_iconst (v := nI 1) hx hb dX5_mayBe_160 (by decide) ?_
                    refine lv_goto (tgt := 165) hx hb dX5_mayBe_161 (by decide) ?_
                    refine lv_istore (lv' := [(6, .int (nI 1)), (5, .int (bP ((2 * h) ≤ (f 13) ∧ (f 13) ≤ (1 + (2 * h))))), (4, .int (bP ((2 - (2 * h)) ≤ (f 13) ∧ (f 13) ≤ (3 - (2 * h))))), (0, .ref (ad 0)), (1, .int (nI h)), (2, .int (nI so)), (3, .int (nI kk))]) hx hb dX5_mayBe_165 hl (by decide) rfl (fun ls hl => ?_)
                    refine lv_iload hx hb dX5_mayBe_167 (lv_at hl 0 rfl) ?_
                    refine lv_if_eq (tgt := 188) hx hb dX5_mayBe_169 (by decide) (fun c169_120 => absurd c169_120 (by decide)) (fun c169_120 => ?_)
                    refine lv_aload_n hx hb dX5_mayBe_172 rfl (lv_at hl 3 rfl) ?_
                    refine va_get (D := D) (ci := 5) (v := .int (nI (f 13))) (C := RX5) (T := TX5) (N := 23) hx hb hU iX5 hown hK hP 0 rfl rfl 13 (by decide) (hU _ mU_255) (fun _ h9 => h9) rfl dX5_mayBe_173 ?_
                    refine lv_iconst (v := nI 2) hx hb dX5_mayBe_176 (by decide) ?_
                    refine lv_icmp_ge (tgt := 184) hx hb dX5_mayBe_177 (by decide) (fun c177_121 => ?_) (fun c177_121 => ?_)
                    · have c177_121 : 2 ≤ f 13 := (nI_leI (a := 2) (b := f 13) (by omega) (by omega)).mp c177_121
                      refine lv_iconst (v := nI 0) hx hb dX5_mayBe_184 (by decide) ?_
                      refine lv_goto (tgt := 201) hx hb dX5_mayBe_185 (by decide) ?_
                      subst hQ
                      exact rtz hx hb hr hlocks rfl rfl (bP_0 (by unfold mayM; omega)) dX5_mayBe_201
                    · have c177_121 : ¬ (2 ≤ f 13) := fun h9 => c177_121 ((nI_leI (a := 2) (b := f 13) (by omega) (by omega)).mpr h9)
                      refine lv_iconst (v := nI 1) hx hb dX5_mayBe_180 (by decide) ?_
                      refine lv_goto (tgt := 201) hx hb dX5_mayBe_181 (by decide) ?_
                      subst hQ
                      exact rtz hx hb hr hlocks rfl rfl (bP_1 (by unfold mayM; omega)) dX5_mayBe_201
          · have c132_101 : so = 7 := (nI_eqG (a := so) (b := 7) (by omega) (by omega)).mp c132_101
            refine lv_iload_n hx hb dX5_mayBe_135 rfl (lv_at hl 5 rfl) ?_
            refine lv_iconst (v := nI 1) hx hb dX5_mayBe_136 (by decide) ?_
            refine lv_icmp_eq (tgt := 160) hx hb dX5_mayBe_137 (by decide) (fun c137_122 => ?_) (fun c137_122 => ?_)
            · have c137_122 : kk = 1 := (nI_eqG (a := kk) (b := 1) (by omega) (by omega)).mp c137_122
              refine lv_iconst (v := nI 1) hx hb dX5_mayBe_160 (by decide) ?_
              refine lv_goto (tgt := 165) hx hb dX5_mayBe_161 (by decide) ?_
              refine lv_istore (lv' := [(6, .int (nI 1)), (5, .int (bP ((2 * h) ≤ (f 13) ∧ (f 13) ≤ (1 + (2 * h))))), (4, .int (bP ((2 - (2 * h)) ≤ (f 13) ∧ (f 13) ≤ (3 - (2 * h))))), (0, .ref (ad 0)), (1, .int (nI h)), (2, .int (nI so)), (3, .int (nI kk))]) hx hb dX5_mayBe_165 hl (by decide) rfl (fun ls hl => ?_)
              refine lv_iload hx hb dX5_mayBe_167 (lv_at hl 0 rfl) ?_
              refine lv_if_eq (tgt := 188) hx hb dX5_mayBe_169 (by decide) (fun c169_123 => absurd c169_123 (by decide)) (fun c169_123 => ?_)
              refine lv_aload_n hx hb dX5_mayBe_172 rfl (lv_at hl 3 rfl) ?_
              refine va_get (D := D) (ci := 5) (v := .int (nI (f 13))) (C := RX5) (T := TX5) (N := 23) hx hb hU iX5 hown hK hP 0 rfl rfl 13 (by decide) (hU _ mU_255) (fun _ h9 => h9) rfl dX5_mayBe_173 ?_
              refine lv_iconst (v := nI 2) hx hb dX5_mayBe_176 (by decide) ?_
              refine lv_icmp_ge (tgt := 184) hx hb dX5_mayBe_177 (by decide) (fun c177_124 => ?_) (fun c177_124 => ?_)
              · have c177_124 : 2 ≤ f 13 := (nI_leI (a := 2) (b := f 13) (by omega) (by omega)).mp c177_124
                refine lv_iconst (v := nI 0) hx hb dX5_mayBe_184 (by decide) ?_
                refine lv_goto (tgt := 201) hx hb dX5_mayBe_185 (by decide) ?_
                subst hQ
                exact rtz hx hb hr hlocks rfl rfl (bP_0 (by unfold mayM; omega)) dX5_mayBe_201
              · have c177_124 : ¬ (2 ≤ f 13) := fun h9 => c177_124 ((nI_leI (a := 2) (b := f 13) (by omega) (by omega)).mpr h9)
                refine lv_iconst (v := nI 1) hx hb dX5_mayBe_180 (by decide) ?_
                refine lv_goto (tgt := 201) hx hb dX5_mayBe_181 (by decide) ?_
                subst hQ
                exact rtz hx hb hr hlocks rfl rfl (bP_1 (by unfold mayM; omega)) dX5_mayBe_201
            · have c137_122 : ¬ (kk = 1) := fun h9 => c137_122 ((nI_eqG (a := kk) (b := 1) (by omega) (by omega)).mpr h9)
              refine lv_iload_n hx hb dX5_mayBe_140 rfl (lv_at hl 4 rfl) ?_
              refine lv_iconst (v := nI 2) hx hb dX5_mayBe_141 (by decide) ?_
              refine lv_icmp_ne (tgt := 150) hx hb dX5_mayBe_142 (by decide) (fun c142_125 => ?_) (fun c142_125 => ?_)
              · have c142_125 : ¬ (so = 2) := fun h9 => c142_125 ((nI_eqG (a := so) (b := 2) (by omega) (by omega)).mpr h9)
                refine lv_iload_n hx hb dX5_mayBe_150 rfl (lv_at hl 4 rfl) ?_
                refine lv_iconst (v := nI 3) hx hb dX5_mayBe_151 (by decide) ?_
                refine lv_icmp_ne (tgt := 164) hx hb dX5_mayBe_152 (by decide) (fun c152_126 => ?_) (fun c152_126 => ?_)
                · have c152_126 : ¬ (so = 3) := fun h9 => c152_126 ((nI_eqG (a := so) (b := 3) (by omega) (by omega)).mpr h9)
                  refine lv_iconst (v := nI 0) hx hb dX5_mayBe_164 (by decide) ?_
                  refine lv_istore (lv' := [(6, .int (nI 0)), (5, .int (bP ((2 * h) ≤ (f 13) ∧ (f 13) ≤ (1 + (2 * h))))), (4, .int (bP ((2 - (2 * h)) ≤ (f 13) ∧ (f 13) ≤ (3 - (2 * h))))), (0, .ref (ad 0)), (1, .int (nI h)), (2, .int (nI so)), (3, .int (nI kk))]) hx hb dX5_mayBe_165 hl (by decide) rfl (fun ls hl => ?_)
                  refine lv_iload hx hb dX5_mayBe_167 (lv_at hl 0 rfl) ?_
                  refine lv_if_eq (tgt := 188) hx hb dX5_mayBe_169 (by decide) (fun c169_127 => ?_) (fun c169_127 => absurd (by decide) c169_127)
                  refine lv_aload_n hx hb dX5_mayBe_188 rfl (lv_at hl 3 rfl) ?_
                  refine va_get (D := D) (ci := 5) (v := .int (nI (f 13))) (C := RX5) (T := TX5) (N := 23) hx hb hU iX5 hown hK hP 0 rfl rfl 13 (by decide) (hU _ mU_255) (fun _ h9 => h9) rfl dX5_mayBe_189 ?_
                  refine lv_iconst (v := nI 4) hx hb dX5_mayBe_192 (by decide) ?_
                  refine lv_icmp_ge (tgt := 200) hx hb dX5_mayBe_193 (by decide) (fun c193_128 => ?_) (fun c193_128 => ?_)
                  · have c193_128 : 4 ≤ f 13 := (nI_leI (a := 4) (b := f 13) (by omega) (by omega)).mp c193_128
                    refine lv_iconst (v := nI 0) hx hb dX5_mayBe_200 (by decide) ?_
                    subst hQ
                    exact rtz hx hb hr hlocks rfl rfl (bP_0 (by unfold mayM; omega)) dX5_mayBe_201
                  · have c193_128 : ¬ (4 ≤ f 13) := fun h9 => c193_128 ((nI_leI (a := 4) (b := f 13) (by omega) (by omega)).mpr h9)
                    refine lv_iconst (v := nI 1) hx hb dX5_mayBe_196 (by decide) ?_
                    refine lv_goto (tgt := 201) hx hb dX5_mayBe_197 (by decide) ?_
                    subst hQ
                    exact rtz hx hb hr hlocks rfl rfl (bP_1 (by unfold mayM; omega)) dX5_mayBe_201
                · have c152_126 : so = 3 := (nI_eqG (a := so) (b := 3) (by omega) (by omega)).mp c152_126
                  refine lv_iload_n hx hb dX5_mayBe_155 rfl (lv_at hl 5 rfl) ?_
                  refine lv_iconst (v := nI 2) hx hb dX5_mayBe_156 (by decide) ?_
                  refine lv_icmp_ne (tgt := 164) hx hb dX5_mayBe_157 (by decide) (fun c157_129 => ?_) (fun c157_129 => ?_)
                  · have c157_129 : ¬ (kk = 2) := fun h9 => c157_129 ((nI_eqG (a := kk) (b := 2) (by omega) (by omega)).mpr h9)
                    refine lv_iconst (v := nI 0) hx hb dX5_mayBe_164 (by decide) ?_
                    refine lv_istore (lv' := [(6, .int (nI 0)), (5, .int (bP ((2 * h) ≤ (f 13) ∧ (f 13) ≤ (1 + (2 * h))))), (4, .int (bP ((2 - (2 * h)) ≤ (f 13) ∧ (f 13) ≤ (3 - (2 * h))))), (0, .ref (ad 0)), (1, .int (nI h)), (2, .int (nI so)), (3, .int (nI kk))]) hx hb dX5_mayBe_165 hl (by decide) rfl (fun ls hl => ?_)
                    refine lv_iload hx hb dX5_mayBe_167 (lv_at hl 0 rfl) ?_
                    refine lv_if_eq (tgt := 188) hx hb dX5_mayBe_169 (by decide) (fun c169_130 => ?_) (fun c169_130 => absurd (by decide) c169_130)
                    refine lv_aload_n hx hb dX5_mayBe_188 rfl (lv_at hl 3 rfl) ?_
                    refine va_get (D := D) (ci := 5) (v := .int (nI (f 13))) (C := RX5) (T := TX5) (N := 23) hx hb hU iX5 hown hK hP 0 rfl rfl 13 (by decide) (hU _ mU_255) (fun _ h9 => h9) rfl dX5_mayBe_189 ?_
                    refine lv_iconst (v := nI 4) hx hb dX5_mayBe_192 (by decide) ?_
                    refine lv_icmp_ge (tgt := 200) hx hb dX5_mayBe_193 (by decide) (fun c193_131 => ?_) (fun c193_131 => ?_)
                    · have c193_131 : 4 ≤ f 13 := (nI_leI (a := 4) (b := f 13) (by omega) (by omega)).mp c193_131
                      refine lv_iconst (v := nI 0) hx hb dX5_mayBe_200 (by decide) ?_
                      subst hQ
                      exact rtz hx hb hr hlocks rfl rfl (bP_0 (by unfold mayM; omega)) dX5_mayBe_201
                    · have c193_131 : ¬ (4 ≤ f 13) := fun h9 => c193_131 ((nI_leI (a := 4) (b := f 13) (by omega) (by omega)).mpr h9)
                      refine lv_iconst (v := nI 1) hx hb dX5_mayBe_196 (by decide) ?_
                      refine lv_goto (tgt := 201) hx hb dX5_mayBe_197 (by decide) ?_
                      subst hQ
                      exact rtz hx hb hr hlocks rfl rfl (bP_1 (by unfold mayM; omega)) dX5_mayBe_201
                  · have c157_129 : kk = 2 := (nI_eqG (a := kk) (b := 2) (by omega) (by omega)).mp c157_129
                    refine lv_iconst (v := nI 1) hx hb dX5_mayBe_160 (by decide) ?_
                    refine lv_goto (tgt := 165) hx hb dX5_mayBe_161 (by decide) ?_
                    refine lv_istore (lv' := [(6, .int (nI 1)), (5, .int (bP ((2 * h) ≤ (f 13) ∧ (f 13) ≤ (1 + (2 * h))))), (4, .int (bP ((2 - (2 * h)) ≤ (f 13) ∧ (f 13) ≤ (3 - (2 * h))))), (0, .ref (ad 0)), (1, .int (nI h)), (2, .int (nI so)), (3, .int (nI kk))]) hx hb dX5_mayBe_165 hl (by decide) rfl (fun ls hl => ?_)
                    refine lv_iload hx hb dX5_mayBe_167 (lv_at hl 0 rfl) ?_
                    refine lv_if_eq (tgt := 188) hx hb dX5_mayBe_169 (by decide) (fun c169_132 => absurd c169_132 (by decide)) (fun c169_132 => ?_)
                    refine lv_aload_n hx hb dX5_mayBe_172 rfl (lv_at hl 3 rfl) ?_
                    refine va_get (D := D) (ci := 5) (v := .int (nI (f 13))) (C := RX5) (T := TX5) (N := 23) hx hb hU iX5 hown hK hP 0 rfl rfl 13 (by decide) (hU _ mU_255) (fun _ h9 => h9) rfl dX5_mayBe_173 ?_
                    refine lv_iconst (v := nI 2) hx hb dX5_mayBe_176 (by decide) ?_
                    refine lv_icmp_ge (tgt := 184) hx hb dX5_mayBe_177 (by decide) (fun c177_133 => ?_) (fun c177_133 => ?_)
                    · have c177_133 : 2 ≤ f 13 := (nI_leI (a := 2) (b := f 13) (by omega) (by omega)).mp c177_133
                      refine lv_iconst (v := nI 0) hx hb dX5_mayBe_184 (by decide) ?_
                      refine lv_goto (tgt := 201) hx hb dX5_mayBe_185 (by decide) ?_
                      subst hQ
                      exact rtz hx hb hr hlocks rfl rfl (bP_0 (by unfold mayM; omega)) dX5_mayBe_201
                    · have c177_133 : ¬ (2 ≤ f 13) := fun h9 => c177_133 ((nI_leI (a := 2) (b := f 13) (by omega) (by omega)).mpr h9)
                      refine lv_iconst (v := nI 1) hx hb dX5_mayBe_180 (by decide) ?_
                      refine lv_goto (tgt := 201) hx hb dX5_mayBe_181 (by decide) ?_
                      subst hQ
                      exact rtz hx hb hr hlocks rfl rfl (bP_1 (by unfold mayM; omega)) dX5_mayBe_201
              · have c142_125 : so = 2 := (nI_eqG (a := so) (b := 2) (by omega) (by omega)).mp c142_125
                refine lv_iload_n hx hb dX5_mayBe_145 rfl (lv_at hl 5 rfl) ?_
                refine lv_iconst (v := nI 3) hx hb dX5_mayBe_146 (by decide) ?_
                refine lv_icmp_eq (tgt := 160) hx hb dX5_mayBe_147 (by decide) (fun c147_134 => ?_) (fun c147_134 => ?_)
                · have c147_134 : kk = 3 := (nI_eqG (a := kk) (b := 3) (by omega) (by omega)).mp c147_134
                  refine lv_iconst (v := nI 1) hx hb dX5_mayBe_160 (by decide) ?_
                  refine lv_goto (tgt := 165) hx hb dX5_mayBe_161 (by decide) ?_
                  refine lv_istore (lv' := [(6, .int (nI 1)), (5, .int (bP ((2 * h) ≤ (f 13) ∧ (f 13) ≤ (1 + (2 * h))))), (4, .int (bP ((2 - (2 * h)) ≤ (f 13) ∧ (f 13) ≤ (3 - (2 * h))))), (0, .ref (ad 0)), (1, .int (nI h)), (2, .int (nI so)), (3, .int (nI kk))]) hx hb dX5_mayBe_165 hl (by decide) rfl (fun ls hl => ?_)
                  refine lv_iload hx hb dX5_mayBe_167 (lv_at hl 0 rfl) ?_
                  refine lv_if_eq (tgt := 188) hx hb dX5_mayBe_169 (by decide) (fun c169_135 => absurd c169_135 (by decide)) (fun c169_135 => ?_)
                  refine lv_aload_n hx hb dX5_mayBe_172 rfl (lv_at hl 3 rfl) ?_
                  refine va_get (D := D) (ci := 5) (v := .int (nI (f 13))) (C := RX5) (T := TX5) (N := 23) hx hb hU iX5 hown hK hP 0 rfl rfl 13 (by decide) (hU _ mU_255) (fun _ h9 => h9) rfl dX5_mayBe_173 ?_
                  refine lv_iconst (v := nI 2) hx hb dX5_mayBe_176 (by decide) ?_
                  refine lv_icmp_ge (tgt := 184) hx hb dX5_mayBe_177 (by decide) (fun c177_136 => ?_) (fun c177_136 => ?_)
                  · have c177_136 : 2 ≤ f 13 := (nI_leI (a := 2) (b := f 13) (by omega) (by omega)).mp c177_136
                    refine lv_iconst (v := nI 0) hx hb dX5_mayBe_184 (by decide) ?_
                    refine lv_goto (tgt := 201) hx hb dX5_mayBe_185 (by decide) ?_
                    subst hQ
                    exact rtz hx hb hr hlocks rfl rfl (bP_0 (by unfold mayM; omega)) dX5_mayBe_201
                  · have c177_136 : ¬ (2 ≤ f 13) := fun h9 => c177_136 ((nI_leI (a := 2) (b := f 13) (by omega) (by omega)).mpr h9)
                    refine lv_iconst (v := nI 1) hx hb dX5_mayBe_180 (by decide) ?_
                    refine lv_goto (tgt := 201) hx hb dX5_mayBe_181 (by decide) ?_
                    subst hQ
                    exact rtz hx hb hr hlocks rfl rfl (bP_1 (by unfold mayM; omega)) dX5_mayBe_201
                · have c147_134 : ¬ (kk = 3) := fun h9 => c147_134 ((nI_eqG (a := kk) (b := 3) (by omega) (by omega)).mpr h9)
                  refine lv_iload_n hx hb dX5_mayBe_150 rfl (lv_at hl 4 rfl) ?_
                  refine lv_iconst (v := nI 3) hx hb dX5_mayBe_151 (by decide) ?_
                  refine lv_icmp_ne (tgt := 164) hx hb dX5_mayBe_152 (by decide) (fun c152_137 => ?_) (fun c152_137 => ?_)
                  · have c152_137 : ¬ (so = 3) := fun h9 => c152_137 ((nI_eqG (a := so) (b := 3) (by omega) (by omega)).mpr h9)
                    refine lv_iconst (v := nI 0) hx hb dX5_mayBe_164 (by decide) ?_
                    refine lv_istore (lv' := [(6, .int (nI 0)), (5, .int (bP ((2 * h) ≤ (f 13) ∧ (f 13) ≤ (1 + (2 * h))))), (4, .int (bP ((2 - (2 * h)) ≤ (f 13) ∧ (f 13) ≤ (3 - (2 * h))))), (0, .ref (ad 0)), (1, .int (nI h)), (2, .int (nI so)), (3, .int (nI kk))]) hx hb dX5_mayBe_165 hl (by decide) rfl (fun ls hl => ?_)
                    refine lv_iload hx hb dX5_mayBe_167 (lv_at hl 0 rfl) ?_
                    refine lv_if_eq (tgt := 188) hx hb dX5_mayBe_169 (by decide) (fun c169_138 => ?_) (fun c169_138 => absurd (by decide) c169_138)
                    refine lv_aload_n hx hb dX5_mayBe_188 rfl (lv_at hl 3 rfl) ?_
                    refine va_get (D := D) (ci := 5) (v := .int (nI (f 13))) (C := RX5) (T := TX5) (N := 23) hx hb hU iX5 hown hK hP 0 rfl rfl 13 (by decide) (hU _ mU_255) (fun _ h9 => h9) rfl dX5_mayBe_189 ?_
                    refine lv_iconst (v := nI 4) hx hb dX5_mayBe_192 (by decide) ?_
                    refine lv_icmp_ge (tgt := 200) hx hb dX5_mayBe_193 (by decide) (fun c193_139 => ?_) (fun c193_139 => ?_)
                    · have c193_139 : 4 ≤ f 13 := (nI_leI (a := 4) (b := f 13) (by omega) (by omega)).mp c193_139
                      refine lv_iconst (v := nI 0) hx hb dX5_mayBe_200 (by decide) ?_
                      subst hQ
                      exact rtz hx hb hr hlocks rfl rfl (bP_0 (by unfold mayM; omega)) dX5_mayBe_201
                    · have c193_139 : ¬ (4 ≤ f 13) := fun h9 => c193_139 ((nI_leI (a := 4) (b := f 13) (by omega) (by omega)).mpr h9)
                      refine lv_iconst (v := nI 1) hx hb dX5_mayBe_196 (by decide) ?_
                      refine lv_goto (tgt := 201) hx hb dX5_mayBe_197 (by decide) ?_
                      subst hQ
                      exact rtz hx hb hr hlocks rfl rfl (bP_1 (by unfold mayM; omega)) dX5_mayBe_201
                  · have c152_137 : so = 3 := (nI_eqG (a := so) (b := 3) (by omega) (by omega)).mp c152_137
                    refine lv_iload_n hx hb dX5_mayBe_155 rfl (lv_at hl 5 rfl) ?_
                    refine lv_iconst (v := nI 2) hx hb dX5_mayBe_156 (by decide) ?_
                    refine lv_icmp_ne (tgt := 164) hx hb dX5_mayBe_157 (by decide) (fun c157_140 => ?_) (fun c157_140 => ?_)
                    · have c157_140 : ¬ (kk = 2) := fun h9 => c157_140 ((nI_eqG (a := kk) (b := 2) (by omega) (by omega)).mpr h9)
                      refine lv_iconst (v := nI 0) hx hb dX5_mayBe_164 (by decide) ?_
                      refine lv_istore (lv' := [(6, .int (nI 0)), (5, .int (bP ((2 * h) ≤ (f 13) ∧ (f 13) ≤ (1 + (2 * h))))), (4, .int (bP ((2 - (2 * h)) ≤ (f 13) ∧ (f 13) ≤ (3 - (2 * h))))), (0, .ref (ad 0)), (1, .int (nI h)), (2, .int (nI so)), (3, .int (nI kk))]) hx hb dX5_mayBe_165 hl (by decide) rfl (fun ls hl => ?_)
                      refine lv_iload hx hb dX5_mayBe_167 (lv_at hl 0 rfl) ?_
                      refine lv_if_eq (tgt := 188) hx hb dX5_mayBe_169 (by decide) (fun c169_141 => ?_) (fun c169_141 => absurd (by decide) c169_141)
                      refine lv_aload_n hx hb dX5_mayBe_188 rfl (lv_at hl 3 rfl) ?_
                      refine va_get (D := D) (ci := 5) (v := .int (nI (f 13))) (C := RX5) (T := TX5) (N := 23) hx hb hU iX5 hown hK hP 0 rfl rfl 13 (by decide) (hU _ mU_255) (fun _ h9 => h9) rfl dX5_mayBe_189 ?_
                      refine lv_iconst (v := nI 4) hx hb dX5_mayBe_192 (by decide) ?_
                      refine lv_icmp_ge (tgt := 200) hx hb dX5_mayBe_193 (by decide) (fun c193_142 => ?_) (fun c193_142 => ?_)
                      · have c193_142 : 4 ≤ f 13 := (nI_leI (a := 4) (b := f 13) (by omega) (by omega)).mp c193_142
                        refine lv_iconst (v := nI 0) hx hb dX5_mayBe_200 (by decide) ?_
                        subst hQ
                        exact rtz hx hb hr hlocks rfl rfl (bP_0 (by unfold mayM; omega)) dX5_mayBe_201
                      · have c193_142 : ¬ (4 ≤ f 13) := fun h9 => c193_142 ((nI_leI (a := 4) (b := f 13) (by omega) (by omega)).mpr h9)
                        refine lv_iconst (v := nI 1) hx hb dX5_mayBe_196 (by decide) ?_
                        refine lv_goto (tgt := 201) hx hb dX5_mayBe_197 (by decide) ?_
                        subst hQ
                        exact rtz hx hb hr hlocks rfl rfl (bP_1 (by unfold mayM; omega)) dX5_mayBe_201
                    · have c157_140 : kk = 2 := (nI_eqG (a := kk) (b := 2) (by omega) (by omega)).mp c157_140
                      refine lv_iconst (v := nI 1) hx hb dX5_mayBe_160 (by decide) ?_
                      refine lv_goto (tgt := 165) hx hb dX5_mayBe_161 (by decide) ?_
                      refine lv_istore (lv' := [(6, .int (nI 1)), (5, .int (bP ((2 * h) ≤ (f 13) ∧ (f 13) ≤ (1 + (2 * h))))), (4, .int (bP ((2 - (2 * h)) ≤ (f 13) ∧ (f 13) ≤ (3 - (2 * h))))), (0, .ref (ad 0)), (1, .int (nI h)), (2, .int (nI so)), (3, .int (nI kk))]) hx hb dX5_mayBe_165 hl (by decide) rfl (fun ls hl => ?_)
                      refine lv_iload hx hb dX5_mayBe_167 (lv_at hl 0 rfl) ?_
                      refine lv_if_eq (tgt := 188) hx hb dX5_mayBe_169 (by decide) (fun c169_143 => absurd c169_143 (by decide)) (fun c169_143 => ?_)
                      refine lv_aload_n hx hb dX5_mayBe_172 rfl (lv_at hl 3 rfl) ?_
                      refine va_get (D := D) (ci := 5) (v := .int (nI (f 13))) (C := RX5) (T := TX5) (N := 23) hx hb hU iX5 hown hK hP 0 rfl rfl 13 (by decide) (hU _ mU_255) (fun _ h9 => h9) rfl dX5_mayBe_173 ?_
                      refine lv_iconst (v := nI 2) hx hb dX5_mayBe_176 (by decide) ?_
                      refine lv_icmp_ge (tgt := 184) hx hb dX5_mayBe_177 (by decide) (fun c177_144 => ?_) (fun c177_144 => ?_)
                      · have c177_144 : 2 ≤ f 13 := (nI_leI (a := 2) (b := f 13) (by omega) (by omega)).mp c177_144
                        refine lv_iconst (v := nI 0) hx hb dX5_mayBe_184 (by decide) ?_
                        refine lv_goto (tgt := 201) hx hb dX5_mayBe_185 (by decide) ?_
                        subst hQ
                        exact rtz hx hb hr hlocks rfl rfl (bP_0 (by unfold mayM; omega)) dX5_mayBe_201
                      · have c177_144 : ¬ (2 ≤ f 13) := fun h9 => c177_144 ((nI_leI (a := 2) (b := f 13) (by omega) (by omega)).mpr h9)
                        refine lv_iconst (v := nI 1) hx hb dX5_mayBe_180 (by decide) ?_
                        refine lv_goto (tgt := 201) hx hb dX5_mayBe_181 (by decide) ?_
                        subst hQ
                        exact rtz hx hb hr hlocks rfl rfl (bP_1 (by unfold mayM; omega)) dX5_mayBe_201
      · have c69_76 : so = 8 := (nI_eqG (a := so) (b := 8) (by omega) (by omega)).mp c69_76
        refine lv_iload_n hx hb dX5_mayBe_72 rfl (lv_at hl 5 rfl) ?_
        refine lv_if_ne (tgt := 92) hx hb dX5_mayBe_73 (by decide) (fun c73_145 => ?_) (fun c73_145 => ?_)
        · have c73_145 : ¬ (kk = 0) := fun h9 => c73_145 ((nI_eqG (a := kk) (b := 0) (by omega) (by omega)).mpr h9)
          refine lv_iload_n hx hb dX5_mayBe_92 rfl (lv_at hl 5 rfl) ?_
          refine lv_iconst (v := nI 1) hx hb dX5_mayBe_93 (by decide) ?_
          refine lv_icmp_ne (tgt := 113) hx hb dX5_mayBe_94 (by decide) (fun c94_146 => ?_) (fun c94_146 => ?_)
          · have c94_146 : ¬ (kk = 1) := fun h9 => c94_146 ((nI_eqG (a := kk) (b := 1) (by omega) (by omega)).mpr h9)
            refine lv_aload_n hx hb dX5_mayBe_113 rfl (lv_at hl 2 rfl) ?_
            refine va_get (D := D) (ci := 5) (v := .int (nI (f 13))) (C := RX5) (T := TX5) (N := 23) hx hb hU iX5 hown hK hP 0 rfl rfl 13 (by decide) (hU _ mU_255) (fun _ h9 => h9) rfl dX5_mayBe_114 ?_
            refine lv_iconst (v := nI 1) hx hb dX5_mayBe_117 (by decide) ?_
            refine lv_bipush (v := nI 7) hx hb dX5_mayBe_118 (by decide) ?_
            refine cSi (As := [.int (nI (f 13)), .int (nI 1), .int (nI 7)]) (rest := []) ⟨hx, hb, hml, hown, hts⟩ (c_X5_isIn l  (f 13) 1 7 (by omega) (by omega) (by omega)) (va_cwS 3 hts (gS mU_116 mU_117 mU_6 mU_118) rfl rfl rfl (by decide +kernel) ⟨Nat.le_of_ble_eq_true rfl, Nat.le_of_ble_eq_true rfl⟩) fbU (fun _ _ _ => trivial) rfl hl.1 rfl (Nat.le_of_ble_eq_true rfl) dX5_mayBe_120 ⟨Nat.zero_le _, Nat.zero_le _⟩ ?_
            subst hQ
            exact rtz hx hb hr hlocks rfl bP_nar (bP_c (by unfold mayM; omega)) dX5_mayBe_123
          · have c94_146 : kk = 1 := (nI_eqG (a := kk) (b := 1) (by omega) (by omega)).mp c94_146
            refine lv_aload_n hx hb dX5_mayBe_97 rfl (lv_at hl 2 rfl) ?_
            refine va_get (D := D) (ci := 5) (v := .int (nI (f 13))) (C := RX5) (T := TX5) (N := 23) hx hb hU iX5 hown hK hP 0 rfl rfl 13 (by decide) (hU _ mU_255) (fun _ h9 => h9) rfl dX5_mayBe_98 ?_
            refine lv_iconst (v := nI 4) hx hb dX5_mayBe_101 (by decide) ?_
            refine lv_icmp_ge (tgt := 109) hx hb dX5_mayBe_102 (by decide) (fun c102_147 => ?_) (fun c102_147 => ?_)
            · have c102_147 : 4 ≤ f 13 := (nI_leI (a := 4) (b := f 13) (by omega) (by omega)).mp c102_147
              refine lv_iconst (v := nI 0) hx hb dX5_mayBe_109 (by decide) ?_
              refine lv_goto (tgt := 123) hx hb dX5_mayBe_110 (by decide) ?_
              subst hQ
              exact rtz hx hb hr hlocks rfl rfl (bP_0 (by unfold mayM; omega)) dX5_mayBe_123
            · have c102_147 : ¬ (4 ≤ f 13) := fun h9 => c102_147 ((nI_leI (a := 4) (b := f 13) (by omega) (by omega)).mpr h9)
              refine lv_iconst (v := nI 1) hx hb dX5_mayBe_105 (by decide) ?_
              refine lv_goto (tgt := 123) hx hb dX5_mayBe_106 (by decide) ?_
              subst hQ
              exact rtz hx hb hr hlocks rfl rfl (bP_1 (by unfold mayM; omega)) dX5_mayBe_123
        · have c73_145 : kk = 0 := (nI_eqG (a := kk) (b := 0) (by omega) (by omega)).mp c73_145
          refine lv_aload_n hx hb dX5_mayBe_76 rfl (lv_at hl 2 rfl) ?_
          refine va_get (D := D) (ci := 5) (v := .int (nI (f 13))) (C := RX5) (T := TX5) (N := 23) hx hb hU iX5 hown hK hP 0 rfl rfl 13 (by decide) (hU _ mU_255) (fun _ h9 => h9) rfl dX5_mayBe_77 ?_
          refine lv_iconst (v := nI 2) hx hb dX5_mayBe_80 (by decide) ?_
          refine lv_icmp_ge (tgt := 88) hx hb dX5_mayBe_81 (by decide) (fun c81_148 => ?_) (fun c81_148 => ?_)
          · have c81_148 : 2 ≤ f 13 := (nI_leI (a := 2) (b := f 13) (by omega) (by omega)).mp c81_148
            refine lv_iconst (v := nI 0) hx hb dX5_mayBe_88 (by decide) ?_
            refine lv_goto (tgt := 123) hx hb dX5_mayBe_89 (by decide) ?_
            subst hQ
            exact rtz hx hb hr hlocks rfl rfl (bP_0 (by unfold mayM; omega)) dX5_mayBe_123
          · have c81_148 : ¬ (2 ≤ f 13) := fun h9 => c81_148 ((nI_leI (a := 2) (b := f 13) (by omega) (by omega)).mpr h9)
            refine lv_iconst (v := nI 1) hx hb dX5_mayBe_84 (by decide) ?_
            refine lv_goto (tgt := 123) hx hb dX5_mayBe_85 (by decide) ?_
            subst hQ
            exact rtz hx hb hr hlocks rfl rfl (bP_1 (by unfold mayM; omega)) dX5_mayBe_123
    · have c43_75 : ¬ (so = 8) := fun h9 => c43_75 ((nI_eqG (a := so) (b := 8) (by omega) (by omega)).mpr h9)
      refine lv_iload_n hx hb dX5_mayBe_46 rfl (lv_at hl 4 rfl) ?_
      refine lv_bipush (v := nI 6) hx hb dX5_mayBe_47 (by decide) ?_
      refine lv_icmp_eq (tgt := 58) hx hb dX5_mayBe_49 (by decide) (fun c49_149 => ?_) (fun c49_149 => ?_)
      · have c49_149 : so = 6 := (nI_eqG (a := so) (b := 6) (by omega) (by omega)).mp c49_149
        refine lv_iload hx hb dX5_mayBe_58 (lv_at hl 0 rfl) ?_
        refine lv_goto (tgt := 65) hx hb dX5_mayBe_60 (by decide) ?_
        subst hQ
        exact rtz hx hb hr hlocks rfl bP_nar (bP_c (by unfold mayM; omega)) dX5_mayBe_65
      · have c49_149 : ¬ (so = 6) := fun h9 => c49_149 ((nI_eqG (a := so) (b := 6) (by omega) (by omega)).mpr h9)
        refine lv_iload_n hx hb dX5_mayBe_52 rfl (lv_at hl 4 rfl) ?_
        refine lv_bipush (v := nI 7) hx hb dX5_mayBe_53 (by decide) ?_
        refine lv_icmp_ne (tgt := 63) hx hb dX5_mayBe_55 (by decide) (fun c55_150 => ?_) (fun c55_150 => ?_)
        · have c55_150 : ¬ (so = 7) := fun h9 => c55_150 ((nI_eqG (a := so) (b := 7) (by omega) (by omega)).mpr h9)
          refine lv_iload hx hb dX5_mayBe_63 (lv_at hl 1 rfl) ?_
          subst hQ
          exact rtz hx hb hr hlocks rfl bP_nar (bP_c (by unfold mayM; omega)) dX5_mayBe_65
        · have c55_150 : so = 7 := (nI_eqG (a := so) (b := 7) (by omega) (by omega)).mp c55_150
          refine lv_iload hx hb dX5_mayBe_58 (lv_at hl 0 rfl) ?_
          refine lv_goto (tgt := 65) hx hb dX5_mayBe_60 (by decide) ?_
          subst hQ
          exact rtz hx hb hr hlocks rfl bP_nar (bP_c (by unfold mayM; omega)) dX5_mayBe_65

abbrev mW (ad : Nat → Nat) (ka : Nat → ClassId) (f : Nat → Nat) (g : Nat → Nat → Nat) (t : Nat → Nat) : va_W := [(ad 0, .inr (5, [.ref (ad 1), .ref (ad 2), .ref (ad 3), .ref (ad 4), .ref (ad 5), .int (nI (f 5)), .ref (ad 6), .int (nI (f 7)), .int (nI (f 8)), .int (nI (f 9)), .int (nI (f 10)), .int (nI (f 11)), .int (nI (f 12)), .int (nI (f 13)), .ref (ad 7), .ref (ad 8), .ref (ad 9), .ref (ad 10), .ref (ad 11), .int (nI (f 19)), .int (nI (f 20)), .int (nI (f 21)), .ref (ad 12)])), (ad 1, .inl (ka 1, 5, .inl (nA (g 1)))), (ad 2, .inl (ka 2, 40, .inl (nA (g 2)))), (ad 3, .inl (ka 3, 160, .inl (nA (g 3)))), (ad 4, .inl (ka 4, 4, .inl (nA (g 4)))), (ad 5, .inl (ka 5, 4, .inl (nA (g 5)))), (ad 6, .inl (ka 6, 200, .inl (nA (g 6)))), (ad 7, .inl (ka 7, 12001, .inr (.inl (lA t)))), (ad 8, .inl (ka 8, 12001, .inl (nA (g 8)))), (ad 9, .inl (ka 9, 12001, .inl (nA (g 9)))), (ad 10, .inl (ka 10, 12001, .inl (nA (g 10)))), (ad 11, .inl (ka 11, 32768, .inl (nA (g 11)))), (ad 12, .inl (ka 12, 64, .inl (nA (g 12))))]
abbrev mT (ka : Nat → ClassId) : List (ClassId × FieldType) := [(ka 1, .int), (ka 2, .int), (ka 3, .int), (ka 4, .int), (ka 5, .int), (ka 6, .int), (ka 7, .long), (ka 8, .int), (ka 9, .byte), (ka 10, .short), (ka 11, .int), (ka 12, .int)]
/-- the sort of the statement that wish k of a host's queue is of -/
abbrev sortM (g : Nat → Nat → Nat) (x h k : Nat) : Nat := g 2 (16 + 8 * h + bitsN x (26 + 9 * h + 3 * k) 3)
abbrev hasGetM (g : Nat → Nat → Nat) (x h : Nat) : Prop := (0 < bitsN x (22 + 2 * h) 2 ∧ sortM g x h 0 = 1) ∨ (1 < bitsN x (22 + 2 * h) 2 ∧ sortM g x h 1 = 1) ∨ (2 < bitsN x (22 + 2 * h) 2 ∧ sortM g x h 2 = 1)
/-- an answer that may be none, as a long -/
def eO (o : Option Nat) : Int64 := match o with
  | none => -1
  | some x => lN x
/-- a statement whose numbers are as they must be -/
def okS (so a b c d : Nat) : Prop := so < 9 ∧ (so = 0 → a < 4 ∧ b < 4) ∧ (so = 1 → a < 4 ∧ b < 2) ∧ (so = 2 → a < 4 ∧ b < 4 ∧ c < 4 ∧ d < 2) ∧ (so = 3 → a < 4 ∧ b < 4 ∧ c < 2) ∧ (so = 6 → a < 4 ∧ b < 4) ∧ (so = 7 → a < 4 ∧ b < 2) ∧ (so = 8 → a < 2 ∧ b < 4 ∧ c ≤ 8)
theorem okS_6 {so a b c d : Nat} (h : okS so a b c d) (e : so = 6) : a < 4 ∧ b < 4 := h.2.2.2.2.2.1 e
theorem okS_7 {so a b c d : Nat} (h : okS so a b c d) (e : so = 7) : a < 4 ∧ b < 2 := h.2.2.2.2.2.2.1 e
theorem okS_8 {so a b c d : Nat} (h : okS so a b c d) (e : so = 8) : a < 2 ∧ b < 4 ∧ c ≤ 8 := h.2.2.2.2.2.2.2 e
/-- the laid programs -/
def okL (g : Nat → Nat → Nat) : Prop := ∀ h, h < 2 → g 1 (2 + h) ≤ 7 ∧ ∀ i, i < g 1 (2 + h) → okS (g 2 (16 + 8 * h + i)) (g 3 (4 * (16 + 8 * h + i))) (g 3 (4 * (16 + 8 * h + i) + 1)) (g 3 (4 * (16 + 8 * h + i) + 2)) (g 3 (4 * (16 + 8 * h + i) + 3))
/-- a state of the laid programs -/
def wfM (g : Nat → Nat → Nat) (x : Nat) : Prop := x < 2 ^ 48 ∧ ∀ h, h < 2 → bitsN x (16 + 3 * h) 3 ≤ g 1 (2 + h) ∧ ∀ k, k < bitsN x (22 + 2 * h) 2 → bitsN x (26 + 9 * h + 3 * k) 3 < g 1 (2 + h) ∧ sortM g x h k < 4
/-- what host h's statement at place p makes of a state; n wishes; k the statement's row -/
def doesM2 (g : Nat → Nat → Nat) (x h p n k : Nat) : Option Nat :=
  if g 2 k = 4 then (if hasGetM g x h then none else some (withN x (16 + 3 * h) 3 (p + 1)))
  else if g 2 k = 5 then (if n = 0 then some (withN x (16 + 3 * h) 3 (p + 1)) else none)
  else if g 2 k = 6 then some (withN (withN x (16 + 3 * h) 3 (p + 1)) (2 * g 3 (4 * k)) 2 (g 3 (4 * k + 1)))
  else if g 2 k = 7 then some (withN (withN x (16 + 3 * h) 3 (p + 1)) (8 + 4 * h + 2 * g 3 (4 * k + 1)) 2 (bitsN x (2 * g 3 (4 * k)) 2))
  else if g 2 k = 8 then
    (if bitsN x (8 + 4 * h + 2 * g 3 (4 * k)) 2 = g 3 (4 * k + 1) then
      (if p + 1 + g 3 (4 * k + 2) ≤ g 1 (2 + h) then some (withN x (16 + 3 * h) 3 (p + 1 + g 3 (4 * k + 2))) else some (withN x (16 + 3 * h) 3 (g 1 (2 + h))))
    else if p + 1 ≤ g 1 (2 + h) then some (withN x (16 + 3 * h) 3 (p + 1)) else some (withN x (16 + 3 * h) 3 (g 1 (2 + h))))
  else if n = 3 then none
  else some (withN (withN (withN x (16 + 3 * h) 3 (p + 1)) (26 + 9 * h + 3 * n) 3 p) (22 + 2 * h) 2 (n + 1))
def doesM (g : Nat → Nat → Nat) (x h : Nat) : Option Nat :=
  if bitsN x (44 + h) 1 = 1 then none else if bitsN x 46 2 = h + 1 then none else if bitsN x (16 + 3 * h) 3 = g 1 (2 + h) then none
  else doesM2 g x h (bitsN x (16 + 3 * h) 3) (bitsN x (22 + 2 * h) 2) (16 + 8 * h + bitsN x (16 + 3 * h) 3)
set_option maxHeartbeats 4000000 in
set_option maxRecDepth 100000 in
theorem c_X5_sortOf (l : Launch) (D : va_G) (ad : Nat → Nat) (ka : Nat → ClassId) (f : Nat → Nat) (g : Nat → Nat → Nat) (t : Nat → Nat) (sx : Nat) (h : Nat) (k : Nat) (hg : ∀ a i, g a i < 2147483648) (hsx : sx < 2 ^ 48) (hh : h < 2) (hk : k < 3) : Met l yX5_sortOf (.code yX5_sortOf cX5_sortOf 5 (some .int) :: wsL_law) ({ frames := 1, cells := 0, slots := 0, locals := 23 }) (va_Pc [.ref (ad 0), .long (lN sx), .int (nI h), .int (nI k)] (PR D (mW ad ka f g t) (mT ka))) (QrI (nI (sortM g sx h k))) 0 0 (fun _ => False) := by
  refine Met.ofW (cc := cX5_sortOf) (maxL := 5) (ret := (some .int)) (by decide) rfl ?_
  intro p e s m args below meth c s₁ B hml hv
  obtain ⟨rfl, hP, hK⟩ := hv
  have hx := B.exec
  have hb := B.bytes
  have hr := B.returns
  have hts := atoms_spec (ws := .code yX5_sortOf cX5_sortOf 5 (some .int) :: wsL_law) B.pre
  have hU : ∀ w ∈ wsL_law, w.before _ s = true := fun w h => hts w (List.mem_cons_of_mem _ h)
  have hown : s.vm.findClass RX5 = some m.cls := findClass_of_methodNamed B.named
  have hlocks := B.notSynchronized
  generalize hQ : MQ _ _ _ _ _ _ _ = Q
  have hl := lv_entry ([.ref (ad 0), .long (lN sx), .int (nI h), .int (nI k)]) (n := 5) (Nat.le_of_ble_eq_true rfl)
  rw [lg_entry_eq]
  generalize (lg_sl ([.ref (ad 0), .long (lN sx), .int (nI h), .int (nI k)]) ++ List.replicate (5 - (lg_sl ([.ref (ad 0), .long (lN sx), .int (nI h), .int (nI k)])).length) Slot.unset).toArray = ls at hl ⊢
  have hl : lv_has ls 5 [(0, .ref (ad 0)), (1, .long (lN sx)), (3, .int (nI h)), (4, .int (nI k))] := hl
  refine lv_aload_n hx hb dX5_sortOf_0 rfl (lv_at hl 0 rfl) ?_
  refine va_get (D := D) (ci := 5) (v := .ref (ad 2)) (C := RX5) (T := TX5) (N := 23) hx hb hU iX5 hown hK hP 0 rfl rfl 1 (by decide) (hU _ mU_76) (fun _ h9 => h9) rfl dX5_sortOf_1 ?_
  refine lv_bipush (v := nI 16) hx hb dX5_sortOf_4 (by decide) ?_
  refine lv_bipush (v := nI 8) hx hb dX5_sortOf_6 (by decide) ?_
  refine lv_iload_n hx hb dX5_sortOf_8 rfl (lv_at hl 2 rfl) ?_
  refine lv_imul hx hb dX5_sortOf_9 ?_
  refine lv_topE (nI (8 * h)) (pk_mul _ _) ?_
  refine lv_iadd hx hb dX5_sortOf_10 ?_
  refine lv_topE (nI (16 + (8 * h))) (nI_add _ _) ?_
  refine lv_lload_n hx hb dX5_sortOf_11 rfl (lv_at hl 1 rfl) ?_
  refine lv_bipush (v := nI 26) hx hb dX5_sortOf_12 (by decide) ?_
  refine lv_bipush (v := nI 9) hx hb dX5_sortOf_14 (by decide) ?_
  refine lv_iload_n hx hb dX5_sortOf_16 rfl (lv_at hl 2 rfl) ?_
  refine lv_imul hx hb dX5_sortOf_17 ?_
  refine lv_topE (nI (9 * h)) (pk_mul _ _) ?_
  refine lv_iadd hx hb dX5_sortOf_18 ?_
  refine lv_topE (nI (26 + (9 * h))) (nI_add _ _) ?_
  refine lv_iconst (v := nI 3) hx hb dX5_sortOf_19 (by decide) ?_
  refine lv_iload hx hb dX5_sortOf_20 (lv_at hl 3 rfl) ?_
  refine lv_imul hx hb dX5_sortOf_22 ?_
  refine lv_topE (nI (3 * k)) (pk_mul _ _) ?_
  refine lv_iadd hx hb dX5_sortOf_23 ?_
  refine lv_topE (nI ((26 + (9 * h)) + (3 * k))) (nI_add _ _) ?_
  refine lv_iconst (v := nI 3) hx hb dX5_sortOf_24 (by decide) ?_
  refine cSi (As := [.long (lN sx), .int (nI ((26 + (9 * h)) + (3 * k))), .int (nI 3)]) (rest := [.int (nI (16 + (8 * h))), .ref (ad 2)]) ⟨hx, hb, hml, hown, hts⟩ (c_X5_bits l  sx ((26 + (9 * h)) + (3 * k)) 3 (by omega) (by omega) (by omega)) (va_cwS 3 hts (gS mU_503 mU_504 mU_6 mU_505) rfl rfl rfl (by decide +kernel) ⟨Nat.le_of_ble_eq_true rfl, Nat.le_of_ble_eq_true rfl⟩) fbU (fun _ _ _ => trivial) rfl hl.1 rfl (Nat.le_of_ble_eq_true rfl) dX5_sortOf_25 ⟨Nat.zero_le _, Nat.zero_le _⟩ ?_
  have hf_1 : bitsN sx ((26 + (9 * h)) + (3 * k)) 3 < 2 ^ 3 := bitsN_lt _ _ _
  refine lv_iadd hx hb dX5_sortOf_28 ?_
  refine lv_topE (nI ((16 + (8 * h)) + (bitsN sx ((26 + (9 * h)) + (3 * k)) 3))) (nI_add _ _) ?_
  refine n_iald hx hb hK hP 2 1 rfl rfl (i := (16 + (8 * h)) + (bitsN sx ((26 + (9 * h)) + (3 * k)) 3)) (by omega) (by decide) dX5_sortOf_29 ?_
  have hb_2 := hg 2 ((16 + (8 * h)) + (bitsN sx ((26 + (9 * h)) + (3 * k)) 3))
  subst hQ
  exact rti hx hb hr hlocks rfl (rfl) dX5_sortOf_30

set_option maxHeartbeats 4000000 in
set_option maxRecDepth 100000 in
theorem c_X5_hasGet (l : Launch) (D : va_G) (ad : Nat → Nat) (ka : Nat → ClassId) (f : Nat → Nat) (g : Nat → Nat → Nat) (t : Nat → Nat) (sx : Nat) (h : Nat) (hg : ∀ a i, g a i < 2147483648) (hsx : sx < 2 ^ 48) (hh : h < 2) : Met l yX5_hasGet (.code yX5_hasGet cX5_hasGet 5 (some .boolean) :: wsL_law) ({ frames := 2, cells := 0, slots := 0, locals := 47 }) (va_Pc [.ref (ad 0), .long (lN sx), .int (nI h)] (PR D (mW ad ka f g t) (mT ka))) (QrI (bP (hasGetM g sx h))) 0 0 (fun _ => False) := by
  refine Met.ofW (cc := cX5_hasGet) (maxL := 5) (ret := (some .boolean)) (by decide) rfl ?_
  intro p e s m args below meth c s₁ B hml hv
  obtain ⟨rfl, hP, hK⟩ := hv
  have hx := B.exec
  have hb := B.bytes
  have hr := B.returns
  have hts := atoms_spec (ws := .code yX5_hasGet cX5_hasGet 5 (some .boolean) :: wsL_law) B.pre
  have hU : ∀ w ∈ wsL_law, w.before _ s = true := fun w h => hts w (List.mem_cons_of_mem _ h)
  have hown : s.vm.findClass RX5 = some m.cls := findClass_of_methodNamed B.named
  have hlocks := B.notSynchronized
  generalize hQ : MQ _ _ _ _ _ _ _ = Q
  have hl := lv_entry ([.ref (ad 0), .long (lN sx), .int (nI h)]) (n := 5) (Nat.le_of_ble_eq_true rfl)
  rw [lg_entry_eq]
  generalize (lg_sl ([.ref (ad 0), .long (lN sx), .int (nI h)]) ++ List.replicate (5 - (lg_sl ([.ref (ad 0), .long (lN sx), .int (nI h)])).length) Slot.unset).toArray = ls at hl ⊢
  have hl : lv_has ls 5 [(0, .ref (ad 0)), (1, .long (lN sx)), (3, .int (nI h))] := hl
  refine lv_iconst (v := nI 0) hx hb dX5_hasGet_0 (by decide) ?_
  refine lv_istore (lv' := [(4, .int (nI 0)), (0, .ref (ad 0)), (1, .long (lN sx)), (3, .int (nI h))]) hx hb dX5_hasGet_1 hl (by decide) rfl (fun ls hl => ?_)
  refine lv_iload hx hb dX5_hasGet_3 (lv_at hl 0 rfl) ?_
  refine lv_lload_n hx hb dX5_hasGet_5 rfl (lv_at hl 2 rfl) ?_
  refine lv_iload_n hx hb dX5_hasGet_6 rfl (lv_at hl 3 rfl) ?_
  refine cSi (As := [.long (lN sx), .int (nI h)]) (rest := [.int (nI 0)]) ⟨hx, hb, hml, hown, hts⟩ (c_X5_wishes l  sx h (by omega) (by omega)) (va_cwS 2 hts (gS mU_506 mU_507 mU_6 mU_508) rfl rfl rfl (by decide +kernel) ⟨Nat.le_of_ble_eq_true rfl, Nat.le_of_ble_eq_true rfl⟩) fbU (fun _ _ _ => trivial) rfl hl.1 rfl (Nat.le_of_ble_eq_true rfl) dX5_hasGet_7 ⟨Nat.zero_le _, Nat.zero_le _⟩ ?_
  have hf_1 : bitsN sx (22 + 2 * h) 2 < 4 := bitsN_lt _ _ _
  refine lv_icmp_ge (tgt := 33) hx hb dX5_hasGet_10 (by decide) (fun c10_2 => ?_) (fun c10_2 => ?_)
  · have c10_2 : bitsN sx (22 + 2 * h) 2 ≤ 0 := (nI_leI (a := bitsN sx (22 + 2 * h) 2) (b := 0) (by omega) (by omega)).mp c10_2
    refine lv_iconst (v := nI 0) hx hb dX5_hasGet_33 (by decide) ?_
    subst hQ
    exact rtz hx hb hr hlocks rfl rfl (bP_0 (by unfold hasGetM; omega)) dX5_hasGet_34
  · have c10_2 : ¬ (bitsN sx (22 + 2 * h) 2 ≤ 0) := fun h9 => c10_2 ((nI_leI (a := bitsN sx (22 + 2 * h) 2) (b := 0) (by omega) (by omega)).mpr h9)
    refine lv_aload_n hx hb dX5_hasGet_13 rfl (lv_at hl 1 rfl) ?_
    refine lv_lload_n hx hb dX5_hasGet_14 rfl (lv_at hl 2 rfl) ?_
    refine lv_iload_n hx hb dX5_hasGet_15 rfl (lv_at hl 3 rfl) ?_
    refine lv_iload hx hb dX5_hasGet_16 (lv_at hl 0 rfl) ?_
    refine cVi (As := [.long (lN sx), .int (nI h), .int (nI 0)]) (rest := []) ⟨hx, hb, hml, hown, hts⟩ (c_X5_sortOf l D ad ka f g t sx h 0 (hg) (by omega) (by omega) (by omega)) (cwV 3 hts (gV mU_513 mU_514 mU_515 mU_6 mU_516) rfl rfl rfl (by decide +kernel) ⟨Nat.le_of_ble_eq_true rfl, Nat.le_of_ble_eq_true rfl⟩) fbR (va_recv hK hP (ci := 5) (q0 := 0) rfl rfl) (PR.of hP hK) rfl hl.1 rfl (Nat.le_of_ble_eq_true rfl) dX5_hasGet_18 ⟨Nat.zero_le _, Nat.zero_le _⟩ ?_
    have hf_3 : sortM g sx h 0 < 2147483648 := hg _ _
    refine lv_iconst (v := nI 1) hx hb dX5_hasGet_21 (by decide) ?_
    refine lv_icmp_ne (tgt := 27) hx hb dX5_hasGet_22 (by decide) (fun c22_4 => ?_) (fun c22_4 => ?_)
    · have c22_4 : ¬ (sortM g sx h 0 = 1) := fun h9 => c22_4 ((nI_eqG (a := sortM g sx h 0) (b := 1) (by omega) (by omega)).mpr h9)
      refine lv_iinc (v := nI 1) (lv' := [(4, .int (nI 1)), (0, .ref (ad 0)), (1, .long (lN sx)), (3, .int (nI h))]) hx hb dX5_hasGet_27 hl (k := 0) rfl (by rw [show Int32.ofInt 1 = nI 1 from by decide, nI_add]) (by decide) rfl (fun ls hl => ?_)
      refine lv_goto (tgt := 3) hx hb dX5_hasGet_30 (by decide) ?_
      refine lv_iload hx hb dX5_hasGet_3 (lv_at hl 0 rfl) ?_
      refine lv_lload_n hx hb dX5_hasGet_5 rfl (lv_at hl 2 rfl) ?_
      refine lv_iload_n hx hb dX5_hasGet_6 rfl (lv_at hl 3 rfl) ?_
      refine cSi (As := [.long (lN sx), .int (nI h)]) (rest := [.int (nI 1)]) ⟨hx, hb, hml, hown, hts⟩ (c_X5_wishes l  sx h (by omega) (by omega)) (va_cwS 2 hts (gS mU_506 mU_507 mU_6 mU_508) rfl rfl rfl (by decide +kernel) ⟨Nat.le_of_ble_eq_true rfl, Nat.le_of_ble_eq_true rfl⟩) fbU (fun _ _ _ => trivial) rfl hl.1 rfl (Nat.le_of_ble_eq_true rfl) dX5_hasGet_7 ⟨Nat.zero_le _, Nat.zero_le _⟩ ?_
      have hf_5 : bitsN sx (22 + 2 * h) 2 < 4 := bitsN_lt _ _ _
      refine lv_icmp_ge (tgt := 33) hx hb dX5_hasGet_10 (by decide) (fun c10_6 => ?_) (fun c10_6 => ?_)
      · have c10_6 : bitsN sx (22 + 2 * h) 2 ≤ 1 := (nI_leI (a := bitsN sx (22 + 2 * h) 2) (b := 1) (by omega) (by omega)).mp c10_6
        refine lv_iconst (v := nI 0) hx hb dX5_hasGet_33 (by decide) ?_
        subst hQ
        exact rtz hx hb hr hlocks rfl rfl (bP_0 (by unfold hasGetM; omega)) dX5_hasGet_34
      · have c10_6 : ¬ (bitsN sx (22 + 2 * h) 2 ≤ 1) := fun h9 => c10_6 ((nI_leI (a := bitsN sx (22 + 2 * h) 2) (b := 1) (by omega) (by omega)).mpr h9)
        refine lv_aload_n hx hb dX5_hasGet_13 rfl (lv_at hl 1 rfl) ?_
        refine lv_lload_n hx hb dX5_hasGet_14 rfl (lv_at hl 2 rfl) ?_
        refine lv_iload_n hx hb dX5_hasGet_15 rfl (lv_at hl 3 rfl) ?_
        refine lv_iload hx hb dX5_hasGet_16 (lv_at hl 0 rfl) ?_
        refine cVi (As := [.long (lN sx), .int (nI h), .int (nI 1)]) (rest := []) ⟨hx, hb, hml, hown, hts⟩ (c_X5_sortOf l D ad ka f g t sx h 1 (hg) (by omega) (by omega) (by omega)) (cwV 3 hts (gV mU_513 mU_514 mU_515 mU_6 mU_516) rfl rfl rfl (by decide +kernel) ⟨Nat.le_of_ble_eq_true rfl, Nat.le_of_ble_eq_true rfl⟩) fbR (va_recv hK hP (ci := 5) (q0 := 0) rfl rfl) (PR.of hP hK) rfl hl.1 rfl (Nat.le_of_ble_eq_true rfl) dX5_hasGet_18 ⟨Nat.zero_le _, Nat.zero_le _⟩ ?_
        have hf_7 : sortM g sx h 1 < 2147483648 := hg _ _
        refine lv_iconst (v := nI 1) hx hb dX5_hasGet_21 (by decide) ?_
        refine lv_icmp_ne (tgt := 27) hx hb dX5_hasGet_22 (by decide) (fun c22_8 => ?_) (fun c22_8 => ?_)
        · have c22_8 : ¬ (sortM g sx h 1 = 1) := fun h9 => c22_8 ((nI_eqG (a := sortM g sx h 1) (b := 1) (by omega) (by omega)).mpr h9)
          refine lv_iinc (v := nI 2) (lv' := [(4, .int (nI 2)), (0, .ref (ad 0)), (1, .long (lN sx)), (3, .int (nI h))]) hx hb dX5_hasGet_27 hl (k := 0) rfl (by rw [show Int32.ofInt 1 = nI 1 from by decide, nI_add]) (by decide) rfl (fun ls hl => ?_)
          refine lv_goto (tgt := 3) hx hb dX5_hasGet_30 (by decide) ?_
          refine lv_iload hx hb dX5_hasGet_3 (lv_at hl 0 rfl) ?_
          refine lv_lload_n hx hb dX5_hasGet_5 rfl (lv_at hl 2 rfl) ?_
          refine lv_iload_n hx hb dX5_hasGet_6 rfl (lv_at hl 3 rfl) ?_
          refine cSi (As := [.long (lN sx), .int (nI h)]) (rest := [.int (nI 2)]) ⟨hx, hb, hml, hown, hts⟩ (c_X5_wishes l  sx h (by omega) (by omega)) (va_cwS 2 hts (gS mU_506 mU_507 mU_6 mU_508) rfl rfl rfl (by decide +kernel) ⟨Nat.le_of_ble_eq_true rfl, Nat.le_of_ble_eq_true rfl⟩) fbU (fun _ _ _ => trivial) rfl hl.1 rfl (Nat.le_of_ble_eq_true rfl) dX5_hasGet_7 ⟨Nat.zero_le _, Nat.zero_le _⟩ ?_
          have hf_9 : bitsN sx (22 + 2 * h) 2 < 4 := bitsN_lt _ _ _
          refine lv_icmp_ge (tgt := 33) hx hb dX5_hasGet_10 (by decide) (fun c10_10 => ?_) (fun c10_10 => ?_)
          · have c10_10 : bitsN sx (22 + 2 * h) 2 ≤ 2 := (nI_leI (a := bitsN sx (22 + 2 * h) 2) (b := 2) (by omega) (by omega)).mp c10_10
            refine lv_iconst (v := nI 0) hx hb dX5_hasGet_33 (by decide) ?_
            subst hQ
            exact rtz hx hb hr hlocks rfl rfl (bP_0 (by unfold hasGetM; omega)) dX5_hasGet_34
          · have c10_10 : ¬ (bitsN sx (22 + 2 * h) 2 ≤ 2) := fun h9 => c10_10 ((nI_leI (a := bitsN sx (22 + 2 * h) 2) (b := 2) (by omega) (by omega)).mpr h9)
            refine lv_aload_n hx hb dX5_hasGet_13 rfl (lv_at hl 1 rfl) ?_
            refine lv_lload_n hx hb dX5_hasGet_14 rfl (lv_at hl 2 rfl) ?_
            refine lv_iload_n hx hb dX5_hasGet_15 rfl (lv_at hl 3 rfl) ?_
            refine lv_iload hx hb dX5_hasGet_16 (lv_at hl 0 rfl) ?_
            refine cVi (As := [.long (lN sx), .int (nI h), .int (nI 2)]) (rest := []) ⟨hx, hb, hml, hown, hts⟩ (c_X5_sortOf l D ad ka f g t sx h 2 (hg) (by omega) (by omega) (by omega)) (cwV 3 hts (gV mU_513 mU_514 mU_515 mU_6 mU_516) rfl rfl rfl (by decide +kernel) ⟨Nat.le_of_ble_eq_true rfl, Nat.le_of_ble_eq_true rfl⟩) fbR (va_recv hK hP (ci := 5) (q0 := 0) rfl rfl) (PR.of hP hK) rfl hl.1 rfl (Nat.le_of_ble_eq_true rfl) dX5_hasGet_18 ⟨Nat.zero_le _, Nat.zero_le _⟩ ?_
            have hf_11 : sortM g sx h 2 < 2147483648 := hg _ _
            refine lv_iconst (v := nI 1) hx hb dX5_hasGet_21 (by decide) ?_
            refine lv_icmp_ne (tgt := 27) hx hb dX5_hasGet_22 (by decide) (fun c22_12 => ?_) (fun c22_12 => ?_)
            · have c22_12 : ¬ (sortM g sx h 2 = 1) := fun h9 => c22_12 ((nI_eqG (a := sortM g sx h 2) (b := 1) (by omega) (by omega)).mpr h9)
              refine lv_iinc (v := nI 3) (lv' := [(4, .int (nI 3)), (0, .ref (ad 0)), (1, .long (lN sx)), (3, .int (nI h))]) hx hb dX5_hasGet_27 hl (k := 0) rfl (by rw [show Int32.ofInt 1 = nI 1 from by decide, nI_add]) (by decide) rfl (fun ls hl => ?_)
              refine lv_goto (tgt := 3) hx hb dX5_hasGet_30 (by decide) ?_
              refine lv_iload hx hb dX5_hasGet_3 (lv_at hl 0 rfl) ?_
              refine lv_lload_n hx hb dX5_hasGet_5 rfl (lv_at hl 2 rfl) ?_
              refine lv_iload_n hx hb dX5_hasGet_6 rfl (lv_at hl 3 rfl) ?_
              refine cSi (As := [.long (lN sx), .int (nI h)]) (rest := [.int (nI 3)]) ⟨hx, hb, hml, hown, hts⟩ (c_X5_wishes l  sx h (by omega) (by omega)) (va_cwS 2 hts (gS mU_506 mU_507 mU_6 mU_508) rfl rfl rfl (by decide +kernel) ⟨Nat.le_of_ble_eq_true rfl, Nat.le_of_ble_eq_true rfl⟩) fbU (fun _ _ _ => trivial) rfl hl.1 rfl (Nat.le_of_ble_eq_true rfl) dX5_hasGet_7 ⟨Nat.zero_le _, Nat.zero_le _⟩ ?_
              have hf_13 : bitsN sx (22 + 2 * h) 2 < 4 := bitsN_lt _ _ _
              refine lv_icmp_ge (tgt := 33) hx hb dX5_hasGet_10 (by decide) (fun c10_14 => ?_) (fun c10_14 => ?_)
              · have c10_14 : bitsN sx (22 + 2 * h) 2 ≤ 3 := (nI_leI (a := bitsN sx (22 + 2 * h) 2) (b := 3) (by omega) (by omega)).mp c10_14
                refine lv_iconst (v := nI 0) hx hb dX5_hasGet_33 (by decide) ?_
                subst hQ
                exact rtz hx hb hr hlocks rfl rfl (bP_0 (by unfold hasGetM; omega)) dX5_hasGet_34
              · have c10_14 : ¬ (bitsN sx (22 + 2 * h) 2 ≤ 3) := fun h9 => c10_14 ((nI_leI (a := bitsN sx (22 + 2 * h) 2) (b := 3) (by omega) (by omega)).mpr h9)
                exfalso; omega
            · have c22_12 : sortM g sx h 2 = 1 := (nI_eqG (a := sortM g sx h 2) (b := 1) (by omega) (by omega)).mp c22_12
              refine lv_iconst (v := nI 1) hx hb dX5_hasGet_25 (by decide) ?_
              subst hQ
              exact rtz hx hb hr hlocks rfl rfl (bP_1 (by unfold hasGetM; omega)) dX5_hasGet_26
        · have c22_8 : sortM g sx h 1 = 1 := (nI_eqG (a := sortM g sx h 1) (b := 1) (by omega) (by omega)).mp c22_8
          refine lv_iconst (v := nI 1) hx hb dX5_hasGet_25 (by decide) ?_
          subst hQ
          exact rtz hx hb hr hlocks rfl rfl (bP_1 (by unfold hasGetM; omega)) dX5_hasGet_26
    · have c22_4 : sortM g sx h 0 = 1 := (nI_eqG (a := sortM g sx h 0) (b := 1) (by omega) (by omega)).mp c22_4
      refine lv_iconst (v := nI 1) hx hb dX5_hasGet_25 (by decide) ?_
      subst hQ
      exact rtz hx hb hr hlocks rfl rfl (bP_1 (by unfold hasGetM; omega)) dX5_hasGet_26

set_option maxHeartbeats 4000000 in
set_option maxRecDepth 100000 in
theorem c_X5_does (l : Launch) (D : va_G) (ad : Nat → Nat) (ka : Nat → ClassId) (f : Nat → Nat) (g : Nat → Nat → Nat) (t : Nat → Nat) (sx : Nat) (h : Nat) (hg : ∀ a i, g a i < 2147483648) (hL : okL g) (hwf : wfM g sx) (hh : h < 2) : Met l yX5_does (.code yX5_does cX5_does 12 (some .long) :: wsL_law) ({ frames := 3, cells := 0, slots := 0, locals := 71 }) (va_Pc [.ref (ad 0), .long (lN sx), .int (nI h)] (PR D (mW ad ka f g t) (mT ka))) (QrL (eO (doesM g sx h))) 0 0 (fun _ => False) := by
  refine Met.ofW (cc := cX5_does) (maxL := 12) (ret := (some .long)) (by decide) rfl ?_
  intro p e s m args below meth c s₁ B hml hv
  obtain ⟨rfl, hP, hK⟩ := hv
  have hx := B.exec
  have hb := B.bytes
  have hr := B.returns
  have hts := atoms_spec (ws := .code yX5_does cX5_does 12 (some .long) :: wsL_law) B.pre
  have hU : ∀ w ∈ wsL_law, w.before _ s = true := fun w h => hts w (List.mem_cons_of_mem _ h)
  have hown : s.vm.findClass RX5 = some m.cls := findClass_of_methodNamed B.named
  have hlocks := B.notSynchronized
  generalize hQ : MQ _ _ _ _ _ _ _ = Q
  have hl := lv_entry ([.ref (ad 0), .long (lN sx), .int (nI h)]) (n := 12) (Nat.le_of_ble_eq_true rfl)
  rw [lg_entry_eq]
  generalize (lg_sl ([.ref (ad 0), .long (lN sx), .int (nI h)]) ++ List.replicate (12 - (lg_sl ([.ref (ad 0), .long (lN sx), .int (nI h)])).length) Slot.unset).toArray = ls at hl ⊢
  have hl : lv_has ls 12 [(0, .ref (ad 0)), (1, .long (lN sx)), (3, .int (nI h))] := hl
  obtain ⟨hsx, hw0⟩ := hwf
  have hw1 := (hw0 h hh).1
  have hl7 := (hL h hh).1
  refine lv_lload_n hx hb dX5_does_0 rfl (lv_at hl 1 rfl) ?_
  refine lv_iload_n hx hb dX5_does_1 rfl (lv_at hl 2 rfl) ?_
  refine cSi (As := [.long (lN sx), .int (nI h)]) (rest := []) ⟨hx, hb, hml, hown, hts⟩ (c_X5_atOf l  sx h (by omega) (by omega)) (va_cwS 2 hts (gS mU_500 mU_501 mU_6 mU_502) rfl rfl rfl (by decide +kernel) ⟨Nat.le_of_ble_eq_true rfl, Nat.le_of_ble_eq_true rfl⟩) fbU (fun _ _ _ => trivial) rfl hl.1 rfl (Nat.le_of_ble_eq_true rfl) dX5_does_2 ⟨Nat.zero_le _, Nat.zero_le _⟩ ?_
  have hf_1 : bitsN sx (16 + 3 * h) 3 < 8 := bitsN_lt _ _ _
  refine lv_istore (lv' := [(4, .int (nI (bitsN sx (16 + 3 * h) 3))), (0, .ref (ad 0)), (1, .long (lN sx)), (3, .int (nI h))]) hx hb dX5_does_5 hl (by decide) rfl (fun ls hl => ?_)
  refine lv_lload_n hx hb dX5_does_7 rfl (lv_at hl 2 rfl) ?_
  refine lv_iload_n hx hb dX5_does_8 rfl (lv_at hl 3 rfl) ?_
  refine cSi (As := [.long (lN sx), .int (nI h)]) (rest := []) ⟨hx, hb, hml, hown, hts⟩ (c_X5_wishes l  sx h (by omega) (by omega)) (va_cwS 2 hts (gS mU_506 mU_507 mU_6 mU_508) rfl rfl rfl (by decide +kernel) ⟨Nat.le_of_ble_eq_true rfl, Nat.le_of_ble_eq_true rfl⟩) fbU (fun _ _ _ => trivial) rfl hl.1 rfl (Nat.le_of_ble_eq_true rfl) dX5_does_9 ⟨Nat.zero_le _, Nat.zero_le _⟩ ?_
  have hf_2 : bitsN sx (22 + 2 * h) 2 < 4 := bitsN_lt _ _ _
  refine lv_istore (lv' := [(5, .int (nI (bitsN sx (22 + 2 * h) 2))), (4, .int (nI (bitsN sx (16 + 3 * h) 3))), (0, .ref (ad 0)), (1, .long (lN sx)), (3, .int (nI h))]) hx hb dX5_does_12 hl (by decide) rfl (fun ls hl => ?_)
  refine lv_lload_n hx hb dX5_does_14 rfl (lv_at hl 3 rfl) ?_
  refine lv_bipush (v := nI 44) hx hb dX5_does_15 (by decide) ?_
  refine lv_iload_n hx hb dX5_does_17 rfl (lv_at hl 4 rfl) ?_
  refine lv_iadd hx hb dX5_does_18 ?_
  refine lv_topE (nI (44 + h)) (nI_add _ _) ?_
  refine lv_iconst (v := nI 1) hx hb dX5_does_19 (by decide) ?_
  refine cSi (As := [.long (lN sx), .int (nI (44 + h)), .int (nI 1)]) (rest := []) ⟨hx, hb, hml, hown, hts⟩ (c_X5_bits l  sx (44 + h) 1 (by omega) (by omega) (by omega)) (va_cwS 3 hts (gS mU_503 mU_504 mU_6 mU_505) rfl rfl rfl (by decide +kernel) ⟨Nat.le_of_ble_eq_true rfl, Nat.le_of_ble_eq_true rfl⟩) fbU (fun _ _ _ => trivial) rfl hl.1 rfl (Nat.le_of_ble_eq_true rfl) dX5_does_20 ⟨Nat.zero_le _, Nat.zero_le _⟩ ?_
  have hf_3 : bitsN sx (44 + h) 1 < 2 ^ 1 := bitsN_lt _ _ _
  refine lv_iconst (v := nI 1) hx hb dX5_does_23 (by decide) ?_
  refine lv_icmp_eq (tgt := 53) hx hb dX5_does_24 (by decide) (fun c24_4 => ?_) (fun c24_4 => ?_)
  · have c24_4 : bitsN sx (44 + h) 1 = 1 := (nI_eqG (a := bitsN sx (44 + h) 1) (b := 1) (by omega) (by omega)).mp c24_4
    refine lv_ldc2 (v := (-1)) hx hb hown (hU _ mU_483) dX5_does_53 ?_
    subst hQ
    exact rtl hx hb hr hlocks rfl (by unfold doesM; unfold doesM2; (try first | rw [if_pos c24_4] | rw [if_neg c24_4]); rfl) dX5_does_56
  · have c24_4 : ¬ (bitsN sx (44 + h) 1 = 1) := fun h9 => c24_4 ((nI_eqG (a := bitsN sx (44 + h) 1) (b := 1) (by omega) (by omega)).mpr h9)
    refine lv_lload_n hx hb dX5_does_27 rfl (lv_at hl 3 rfl) ?_
    refine lv_bipush (v := nI 46) hx hb dX5_does_28 (by decide) ?_
    refine lv_iconst (v := nI 2) hx hb dX5_does_30 (by decide) ?_
    refine cSi (As := [.long (lN sx), .int (nI 46), .int (nI 2)]) (rest := []) ⟨hx, hb, hml, hown, hts⟩ (c_X5_bits l  sx 46 2 (by omega) (by omega) (by omega)) (va_cwS 3 hts (gS mU_503 mU_504 mU_6 mU_505) rfl rfl rfl (by decide +kernel) ⟨Nat.le_of_ble_eq_true rfl, Nat.le_of_ble_eq_true rfl⟩) fbU (fun _ _ _ => trivial) rfl hl.1 rfl (Nat.le_of_ble_eq_true rfl) dX5_does_31 ⟨Nat.zero_le _, Nat.zero_le _⟩ ?_
    have hf_5 : bitsN sx 46 2 < 2 ^ 2 := bitsN_lt _ _ _
    refine lv_iload_n hx hb dX5_does_34 rfl (lv_at hl 4 rfl) ?_
    refine lv_iconst (v := nI 1) hx hb dX5_does_35 (by decide) ?_
    refine lv_iadd hx hb dX5_does_36 ?_
    refine lv_topE (nI (h + 1)) (nI_add _ _) ?_
    refine lv_icmp_eq (tgt := 53) hx hb dX5_does_37 (by decide) (fun c37_6 => ?_) (fun c37_6 => ?_)
    · have c37_6 : bitsN sx 46 2 = h + 1 := (nI_eqG (a := bitsN sx 46 2) (b := h + 1) (by omega) (by omega)).mp c37_6
      refine lv_ldc2 (v := (-1)) hx hb hown (hU _ mU_483) dX5_does_53 ?_
      subst hQ
      exact rtl hx hb hr hlocks rfl (by unfold doesM; unfold doesM2; (try first | rw [if_pos c24_4] | rw [if_neg c24_4]); (try first | rw [if_pos c37_6] | rw [if_neg c37_6]); rfl) dX5_does_56
    · have c37_6 : ¬ (bitsN sx 46 2 = h + 1) := fun h9 => c37_6 ((nI_eqG (a := bitsN sx 46 2) (b := h + 1) (by omega) (by omega)).mpr h9)
      refine lv_iload hx hb dX5_does_40 (lv_at hl 1 rfl) ?_
      refine lv_aload_n hx hb dX5_does_42 rfl (lv_at hl 2 rfl) ?_
      refine va_get (D := D) (ci := 5) (v := .ref (ad 1)) (C := RX5) (T := TX5) (N := 23) hx hb hU iX5 hown hK hP 0 rfl rfl 0 (by decide) (hU _ mU_75) (fun _ h9 => h9) rfl dX5_does_43 ?_
      refine lv_iconst (v := nI 2) hx hb dX5_does_46 (by decide) ?_
      refine lv_iload_n hx hb dX5_does_47 rfl (lv_at hl 4 rfl) ?_
      refine lv_iadd hx hb dX5_does_48 ?_
      refine lv_topE (nI (2 + h)) (nI_add _ _) ?_
      refine n_iald hx hb hK hP 1 0 rfl rfl (i := 2 + h) (by omega) (by decide) dX5_does_49 ?_
      have hb_7 := hg 1 (2 + h)
      refine lv_icmp_ne (tgt := 57) hx hb dX5_does_50 (by decide) (fun c50_8 => ?_) (fun c50_8 => ?_)
      · have c50_8 : ¬ (bitsN sx (16 + 3 * h) 3 = (g 1) (2 + h)) := fun h9 => c50_8 ((nI_eqG (a := bitsN sx (16 + 3 * h) 3) (b := (g 1) (2 + h)) (by omega) (by omega)).mpr h9)
        have hso := ((hL h hh).2 (bitsN sx (16 + 3 * h) 3) (by omega)).1
        refine lv_bipush (v := nI 16) hx hb dX5_does_57 (by decide) ?_
        refine lv_bipush (v := nI 8) hx hb dX5_does_59 (by decide) ?_
        refine lv_iload_n hx hb dX5_does_61 rfl (lv_at hl 4 rfl) ?_
        refine lv_imul hx hb dX5_does_62 ?_
        refine lv_topE (nI (8 * h)) (pk_mul _ _) ?_
        refine lv_iadd hx hb dX5_does_63 ?_
        refine lv_topE (nI (16 + (8 * h))) (nI_add _ _) ?_
        refine lv_iload hx hb dX5_does_64 (lv_at hl 1 rfl) ?_
        refine lv_iadd hx hb dX5_does_66 ?_
        refine lv_topE (nI ((16 + (8 * h)) + (bitsN sx (16 + 3 * h) 3))) (nI_add _ _) ?_
        refine lv_istore (lv' := [(6, .int (nI ((16 + (8 * h)) + (bitsN sx (16 + 3 * h) 3)))), (5, .int (nI (bitsN sx (22 + 2 * h) 2))), (4, .int (nI (bitsN sx (16 + 3 * h) 3))), (0, .ref (ad 0)), (1, .long (lN sx)), (3, .int (nI h))]) hx hb dX5_does_67 hl (by decide) rfl (fun ls hl => ?_)
        refine lv_aload_n hx hb dX5_does_69 rfl (lv_at hl 3 rfl) ?_
        refine va_get (D := D) (ci := 5) (v := .ref (ad 3)) (C := RX5) (T := TX5) (N := 23) hx hb hU iX5 hown hK hP 0 rfl rfl 2 (by decide) (hU _ mU_77) (fun _ h9 => h9) rfl dX5_does_70 ?_
        refine lv_iconst (v := nI 4) hx hb dX5_does_73 (by decide) ?_
        refine lv_iload hx hb dX5_does_74 (lv_at hl 0 rfl) ?_
        refine lv_imul hx hb dX5_does_76 ?_
        refine lv_topE (nI (4 * ((16 + (8 * h)) + (bitsN sx (16 + 3 * h) 3)))) (pk_mul _ _) ?_
        refine n_iald hx hb hK hP 3 2 rfl rfl (i := 4 * ((16 + (8 * h)) + (bitsN sx (16 + 3 * h) 3))) (by omega) (by decide) dX5_does_77 ?_
        have hb_9 := hg 3 (4 * ((16 + (8 * h)) + (bitsN sx (16 + 3 * h) 3)))
        refine lv_istore (lv' := [(7, .int (nI ((g 3) (4 * ((16 + (8 * h)) + (bitsN sx (16 + 3 * h) 3)))))), (6, .int (nI ((16 + (8 * h)) + (bitsN sx (16 + 3 * h) 3)))), (5, .int (nI (bitsN sx (22 + 2 * h) 2))), (4, .int (nI (bitsN sx (16 + 3 * h) 3))), (0, .ref (ad 0)), (1, .long (lN sx)), (3, .int (nI h))]) hx hb dX5_does_78 hl (by decide) rfl (fun ls hl => ?_)
        refine lv_aload_n hx hb dX5_does_80 rfl (lv_at hl 4 rfl) ?_
        refine va_get (D := D) (ci := 5) (v := .ref (ad 3)) (C := RX5) (T := TX5) (N := 23) hx hb hU iX5 hown hK hP 0 rfl rfl 2 (by decide) (hU _ mU_77) (fun _ h9 => h9) rfl dX5_does_81 ?_
        refine lv_iconst (v := nI 4) hx hb dX5_does_84 (by decide) ?_
        refine lv_iload hx hb dX5_does_85 (lv_at hl 1 rfl) ?_
        refine lv_imul hx hb dX5_does_87 ?_
        refine lv_topE (nI (4 * ((16 + (8 * h)) + (bitsN sx (16 + 3 * h) 3)))) (pk_mul _ _) ?_
        refine lv_iconst (v := nI 1) hx hb dX5_does_88 (by decide) ?_
        refine lv_iadd hx hb dX5_does_89 ?_
        refine lv_topE (nI ((4 * ((16 + (8 * h)) + (bitsN sx (16 + 3 * h) 3))) + 1)) (nI_add _ _) ?_
        refine n_iald hx hb hK hP 3 2 rfl rfl (i := (4 * ((16 + (8 * h)) + (bitsN sx (16 + 3 * h) 3))) + 1) (by omega) (by decide) dX5_does_90 ?_
        have hb_10 := hg 3 ((4 * ((16 + (8 * h)) + (bitsN sx (16 + 3 * h) 3))) + 1)
        refine lv_istore (lv' := [(8, .int (nI ((g 3) ((4 * ((16 + (8 * h)) + (bitsN sx (16 + 3 * h) 3))) + 1)))), (7, .int (nI ((g 3) (4 * ((16 + (8 * h)) + (bitsN sx (16 + 3 * h) 3)))))), (6, .int (nI ((16 + (8 * h)) + (bitsN sx (16 + 3 * h) 3)))), (5, .int (nI (bitsN sx (22 + 2 * h) 2))), (4, .int (nI (bitsN sx (16 + 3 * h) 3))), (0, .ref (ad 0)), (1, .long (lN sx)), (3, .int (nI h))]) hx hb dX5_does_91 hl (by decide) rfl (fun ls hl => ?_)
        refine lv_lload_n hx hb dX5_does_93 rfl (lv_at hl 6 rfl) ?_
        refine lv_bipush (v := nI 16) hx hb dX5_does_94 (by decide) ?_
        refine lv_iconst (v := nI 3) hx hb dX5_does_96 (by decide) ?_
        refine lv_iload_n hx hb dX5_does_97 rfl (lv_at hl 7 rfl) ?_
        refine lv_imul hx hb dX5_does_98 ?_
        refine lv_topE (nI (3 * h)) (pk_mul _ _) ?_
        refine lv_iadd hx hb dX5_does_99 ?_
        refine lv_topE (nI (16 + (3 * h))) (nI_add _ _) ?_
        refine lv_iconst (v := nI 3) hx hb dX5_does_100 (by decide) ?_
        refine lv_iload hx hb dX5_does_101 (lv_at hl 4 rfl) ?_
        refine lv_iconst (v := nI 1) hx hb dX5_does_103 (by decide) ?_
        refine lv_iadd hx hb dX5_does_104 ?_
        refine lv_topE (nI ((bitsN sx (16 + 3 * h) 3) + 1)) (nI_add _ _) ?_
        refine cSl (As := [.long (lN sx), .int (nI (16 + (3 * h))), .int (nI 3), .int (nI ((bitsN sx (16 + 3 * h) 3) + 1))]) (rest := []) ⟨hx, hb, hml, hown, hts⟩ (c_X5_with l  sx (16 + (3 * h)) 3 ((bitsN sx (16 + 3 * h) 3) + 1) (by omega) (by omega) (by omega) (by omega)) (va_cwS 4 hts (gS mU_480 mU_481 mU_6 mU_482) rfl rfl rfl (by decide +kernel) ⟨Nat.le_of_ble_eq_true rfl, Nat.le_of_ble_eq_true rfl⟩) fbU (fun _ _ _ => trivial) rfl hl.1 rfl (Nat.le_of_ble_eq_true rfl) dX5_does_105 ⟨Nat.zero_le _, Nat.zero_le _⟩ ?_
        have hf_11 : withN sx (16 + (3 * h)) 3 ((bitsN sx (16 + 3 * h) 3) + 1) < 2 ^ 48 := withN_lt (by omega) (by omega) (by omega)
        refine lv_lstore (lv' := [(9, .long (lN (withN sx (16 + (3 * h)) 3 ((bitsN sx (16 + 3 * h) 3) + 1)))), (8, .int (nI ((g 3) ((4 * ((16 + (8 * h)) + (bitsN sx (16 + 3 * h) 3))) + 1)))), (7, .int (nI ((g 3) (4 * ((16 + (8 * h)) + (bitsN sx (16 + 3 * h) 3)))))), (6, .int (nI ((16 + (8 * h)) + (bitsN sx (16 + 3 * h) 3)))), (5, .int (nI (bitsN sx (22 + 2 * h) 2))), (4, .int (nI (bitsN sx (16 + 3 * h) 3))), (0, .ref (ad 0)), (1, .long (lN sx)), (3, .int (nI h))]) hx hb dX5_does_108 hl (by decide) rfl (fun ls hl => ?_)
        refine lv_aload_n hx hb dX5_does_110 rfl (lv_at hl 6 rfl) ?_
        refine va_get (D := D) (ci := 5) (v := .ref (ad 2)) (C := RX5) (T := TX5) (N := 23) hx hb hU iX5 hown hK hP 0 rfl rfl 1 (by decide) (hU _ mU_76) (fun _ h9 => h9) rfl dX5_does_111 ?_
        refine lv_iload hx hb dX5_does_114 (lv_at hl 3 rfl) ?_
        refine n_iald hx hb hK hP 2 1 rfl rfl (i := (16 + (8 * h)) + (bitsN sx (16 + 3 * h) 3)) (by omega) (by decide) dX5_does_116 ?_
        have hb_12 := hg 2 ((16 + (8 * h)) + (bitsN sx (16 + 3 * h) 3))
        rcases (show (g 2) ((16 + (8 * h)) + (bitsN sx (16 + 3 * h) 3)) = 4 ∨ (g 2) ((16 + (8 * h)) + (bitsN sx (16 + 3 * h) 3)) = 5 ∨ (g 2) ((16 + (8 * h)) + (bitsN sx (16 + 3 * h) 3)) = 6 ∨ (g 2) ((16 + (8 * h)) + (bitsN sx (16 + 3 * h) 3)) = 7 ∨ (g 2) ((16 + (8 * h)) + (bitsN sx (16 + 3 * h) 3)) = 8 ∨ ((g 2) ((16 + (8 * h)) + (bitsN sx (16 + 3 * h) 3)) < 4 ∨ 8 < (g 2) ((16 + (8 * h)) + (bitsN sx (16 + 3 * h) 3))) by omega) with c117_13 | c117_13 | c117_13 | c117_13 | c117_13 | c117_13
        · have hx9 : (nI ((g 2) ((16 + (8 * h)) + (bitsN sx (16 + 3 * h) 3)))).toInt = 4 := by rw [nI_toInt (show (g 2) ((16 + (8 * h)) + (bitsN sx (16 + 3 * h) 3)) < 2 ^ 31 by omega)]; omega
          refine lv_tableIn (tgt := 152) (off := 35) hx hb dX5_does_117 (by rw [hx9]; decide) (by rw [hx9]; decide) (by rw [hx9]; rfl) (by decide) ?_
          refine lv_aload_n hx hb dX5_does_152 rfl (lv_at hl 6 rfl) ?_
          refine lv_lload_n hx hb dX5_does_153 rfl (lv_at hl 7 rfl) ?_
          refine lv_iload_n hx hb dX5_does_154 rfl (lv_at hl 8 rfl) ?_
          refine cVi (As := [.long (lN sx), .int (nI h)]) (rest := []) ⟨hx, hb, hml, hown, hts⟩ (c_X5_hasGet l D ad ka f g t sx h (hg) (by omega) (by omega)) (cwV 2 hts (gV mU_509 mU_510 mU_511 mU_6 mU_512) rfl rfl rfl (by decide +kernel) ⟨Nat.le_of_ble_eq_true rfl, Nat.le_of_ble_eq_true rfl⟩) fbR (va_recv hK hP (ci := 5) (q0 := 0) rfl rfl) (PR.of hP hK) rfl hl.1 rfl (Nat.le_of_ble_eq_true rfl) dX5_does_155 ⟨Nat.zero_le _, Nat.zero_le _⟩ ?_
          refine lv_if_eq (tgt := 167) hx hb dX5_does_158 (by decide) (fun c158_14 => ?_) (fun c158_14 => ?_)
          · have c158_14 : ¬ (hasGetM g sx h) := bP_f c158_14
            refine lv_lload hx hb dX5_does_167 (lv_at hl 0 rfl) ?_
            subst hQ
            exact rtl hx hb hr hlocks rfl (by unfold doesM; unfold doesM2; (try first | rw [if_pos c24_4] | rw [if_neg c24_4]); (try first | rw [if_pos c37_6] | rw [if_neg c37_6]); (try first | rw [if_pos c50_8] | rw [if_neg c50_8]); (try rw [c117_13]); (try first | rw [if_pos c158_14] | rw [if_neg c158_14]); rfl) dX5_does_169
          · have c158_14 : hasGetM g sx h := bP_t c158_14
            refine lv_ldc2 (v := (-1)) hx hb hown (hU _ mU_483) dX5_does_161 ?_
            refine lv_goto (tgt := 169) hx hb dX5_does_164 (by decide) ?_
            subst hQ
            exact rtl hx hb hr hlocks rfl (by unfold doesM; unfold doesM2; (try first | rw [if_pos c24_4] | rw [if_neg c24_4]); (try first | rw [if_pos c37_6] | rw [if_neg c37_6]); (try first | rw [if_pos c50_8] | rw [if_neg c50_8]); (try rw [c117_13]); (try first | rw [if_pos c158_14] | rw [if_neg c158_14]); rfl) dX5_does_169
        · have hx9 : (nI ((g 2) ((16 + (8 * h)) + (bitsN sx (16 + 3 * h) 3)))).toInt = 5 := by rw [nI_toInt (show (g 2) ((16 + (8 * h)) + (bitsN sx (16 + 3 * h) 3)) < 2 ^ 31 by omega)]; omega
          refine lv_tableIn (tgt := 170) (off := 53) hx hb dX5_does_117 (by rw [hx9]; decide) (by rw [hx9]; decide) (by rw [hx9]; rfl) (by decide) ?_
          refine lv_iload hx hb dX5_does_170 (lv_at hl 4 rfl) ?_
          refine lv_if_le (tgt := 181) hx hb dX5_does_172 (by decide) (fun c172_15 => ?_) (fun c172_15 => ?_)
          · have c172_15 : bitsN sx (22 + 2 * h) 2 = 0 := (nI_leZ (a := bitsN sx (22 + 2 * h) 2) (by omega)).mp c172_15
            refine lv_lload hx hb dX5_does_181 (lv_at hl 0 rfl) ?_
            subst hQ
            exact rtl hx hb hr hlocks rfl (by unfold doesM; unfold doesM2; (try first | rw [if_pos c24_4] | rw [if_neg c24_4]); (try first | rw [if_pos c37_6] | rw [if_neg c37_6]); (try first | rw [if_pos c50_8] | rw [if_neg c50_8]); (try rw [c117_13]); (try first | rw [if_pos c172_15] | rw [if_neg c172_15]); rfl) dX5_does_183
          · have c172_15 : ¬ (bitsN sx (22 + 2 * h) 2 = 0) := fun h9 => c172_15 ((nI_leZ (a := bitsN sx (22 + 2 * h) 2) (by omega)).mpr h9)
            refine lv_ldc2 (v := (-1)) hx hb hown (hU _ mU_483) dX5_does_175 ?_
            refine lv_goto (tgt := 183) hx hb dX5_does_178 (by decide) ?_
            subst hQ
            exact rtl hx hb hr hlocks rfl (by unfold doesM; unfold doesM2; (try first | rw [if_pos c24_4] | rw [if_neg c24_4]); (try first | rw [if_pos c37_6] | rw [if_neg c37_6]); (try first | rw [if_pos c50_8] | rw [if_neg c50_8]); (try rw [c117_13]); (try first | rw [if_pos c172_15] | rw [if_neg c172_15]); rfl) dX5_does_183
        · have hx9 : (nI ((g 2) ((16 + (8 * h)) + (bitsN sx (16 + 3 * h) 3)))).toInt = 6 := by rw [nI_toInt (show (g 2) ((16 + (8 * h)) + (bitsN sx (16 + 3 * h) 3)) < 2 ^ 31 by omega)]; omega
          refine lv_tableIn (tgt := 184) (off := 67) hx hb dX5_does_117 (by rw [hx9]; decide) (by rw [hx9]; decide) (by rw [hx9]; rfl) (by decide) ?_
          have hk6 := okS_6 ((hL h hh).2 (bitsN sx (16 + 3 * h) 3) (by omega)) c117_13
          refine lv_lload hx hb dX5_does_184 (lv_at hl 0 rfl) ?_
          refine lv_iconst (v := nI 2) hx hb dX5_does_186 (by decide) ?_
          refine lv_iload hx hb dX5_does_187 (lv_at hl 2 rfl) ?_
          refine lv_imul hx hb dX5_does_189 ?_
          refine lv_topE (nI (2 * ((g 3) (4 * ((16 + (8 * h)) + (bitsN sx (16 + 3 * h) 3)))))) (pk_mul _ _) ?_
          refine lv_iconst (v := nI 2) hx hb dX5_does_190 (by decide) ?_
          refine lv_iload hx hb dX5_does_191 (lv_at hl 1 rfl) ?_
          refine cSl (As := [.long (lN (withN sx (16 + (3 * h)) 3 ((bitsN sx (16 + 3 * h) 3) + 1))), .int (nI (2 * ((g 3) (4 * ((16 + (8 * h)) + (bitsN sx (16 + 3 * h) 3)))))), .int (nI 2), .int (nI ((g 3) ((4 * ((16 + (8 * h)) + (bitsN sx (16 + 3 * h) 3))) + 1)))]) (rest := []) ⟨hx, hb, hml, hown, hts⟩ (c_X5_with l  (withN sx (16 + (3 * h)) 3 ((bitsN sx (16 + 3 * h) 3) + 1)) (2 * ((g 3) (4 * ((16 + (8 * h)) + (bitsN sx (16 + 3 * h) 3))))) 2 ((g 3) ((4 * ((16 + (8 * h)) + (bitsN sx (16 + 3 * h) 3))) + 1)) (by omega) (by omega) (by omega) (by omega)) (va_cwS 4 hts (gS mU_480 mU_481 mU_6 mU_482) rfl rfl rfl (by decide +kernel) ⟨Nat.le_of_ble_eq_true rfl, Nat.le_of_ble_eq_true rfl⟩) fbU (fun _ _ _ => trivial) rfl hl.1 rfl (Nat.le_of_ble_eq_true rfl) dX5_does_193 ⟨Nat.zero_le _, Nat.zero_le _⟩ ?_
          have hf_16 : withN (withN sx (16 + (3 * h)) 3 ((bitsN sx (16 + 3 * h) 3) + 1)) (2 * ((g 3) (4 * ((16 + (8 * h)) + (bitsN sx (16 + 3 * h) 3))))) 2 ((g 3) ((4 * ((16 + (8 * h)) + (bitsN sx (16 + 3 * h) 3))) + 1)) < 2 ^ 48 := withN_lt (by omega) (by omega) (by omega)
          subst hQ
          exact rtl hx hb hr hlocks rfl (by unfold doesM; unfold doesM2; (try first | rw [if_pos c24_4] | rw [if_neg c24_4]); (try first | rw [if_pos c37_6] | rw [if_neg c37_6]); (try first | rw [if_pos c50_8] | rw [if_neg c50_8]); (try rw [c117_13]); rfl) dX5_does_196
        · have hx9 : (nI ((g 2) ((16 + (8 * h)) + (bitsN sx (16 + 3 * h) 3)))).toInt = 7 := by rw [nI_toInt (show (g 2) ((16 + (8 * h)) + (bitsN sx (16 + 3 * h) 3)) < 2 ^ 31 by omega)]; omega
          refine lv_tableIn (tgt := 197) (off := 80) hx hb dX5_does_117 (by rw [hx9]; decide) (by rw [hx9]; decide) (by rw [hx9]; rfl) (by decide) ?_
          have hk7 := okS_7 ((hL h hh).2 (bitsN sx (16 + 3 * h) 3) (by omega)) c117_13
          refine lv_lload hx hb dX5_does_197 (lv_at hl 0 rfl) ?_
          refine lv_bipush (v := nI 8) hx hb dX5_does_199 (by decide) ?_
          refine lv_iconst (v := nI 4) hx hb dX5_does_201 (by decide) ?_
          refine lv_iload_n hx hb dX5_does_202 rfl (lv_at hl 8 rfl) ?_
          refine lv_imul hx hb dX5_does_203 ?_
          refine lv_topE (nI (4 * h)) (pk_mul _ _) ?_
          refine lv_iadd hx hb dX5_does_204 ?_
          refine lv_topE (nI (8 + (4 * h))) (nI_add _ _) ?_
          refine lv_iconst (v := nI 2) hx hb dX5_does_205 (by decide) ?_
          refine lv_iload hx hb dX5_does_206 (lv_at hl 1 rfl) ?_
          refine lv_imul hx hb dX5_does_208 ?_
          refine lv_topE (nI (2 * ((g 3) ((4 * ((16 + (8 * h)) + (bitsN sx (16 + 3 * h) 3))) + 1)))) (pk_mul _ _) ?_
          refine lv_iadd hx hb dX5_does_209 ?_
          refine lv_topE (nI ((8 + (4 * h)) + (2 * ((g 3) ((4 * ((16 + (8 * h)) + (bitsN sx (16 + 3 * h) 3))) + 1))))) (nI_add _ _) ?_
          refine lv_iconst (v := nI 2) hx hb dX5_does_210 (by decide) ?_
          refine lv_lload_n hx hb dX5_does_211 rfl (lv_at hl 7 rfl) ?_
          refine lv_iconst (v := nI 2) hx hb dX5_does_212 (by decide) ?_
          refine lv_iload hx hb dX5_does_213 (lv_at hl 2 rfl) ?_
          refine lv_imul hx hb dX5_does_215 ?_
          refine lv_topE (nI (2 * ((g 3) (4 * ((16 + (8 * h)) + (bitsN sx (16 + 3 * h) 3)))))) (pk_mul _ _) ?_
          refine lv_iconst (v := nI 2) hx hb dX5_does_216 (by decide) ?_
          refine cSi (As := [.long (lN sx), .int (nI (2 * ((g 3) (4 * ((16 + (8 * h)) + (bitsN sx (16 + 3 * h) 3)))))), .int (nI 2)]) (rest := [.int (nI 2), .int (nI ((8 + (4 * h)) + (2 * ((g 3) ((4 * ((16 + (8 * h)) + (bitsN sx (16 + 3 * h) 3))) + 1))))), .long (lN (withN sx (16 + (3 * h)) 3 ((bitsN sx (16 + 3 * h) 3) + 1)))]) ⟨hx, hb, hml, hown, hts⟩ (c_X5_bits l  sx (2 * ((g 3) (4 * ((16 + (8 * h)) + (bitsN sx (16 + 3 * h) 3))))) 2 (by omega) (by omega) (by omega)) (va_cwS 3 hts (gS mU_503 mU_504 mU_6 mU_505) rfl rfl rfl (by decide +kernel) ⟨Nat.le_of_ble_eq_true rfl, Nat.le_of_ble_eq_true rfl⟩) fbU (fun _ _ _ => trivial) rfl hl.1 rfl (Nat.le_of_ble_eq_true rfl) dX5_does_217 ⟨Nat.zero_le _, Nat.zero_le _⟩ ?_
          have hf_17 : bitsN sx (2 * ((g 3) (4 * ((16 + (8 * h)) + (bitsN sx (16 + 3 * h) 3))))) 2 < 2 ^ 2 := bitsN_lt _ _ _
          refine cSl (As := [.long (lN (withN sx (16 + (3 * h)) 3 ((bitsN sx (16 + 3 * h) 3) + 1))), .int (nI ((8 + (4 * h)) + (2 * ((g 3) ((4 * ((16 + (8 * h)) + (bitsN sx (16 + 3 * h) 3))) + 1))))), .int (nI 2), .int (nI (bitsN sx (2 * ((g 3) (4 * ((16 + (8 * h)) + (bitsN sx (16 + 3 * h) 3))))) 2))]) (rest := []) ⟨hx, hb, hml, hown, hts⟩ (c_X5_with l  (withN sx (16 + (3 * h)) 3 ((bitsN sx (16 + 3 * h) 3) + 1)) ((8 + (4 * h)) + (2 * ((g 3) ((4 * ((16 + (8 * h)) + (bitsN sx (16 + 3 * h) 3))) + 1)))) 2 (bitsN sx (2 * ((g 3) (4 * ((16 + (8 * h)) + (bitsN sx (16 + 3 * h) 3))))) 2) (by omega) (by omega) (by omega) (by omega)) (va_cwS 4 hts (gS mU_480 mU_481 mU_6 mU_482) rfl rfl rfl (by decide +kernel) ⟨Nat.le_of_ble_eq_true rfl, Nat.le_of_ble_eq_true rfl⟩) fbU (fun _ _ _ => trivial) rfl hl.1 rfl (Nat.le_of_ble_eq_true rfl) dX5_does_220 ⟨Nat.zero_le _, Nat.zero_le _⟩ ?_
          have hf_18 : withN (withN sx (16 + (3 * h)) 3 ((bitsN sx (16 + 3 * h) 3) + 1)) ((8 + (4 * h)) + (2 * ((g 3) ((4 * ((16 + (8 * h)) + (bitsN sx (16 + 3 * h) 3))) + 1)))) 2 (bitsN sx (2 * ((g 3) (4 * ((16 + (8 * h)) + (bitsN sx (16 + 3 * h) 3))))) 2) < 2 ^ 48 := withN_lt (by omega) (by omega) (by omega)
          subst hQ
          exact rtl hx hb hr hlocks rfl (by unfold doesM; unfold doesM2; (try first | rw [if_pos c24_4] | rw [if_neg c24_4]); (try first | rw [if_pos c37_6] | rw [if_neg c37_6]); (try first | rw [if_pos c50_8] | rw [if_neg c50_8]); (try rw [c117_13]); rfl) dX5_does_223
        · have hx9 : (nI ((g 2) ((16 + (8 * h)) + (bitsN sx (16 + 3 * h) 3)))).toInt = 8 := by rw [nI_toInt (show (g 2) ((16 + (8 * h)) + (bitsN sx (16 + 3 * h) 3)) < 2 ^ 31 by omega)]; omega
          refine lv_tableIn (tgt := 224) (off := 107) hx hb dX5_does_117 (by rw [hx9]; decide) (by rw [hx9]; decide) (by rw [hx9]; rfl) (by decide) ?_
          have hk8 := okS_8 ((hL h hh).2 (bitsN sx (16 + 3 * h) 3) (by omega)) c117_13
          refine lv_lload_n hx hb dX5_does_224 rfl (lv_at hl 7 rfl) ?_
          refine lv_bipush (v := nI 8) hx hb dX5_does_225 (by decide) ?_
          refine lv_iconst (v := nI 4) hx hb dX5_does_227 (by decide) ?_
          refine lv_iload_n hx hb dX5_does_228 rfl (lv_at hl 8 rfl) ?_
          refine lv_imul hx hb dX5_does_229 ?_
          refine lv_topE (nI (4 * h)) (pk_mul _ _) ?_
          refine lv_iadd hx hb dX5_does_230 ?_
          refine lv_topE (nI (8 + (4 * h))) (nI_add _ _) ?_
          refine lv_iconst (v := nI 2) hx hb dX5_does_231 (by decide) ?_
          refine lv_iload hx hb dX5_does_232 (lv_at hl 2 rfl) ?_
          refine lv_imul hx hb dX5_does_234 ?_
          refine lv_topE (nI (2 * ((g 3) (4 * ((16 + (8 * h)) + (bitsN sx (16 + 3 * h) 3)))))) (pk_mul _ _) ?_
          refine lv_iadd hx hb dX5_does_235 ?_
          refine lv_topE (nI ((8 + (4 * h)) + (2 * ((g 3) (4 * ((16 + (8 * h)) + (bitsN sx (16 + 3 * h) 3))))))) (nI_add _ _) ?_
          refine lv_iconst (v := nI 2) hx hb dX5_does_236 (by decide) ?_
          refine cSi (As := [.long (lN sx), .int (nI ((8 + (4 * h)) + (2 * ((g 3) (4 * ((16 + (8 * h)) + (bitsN sx (16 + 3 * h) 3))))))), .int (nI 2)]) (rest := []) ⟨hx, hb, hml, hown, hts⟩ (c_X5_bits l  sx ((8 + (4 * h)) + (2 * ((g 3) (4 * ((16 + (8 * h)) + (bitsN sx (16 + 3 * h) 3)))))) 2 (by omega) (by omega) (by omega)) (va_cwS 3 hts (gS mU_503 mU_504 mU_6 mU_505) rfl rfl rfl (by decide +kernel) ⟨Nat.le_of_ble_eq_true rfl, Nat.le_of_ble_eq_true rfl⟩) fbU (fun _ _ _ => trivial) rfl hl.1 rfl (Nat.le_of_ble_eq_true rfl) dX5_does_237 ⟨Nat.zero_le _, Nat.zero_le _⟩ ?_
          have hf_19 : bitsN sx ((8 + (4 * h)) + (2 * ((g 3) (4 * ((16 + (8 * h)) + (bitsN sx (16 + 3 * h) 3)))))) 2 < 2 ^ 2 := bitsN_lt _ _ _
          refine lv_iload hx hb dX5_does_240 (lv_at hl 1 rfl) ?_
          refine lv_icmp_ne (tgt := 264) hx hb dX5_does_242 (by decide) (fun c242_20 => ?_) (fun c242_20 => ?_)
          · have c242_20 : ¬ (bitsN sx ((8 + (4 * h)) + (2 * ((g 3) (4 * ((16 + (8 * h)) + (bitsN sx (16 + 3 * h) 3)))))) 2 = (g 3) ((4 * ((16 + (8 * h)) + (bitsN sx (16 + 3 * h) 3))) + 1)) := fun h9 => c242_20 ((nI_eqG (a := bitsN sx ((8 + (4 * h)) + (2 * ((g 3) (4 * ((16 + (8 * h)) + (bitsN sx (16 + 3 * h) 3)))))) 2) (b := (g 3) ((4 * ((16 + (8 * h)) + (bitsN sx (16 + 3 * h) 3))) + 1)) (by omega) (by omega)).mpr h9)
            refine lv_iload hx hb dX5_does_264 (lv_at hl 5 rfl) ?_
            refine lv_iconst (v := nI 1) hx hb dX5_does_266 (by decide) ?_
            refine lv_iadd hx hb dX5_does_267 ?_
            refine lv_topE (nI ((bitsN sx (16 + 3 * h) 3) + 1)) (nI_add _ _) ?_
            refine lv_istore (lv' := [(11, .int (nI ((bitsN sx (16 + 3 * h) 3) + 1))), (9, .long (lN (withN sx (16 + (3 * h)) 3 ((bitsN sx (16 + 3 * h) 3) + 1)))), (8, .int (nI ((g 3) ((4 * ((16 + (8 * h)) + (bitsN sx (16 + 3 * h) 3))) + 1)))), (7, .int (nI ((g 3) (4 * ((16 + (8 * h)) + (bitsN sx (16 + 3 * h) 3)))))), (6, .int (nI ((16 + (8 * h)) + (bitsN sx (16 + 3 * h) 3)))), (5, .int (nI (bitsN sx (22 + 2 * h) 2))), (4, .int (nI (bitsN sx (16 + 3 * h) 3))), (0, .ref (ad 0)), (1, .long (lN sx)), (3, .int (nI h))]) hx hb dX5_does_268 hl (by decide) rfl (fun ls hl => ?_)
            refine lv_lload_n hx hb dX5_does_270 rfl (lv_at hl 8 rfl) ?_
            refine lv_bipush (v := nI 16) hx hb dX5_does_271 (by decide) ?_
            refine lv_iconst (v := nI 3) hx hb dX5_does_273 (by decide) ?_
            refine lv_iload_n hx hb dX5_does_274 rfl (lv_at hl 9 rfl) ?_
            refine lv_imul hx hb dX5_does_275 ?_
            refine lv_topE (nI (3 * h)) (pk_mul _ _) ?_
            refine lv_iadd hx hb dX5_does_276 ?_
            refine lv_topE (nI (16 + (3 * h))) (nI_add _ _) ?_
            refine lv_iconst (v := nI 3) hx hb dX5_does_277 (by decide) ?_
            refine lv_iload hx hb dX5_does_278 (lv_at hl 0 rfl) ?_
            refine lv_aload_n hx hb dX5_does_280 rfl (lv_at hl 7 rfl) ?_
            refine va_get (D := D) (ci := 5) (v := .ref (ad 1)) (C := RX5) (T := TX5) (N := 23) hx hb hU iX5 hown hK hP 0 rfl rfl 0 (by decide) (hU _ mU_75) (fun _ h9 => h9) rfl dX5_does_281 ?_
            refine lv_iconst (v := nI 2) hx hb dX5_does_284 (by decide) ?_
            refine lv_iload_n hx hb dX5_does_285 rfl (lv_at hl 9 rfl) ?_
            refine lv_iadd hx hb dX5_does_286 ?_
            refine lv_topE (nI (2 + h)) (nI_add _ _) ?_
            refine n_iald hx hb hK hP 1 0 rfl rfl (i := 2 + h) (by omega) (by decide) dX5_does_287 ?_
            have hb_21 := hg 1 (2 + h)
            refine lv_icmp_le (tgt := 302) hx hb dX5_does_288 (by decide) (fun c288_22 => ?_) (fun c288_22 => ?_)
            · have c288_22 : (bitsN sx (16 + 3 * h) 3) + 1 ≤ (g 1) (2 + h) := (nI_leI (a := (bitsN sx (16 + 3 * h) 3) + 1) (b := (g 1) (2 + h)) (by omega) (by omega)).mp c288_22
              refine lv_iload hx hb dX5_does_302 (lv_at hl 0 rfl) ?_
              refine cSl (As := [.long (lN sx), .int (nI (16 + (3 * h))), .int (nI 3), .int (nI ((bitsN sx (16 + 3 * h) 3) + 1))]) (rest := []) ⟨hx, hb, hml, hown, hts⟩ (c_X5_with l  sx (16 + (3 * h)) 3 ((bitsN sx (16 + 3 * h) 3) + 1) (by omega) (by omega) (by omega) (by omega)) (va_cwS 4 hts (gS mU_480 mU_481 mU_6 mU_482) rfl rfl rfl (by decide +kernel) ⟨Nat.le_of_ble_eq_true rfl, Nat.le_of_ble_eq_true rfl⟩) fbU (fun _ _ _ => trivial) rfl hl.1 rfl (Nat.le_of_ble_eq_true rfl) dX5_does_304 ⟨Nat.zero_le _, Nat.zero_le _⟩ ?_
              have hf_23 : withN sx (16 + (3 * h)) 3 ((bitsN sx (16 + 3 * h) 3) + 1) < 2 ^ 48 := withN_lt (by omega) (by omega) (by omega)
              subst hQ
              exact rtl hx hb hr hlocks rfl (by unfold doesM; unfold doesM2; (try first | rw [if_pos c24_4] | rw [if_neg c24_4]); (try first | rw [if_pos c37_6] | rw [if_neg c37_6]); (try first | rw [if_pos c50_8] | rw [if_neg c50_8]); (try rw [c117_13]); (try first | rw [if_pos c242_20] | rw [if_neg c242_20]); (try first | rw [if_pos c288_22] | rw [if_neg c288_22]); rfl) dX5_does_307
            · have c288_22 : ¬ ((bitsN sx (16 + 3 * h) 3) + 1 ≤ (g 1) (2 + h)) := fun h9 => c288_22 ((nI_leI (a := (bitsN sx (16 + 3 * h) 3) + 1) (b := (g 1) (2 + h)) (by omega) (by omega)).mpr h9)
              refine lv_aload_n hx hb dX5_does_291 rfl (lv_at hl 7 rfl) ?_
              refine va_get (D := D) (ci := 5) (v := .ref (ad 1)) (C := RX5) (T := TX5) (N := 23) hx hb hU iX5 hown hK hP 0 rfl rfl 0 (by decide) (hU _ mU_75) (fun _ h9 => h9) rfl dX5_does_292 ?_
              refine lv_iconst (v := nI 2) hx hb dX5_does_295 (by decide) ?_
              refine lv_iload_n hx hb dX5_does_296 rfl (lv_at hl 9 rfl) ?_
              refine lv_iadd hx hb dX5_does_297 ?_
              refine lv_topE (nI (2 + h)) (nI_add _ _) ?_
              refine n_iald hx hb hK hP 1 0 rfl rfl (i := 2 + h) (by omega) (by decide) dX5_does_298 ?_
              have hb_24 := hg 1 (2 + h)
              refine lv_goto (tgt := 304) hx hb dX5_does_299 (by decide) ?_
              refine cSl (As := [.long (lN sx), .int (nI (16 + (3 * h))), .int (nI 3), .int (nI ((g 1) (2 + h)))]) (rest := []) ⟨hx, hb, hml, hown, hts⟩ (c_X5_with l  sx (16 + (3 * h)) 3 ((g 1) (2 + h)) (by omega) (by omega) (by omega) (by omega)) (va_cwS 4 hts (gS mU_480 mU_481 mU_6 mU_482) rfl rfl rfl (by decide +kernel) ⟨Nat.le_of_ble_eq_true rfl, Nat.le_of_ble_eq_true rfl⟩) fbU (fun _ _ _ => trivial) rfl hl.1 rfl (Nat.le_of_ble_eq_true rfl) dX5_does_304 ⟨Nat.zero_le _, Nat.zero_le _⟩ ?_
              have hf_25 : withN sx (16 + (3 * h)) 3 ((g 1) (2 + h)) < 2 ^ 48 := withN_lt (by omega) (by omega) (by omega)
              subst hQ
              exact rtl hx hb hr hlocks rfl (by unfold doesM; unfold doesM2; (try first | rw [if_pos c24_4] | rw [if_neg c24_4]); (try first | rw [if_pos c37_6] | rw [if_neg c37_6]); (try first | rw [if_pos c50_8] | rw [if_neg c50_8]); (try rw [c117_13]); (try first | rw [if_pos c242_20] | rw [if_neg c242_20]); (try first | rw [if_pos c288_22] | rw [if_neg c288_22]); rfl) dX5_does_307
          · have c242_20 : bitsN sx ((8 + (4 * h)) + (2 * ((g 3) (4 * ((16 + (8 * h)) + (bitsN sx (16 + 3 * h) 3)))))) 2 = (g 3) ((4 * ((16 + (8 * h)) + (bitsN sx (16 + 3 * h) 3))) + 1) := (nI_eqG (a := bitsN sx ((8 + (4 * h)) + (2 * ((g 3) (4 * ((16 + (8 * h)) + (bitsN sx (16 + 3 * h) 3)))))) 2) (b := (g 3) ((4 * ((16 + (8 * h)) + (bitsN sx (16 + 3 * h) 3))) + 1)) (by omega) (by omega)).mp c242_20
            refine lv_iload hx hb dX5_does_245 (lv_at hl 5 rfl) ?_
            refine lv_iconst (v := nI 1) hx hb dX5_does_247 (by decide) ?_
            refine lv_iadd hx hb dX5_does_248 ?_
            refine lv_topE (nI ((bitsN sx (16 + 3 * h) 3) + 1)) (nI_add _ _) ?_
            refine lv_aload_n hx hb dX5_does_249 rfl (lv_at hl 6 rfl) ?_
            refine va_get (D := D) (ci := 5) (v := .ref (ad 3)) (C := RX5) (T := TX5) (N := 23) hx hb hU iX5 hown hK hP 0 rfl rfl 2 (by decide) (hU _ mU_77) (fun _ h9 => h9) rfl dX5_does_250 ?_
            refine lv_iconst (v := nI 4) hx hb dX5_does_253 (by decide) ?_
            refine lv_iload hx hb dX5_does_254 (lv_at hl 3 rfl) ?_
            refine lv_imul hx hb dX5_does_256 ?_
            refine lv_topE (nI (4 * ((16 + (8 * h)) + (bitsN sx (16 + 3 * h) 3)))) (pk_mul _ _) ?_
            refine lv_iconst (v := nI 2) hx hb dX5_does_257 (by decide) ?_
            refine lv_iadd hx hb dX5_does_258 ?_
            refine lv_topE (nI ((4 * ((16 + (8 * h)) + (bitsN sx (16 + 3 * h) 3))) + 2)) (nI_add _ _) ?_
            refine n_iald hx hb hK hP 3 2 rfl rfl (i := (4 * ((16 + (8 * h)) + (bitsN sx (16 + 3 * h) 3))) + 2) (by omega) (by decide) dX5_does_259 ?_
            have hb_26 := hg 3 ((4 * ((16 + (8 * h)) + (bitsN sx (16 + 3 * h) 3))) + 2)
            refine lv_iadd hx hb dX5_does_260 ?_
            refine lv_topE (nI (((bitsN sx (16 + 3 * h) 3) + 1) + ((g 3) ((4 * ((16 + (8 * h)) + (bitsN sx (16 + 3 * h) 3))) + 2)))) (nI_add _ _) ?_
            refine lv_goto (tgt := 268) hx hb dX5_does_261 (by decide) ?_
            refine lv_istore (lv' := [(11, .int (nI (((bitsN sx (16 + 3 * h) 3) + 1) + ((g 3) ((4 * ((16 + (8 * h)) + (bitsN sx (16 + 3 * h) 3))) + 2))))), (9, .long (lN (withN sx (16 + (3 * h)) 3 ((bitsN sx (16 + 3 * h) 3) + 1)))), (8, .int (nI ((g 3) ((4 * ((16 + (8 * h)) + (bitsN sx (16 + 3 * h) 3))) + 1)))), (7, .int (nI ((g 3) (4 * ((16 + (8 * h)) + (bitsN sx (16 + 3 * h) 3)))))), (6, .int (nI ((16 + (8 * h)) + (bitsN sx (16 + 3 * h) 3)))), (5, .int (nI (bitsN sx (22 + 2 * h) 2))), (4, .int (nI (bitsN sx (16 + 3 * h) 3))), (0, .ref (ad 0)), (1, .long (lN sx)), (3, .int (nI h))]) hx hb dX5_does_268 hl (by decide) rfl (fun ls hl => ?_)
            refine lv_lload_n hx hb dX5_does_270 rfl (lv_at hl 8 rfl) ?_
            refine lv_bipush (v := nI 16) hx hb dX5_does_271 (by decide) ?_
            refine lv_iconst (v := nI 3) hx hb dX5_does_273 (by decide) ?_
            refine lv_iload_n hx hb dX5_does_274 rfl (lv_at hl 9 rfl) ?_
            refine lv_imul hx hb dX5_does_275 ?_
            refine lv_topE (nI (3 * h)) (pk_mul _ _) ?_
            refine lv_iadd hx hb dX5_does_276 ?_
            refine lv_topE (nI (16 + (3 * h))) (nI_add _ _) ?_
            refine lv_iconst (v := nI 3) hx hb dX5_does_277 (by decide) ?_
            refine lv_iload hx hb dX5_does_278 (lv_at hl 0 rfl) ?_
            refine lv_aload_n hx hb dX5_does_280 rfl (lv_at hl 7 rfl) ?_
            refine va_get (D := D) (ci := 5) (v := .ref (ad 1)) (C := RX5) (T := TX5) (N := 23) hx hb hU iX5 hown hK hP 0 rfl rfl 0 (by decide) (hU _ mU_75) (fun _ h9 => h9) rfl dX5_does_281 ?_
            refine lv_iconst (v := nI 2) hx hb dX5_does_284 (by decide) ?_
            refine lv_iload_n hx hb dX5_does_285 rfl (lv_at hl 9 rfl) ?_
            refine lv_iadd hx hb dX5_does_286 ?_
            refine lv_topE (nI (2 + h)) (nI_add _ _) ?_
            refine n_iald hx hb hK hP 1 0 rfl rfl (i := 2 + h) (by omega) (by decide) dX5_does_287 ?_
            have hb_27 := hg 1 (2 + h)
            refine lv_icmp_le (tgt := 302) hx hb dX5_does_288 (by decide) (fun c288_28 => ?_) (fun c288_28 => ?_)
            · have c288_28 : ((bitsN sx (16 + 3 * h) 3) + 1) + ((g 3) ((4 * ((16 + (8 * h)) + (bitsN sx (16 + 3 * h) 3))) + 2)) ≤ (g 1) (2 + h) := (nI_leI (a := ((bitsN sx (16 + 3 * h) 3) + 1) + ((g 3) ((4 * ((16 + (8 * h)) + (bitsN sx (16 + 3 * h) 3))) + 2))) (b := (g 1) (2 + h)) (by omega) (by omega)).mp c288_28
              refine lv_iload hx hb dX5_does_302 (lv_at hl 0 rfl) ?_
              refine cSl (As := [.long (lN sx), .int (nI (16 + (3 * h))), .int (nI 3), .int (nI (((bitsN sx (16 + 3 * h) 3) + 1) + ((g 3) ((4 * ((16 + (8 * h)) + (bitsN sx (16 + 3 * h) 3))) + 2))))]) (rest := []) ⟨hx, hb, hml, hown, hts⟩ (c_X5_with l  sx (16 + (3 * h)) 3 (((bitsN sx (16 + 3 * h) 3) + 1) + ((g 3) ((4 * ((16 + (8 * h)) + (bitsN sx (16 + 3 * h) 3))) + 2))) (by omega) (by omega) (by omega) (by omega)) (va_cwS 4 hts (gS mU_480 mU_481 mU_6 mU_482) rfl rfl rfl (by decide +kernel) ⟨Nat.le_of_ble_eq_true rfl, Nat.le_of_ble_eq_true rfl⟩) fbU (fun _ _ _ => trivial) rfl hl.1 rfl (Nat.le_of_ble_eq_true rfl) dX5_does_304 ⟨Nat.zero_le _, Nat.zero_le _⟩ ?_
              have hf_29 : withN sx (16 + (3 * h)) 3 (((bitsN sx (16 + 3 * h) 3) + 1) + ((g 3) ((4 * ((16 + (8 * h)) + (bitsN sx (16 + 3 * h) 3))) + 2))) < 2 ^ 48 := withN_lt (by omega) (by omega) (by omega)
              subst hQ
              exact rtl hx hb hr hlocks rfl (by unfold doesM; unfold doesM2; (try first | rw [if_pos c24_4] | rw [if_neg c24_4]); (try first | rw [if_pos c37_6] | rw [if_neg c37_6]); (try first | rw [if_pos c50_8] | rw [if_neg c50_8]); (try rw [c117_13]); (try first | rw [if_pos c242_20] | rw [if_neg c242_20]); (try first | rw [if_pos c288_28] | rw [if_neg c288_28]); rfl) dX5_does_307
            · have c288_28 : ¬ (((bitsN sx (16 + 3 * h) 3) + 1) + ((g 3) ((4 * ((16 + (8 * h)) + (bitsN sx (16 + 3 * h) 3))) + 2)) ≤ (g 1) (2 + h)) := fun h9 => c288_28 ((nI_leI (a := ((bitsN sx (16 + 3 * h) 3) + 1) + ((g 3) ((4 * ((16 + (8 * h)) + (bitsN sx (16 + 3 * h) 3))) + 2))) (b := (g 1) (2 + h)) (by omega) (by omega)).mpr h9)
              refine lv_aload_n hx hb dX5_does_291 rfl (lv_at hl 7 rfl) ?_
              refine va_get (D := D) (ci := 5) (v := .ref (ad 1)) (C := RX5) (T := TX5) (N := 23) hx hb hU iX5 hown hK hP 0 rfl rfl 0 (by decide) (hU _ mU_75) (fun _ h9 => h9) rfl dX5_does_292 ?_
              refine lv_iconst (v := nI 2) hx hb dX5_does_295 (by decide) ?_
              refine lv_iload_n hx hb dX5_does_296 rfl (lv_at hl 9 rfl) ?_
              refine lv_iadd hx hb dX5_does_297 ?_
              refine lv_topE (nI (2 + h)) (nI_add _ _) ?_
              refine n_iald hx hb hK hP 1 0 rfl rfl (i := 2 + h) (by omega) (by decide) dX5_does_298 ?_
              have hb_30 := hg 1 (2 + h)
              refine lv_goto (tgt := 304) hx hb dX5_does_299 (by decide) ?_
              refine cSl (As := [.long (lN sx), .int (nI (16 + (3 * h))), .int (nI 3), .int (nI ((g 1) (2 + h)))]) (rest := []) ⟨hx, hb, hml, hown, hts⟩ (c_X5_with l  sx (16 + (3 * h)) 3 ((g 1) (2 + h)) (by omega) (by omega) (by omega) (by omega)) (va_cwS 4 hts (gS mU_480 mU_481 mU_6 mU_482) rfl rfl rfl (by decide +kernel) ⟨Nat.le_of_ble_eq_true rfl, Nat.le_of_ble_eq_true rfl⟩) fbU (fun _ _ _ => trivial) rfl hl.1 rfl (Nat.le_of_ble_eq_true rfl) dX5_does_304 ⟨Nat.zero_le _, Nat.zero_le _⟩ ?_
              have hf_31 : withN sx (16 + (3 * h)) 3 ((g 1) (2 + h)) < 2 ^ 48 := withN_lt (by omega) (by omega) (by omega)
              subst hQ
              exact rtl hx hb hr hlocks rfl (by unfold doesM; unfold doesM2; (try first | rw [if_pos c24_4] | rw [if_neg c24_4]); (try first | rw [if_pos c37_6] | rw [if_neg c37_6]); (try first | rw [if_pos c50_8] | rw [if_neg c50_8]); (try rw [c117_13]); (try first | rw [if_pos c242_20] | rw [if_neg c242_20]); (try first | rw [if_pos c288_28] | rw [if_neg c288_28]); rfl) dX5_does_307
        · refine lv_tableOut (tgt := 308) hx hb dX5_does_117 (by rw [nI_toInt (show (g 2) ((16 + (8 * h)) + (bitsN sx (16 + 3 * h) 3)) < 2 ^ 31 by omega)]; omega) (by decide) ?_
          have n117_4 : ¬ ((g 2) ((16 + (8 * h)) + (bitsN sx (16 + 3 * h) 3)) = 4) := by omega
          have n117_5 : ¬ ((g 2) ((16 + (8 * h)) + (bitsN sx (16 + 3 * h) 3)) = 5) := by omega
          have n117_6 : ¬ ((g 2) ((16 + (8 * h)) + (bitsN sx (16 + 3 * h) 3)) = 6) := by omega
          have n117_7 : ¬ ((g 2) ((16 + (8 * h)) + (bitsN sx (16 + 3 * h) 3)) = 7) := by omega
          have n117_8 : ¬ ((g 2) ((16 + (8 * h)) + (bitsN sx (16 + 3 * h) 3)) = 8) := by omega
          refine lv_iload hx hb dX5_does_308 (lv_at hl 4 rfl) ?_
          refine lv_iconst (v := nI 3) hx hb dX5_does_310 (by decide) ?_
          refine lv_icmp_ne (tgt := 320) hx hb dX5_does_311 (by decide) (fun c311_32 => ?_) (fun c311_32 => ?_)
          · have c311_32 : ¬ (bitsN sx (22 + 2 * h) 2 = 3) := fun h9 => c311_32 ((nI_eqG (a := bitsN sx (22 + 2 * h) 2) (b := 3) (by omega) (by omega)).mpr h9)
            refine lv_lload hx hb dX5_does_320 (lv_at hl 0 rfl) ?_
            refine lv_bipush (v := nI 26) hx hb dX5_does_322 (by decide) ?_
            refine lv_bipush (v := nI 9) hx hb dX5_does_324 (by decide) ?_
            refine lv_iload_n hx hb dX5_does_326 rfl (lv_at hl 8 rfl) ?_
            refine lv_imul hx hb dX5_does_327 ?_
            refine lv_topE (nI (9 * h)) (pk_mul _ _) ?_
            refine lv_iadd hx hb dX5_does_328 ?_
            refine lv_topE (nI (26 + (9 * h))) (nI_add _ _) ?_
            refine lv_iconst (v := nI 3) hx hb dX5_does_329 (by decide) ?_
            refine lv_iload hx hb dX5_does_330 (lv_at hl 4 rfl) ?_
            refine lv_imul hx hb dX5_does_332 ?_
            refine lv_topE (nI (3 * (bitsN sx (22 + 2 * h) 2))) (pk_mul _ _) ?_
            refine lv_iadd hx hb dX5_does_333 ?_
            refine lv_topE (nI ((26 + (9 * h)) + (3 * (bitsN sx (22 + 2 * h) 2)))) (nI_add _ _) ?_
            refine lv_iconst (v := nI 3) hx hb dX5_does_334 (by decide) ?_
            refine lv_iload hx hb dX5_does_335 (lv_at hl 5 rfl) ?_
            refine cSl (As := [.long (lN (withN sx (16 + (3 * h)) 3 ((bitsN sx (16 + 3 * h) 3) + 1))), .int (nI ((26 + (9 * h)) + (3 * (bitsN sx (22 + 2 * h) 2)))), .int (nI 3), .int (nI (bitsN sx (16 + 3 * h) 3))]) (rest := []) ⟨hx, hb, hml, hown, hts⟩ (c_X5_with l  (withN sx (16 + (3 * h)) 3 ((bitsN sx (16 + 3 * h) 3) + 1)) ((26 + (9 * h)) + (3 * (bitsN sx (22 + 2 * h) 2))) 3 (bitsN sx (16 + 3 * h) 3) (by omega) (by omega) (by omega) (by omega)) (va_cwS 4 hts (gS mU_480 mU_481 mU_6 mU_482) rfl rfl rfl (by decide +kernel) ⟨Nat.le_of_ble_eq_true rfl, Nat.le_of_ble_eq_true rfl⟩) fbU (fun _ _ _ => trivial) rfl hl.1 rfl (Nat.le_of_ble_eq_true rfl) dX5_does_337 ⟨Nat.zero_le _, Nat.zero_le _⟩ ?_
            have hf_33 : withN (withN sx (16 + (3 * h)) 3 ((bitsN sx (16 + 3 * h) 3) + 1)) ((26 + (9 * h)) + (3 * (bitsN sx (22 + 2 * h) 2))) 3 (bitsN sx (16 + 3 * h) 3) < 2 ^ 48 := withN_lt (by omega) (by omega) (by omega)
            refine lv_bipush (v := nI 22) hx hb dX5_does_340 (by decide) ?_
            refine lv_iconst (v := nI 2) hx hb dX5_does_342 (by decide) ?_
            refine lv_iload_n hx hb dX5_does_343 rfl (lv_at hl 8 rfl) ?_
            refine lv_imul hx hb dX5_does_344 ?_
            refine lv_topE (nI (2 * h)) (pk_mul _ _) ?_
            refine lv_iadd hx hb dX5_does_345 ?_
            refine lv_topE (nI (22 + (2 * h))) (nI_add _ _) ?_
            refine lv_iconst (v := nI 2) hx hb dX5_does_346 (by decide) ?_
            refine lv_iload hx hb dX5_does_347 (lv_at hl 4 rfl) ?_
            refine lv_iconst (v := nI 1) hx hb dX5_does_349 (by decide) ?_
            refine lv_iadd hx hb dX5_does_350 ?_
            refine lv_topE (nI ((bitsN sx (22 + 2 * h) 2) + 1)) (nI_add _ _) ?_
            refine cSl (As := [.long (lN (withN (withN sx (16 + (3 * h)) 3 ((bitsN sx (16 + 3 * h) 3) + 1)) ((26 + (9 * h)) + (3 * (bitsN sx (22 + 2 * h) 2))) 3 (bitsN sx (16 + 3 * h) 3))), .int (nI (22 + (2 * h))), .int (nI 2), .int (nI ((bitsN sx (22 + 2 * h) 2) + 1))]) (rest := []) ⟨hx, hb, hml, hown, hts⟩ (c_X5_with l  (withN (withN sx (16 + (3 * h)) 3 ((bitsN sx (16 + 3 * h) 3) + 1)) ((26 + (9 * h)) + (3 * (bitsN sx (22 + 2 * h) 2))) 3 (bitsN sx (16 + 3 * h) 3)) (22 + (2 * h)) 2 ((bitsN sx (22 + 2 * h) 2) + 1) (by omega) (by omega) (by omega) (by omega)) (va_cwS 4 hts (gS mU_480 mU_481 mU_6 mU_482) rfl rfl rfl (by decide +kernel) ⟨Nat.le_of_ble_eq_true rfl, Nat.le_of_ble_eq_true rfl⟩) fbU (fun _ _ _ => trivial) rfl hl.1 rfl (Nat.le_of_ble_eq_true rfl) dX5_does_351 ⟨Nat.zero_le _, Nat.zero_le _⟩ ?_
            have hf_34 : withN (withN (withN sx (16 + (3 * h)) 3 ((bitsN sx (16 + 3 * h) 3) + 1)) ((26 + (9 * h)) + (3 * (bitsN sx (22 + 2 * h) 2))) 3 (bitsN sx (16 + 3 * h) 3)) (22 + (2 * h)) 2 ((bitsN sx (22 + 2 * h) 2) + 1) < 2 ^ 48 := withN_lt (by omega) (by omega) (by omega)
            subst hQ
            exact rtl hx hb hr hlocks rfl (by unfold doesM; unfold doesM2; (try first | rw [if_pos c24_4] | rw [if_neg c24_4]); (try first | rw [if_pos c37_6] | rw [if_neg c37_6]); (try first | rw [if_pos c50_8] | rw [if_neg c50_8]); (try rw [if_neg n117_4, if_neg n117_5, if_neg n117_6, if_neg n117_7, if_neg n117_8]); (try first | rw [if_pos c311_32] | rw [if_neg c311_32]); rfl) dX5_does_354
          · have c311_32 : bitsN sx (22 + 2 * h) 2 = 3 := (nI_eqG (a := bitsN sx (22 + 2 * h) 2) (b := 3) (by omega) (by omega)).mp c311_32
            refine lv_ldc2 (v := (-1)) hx hb hown (hU _ mU_483) dX5_does_314 ?_
            refine lv_goto (tgt := 354) hx hb dX5_does_317 (by decide) ?_
            subst hQ
            exact rtl hx hb hr hlocks rfl (by unfold doesM; unfold doesM2; (try first | rw [if_pos c24_4] | rw [if_neg c24_4]); (try first | rw [if_pos c37_6] | rw [if_neg c37_6]); (try first | rw [if_pos c50_8] | rw [if_neg c50_8]); (try rw [if_neg n117_4, if_neg n117_5, if_neg n117_6, if_neg n117_7, if_neg n117_8]); (try first | rw [if_pos c311_32] | rw [if_neg c311_32]); rfl) dX5_does_354
      · have c50_8 : bitsN sx (16 + 3 * h) 3 = (g 1) (2 + h) := (nI_eqG (a := bitsN sx (16 + 3 * h) 3) (b := (g 1) (2 + h)) (by omega) (by omega)).mp c50_8
        refine lv_ldc2 (v := (-1)) hx hb hown (hU _ mU_483) dX5_does_53 ?_
        subst hQ
        exact rtl hx hb hr hlocks rfl (by unfold doesM; unfold doesM2; (try first | rw [if_pos c24_4] | rw [if_neg c24_4]); (try first | rw [if_pos c37_6] | rw [if_neg c37_6]); (try first | rw [if_pos c50_8] | rw [if_neg c50_8]); rfl) dX5_does_56

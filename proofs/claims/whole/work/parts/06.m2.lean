abbrev mW (ad : Nat → Nat) (ka : Nat → ClassId) (f : Nat → Nat) (g : Nat → Nat → Nat) (t : Nat → Nat) : va_W := [(ad 0, .inr (5, [.ref (ad 1), .ref (ad 2), .ref (ad 3), .ref (ad 4), .ref (ad 5), .int (nI (f 5)), .ref (ad 6), .int (nI (f 7)), .int (nI (f 8)), .int (nI (f 9)), .int (nI (f 10)), .int (nI (f 11)), .int (nI (f 12)), .int (nI (f 13)), .ref (ad 7), .ref (ad 8), .ref (ad 9), .ref (ad 10), .ref (ad 11), .int (nI (f 19)), .int (nI (f 20)), .int (nI (f 21)), .ref (ad 12)])), (ad 1, .inl (ka 1, 5, .inl (nA (g 1)))), (ad 2, .inl (ka 2, 40, .inl (nA (g 2)))), (ad 3, .inl (ka 3, 160, .inl (nA (g 3)))), (ad 4, .inl (ka 4, 4, .inl (nA (g 4)))), (ad 5, .inl (ka 5, 4, .inl (nA (g 5)))), (ad 6, .inl (ka 6, 200, .inl (nA (g 6)))), (ad 7, .inl (ka 7, 12001, .inr (.inl (lA t)))), (ad 8, .inl (ka 8, 12001, .inl (nA (g 8)))), (ad 9, .inl (ka 9, 12001, .inl (nA (g 9)))), (ad 10, .inl (ka 10, 12001, .inl (nA (g 10)))), (ad 11, .inl (ka 11, 32768, .inl (nA (g 11)))), (ad 12, .inl (ka 12, 64, .inl (nA (g 12))))]
abbrev mT (ka : Nat → ClassId) : List (ClassId × FieldType) := [(ka 1, .int), (ka 2, .int), (ka 3, .int), (ka 4, .int), (ka 5, .int), (ka 6, .int), (ka 7, .long), (ka 8, .int), (ka 9, .byte), (ka 10, .short), (ka 11, .int), (ka 12, .int)]
/-- the sort of the statement that wish k of a host's queue is of -/
abbrev sortM (g : Nat → Nat → Nat) (x h k : Nat) : Nat := g 2 (16 + 8 * h + bitsN x (26 + 9 * h + 3 * k) 3)
abbrev hasGetM (g : Nat → Nat → Nat) (x h : Nat) : Prop := (0 < bitsN x (22 + 2 * h) 2 ∧ sortM g x h 0 = 1) ∨ (1 < bitsN x (22 + 2 * h) 2 ∧ sortM g x h 1 = 1) ∨ (2 < bitsN x (22 + 2 * h) 2 ∧ sortM g x h 2 = 1)
/-- an answer that may be none, as a long -/
def eO (o : Option Nat) : Int64 := match o with
  | none => -1
  | some x => lN x
/-- a statement whose numbers are as they must be -/
def okS (so a b c d : Nat) : Prop := so < 9 ∧ (so = 0 → a < 4 ∧ b < 4) ∧ (so = 1 → a < 4 ∧ b < 2) ∧ (so = 2 → a < 4 ∧ b < 4 ∧ c < 4 ∧ d < 2) ∧ (so = 3 → a < 4 ∧ b < 4 ∧ c < 2) ∧ (so = 6 → a < 4 ∧ b < 4) ∧ (so = 7 → a < 4 ∧ b < 2) ∧ (so = 8 → a < 2 ∧ b < 4 ∧ c ≤ 8)
theorem okS_6 {so a b c d : Nat} (h : okS so a b c d) (e : so = 6) : a < 4 ∧ b < 4 := h.2.2.2.2.2.1 e
theorem okS_7 {so a b c d : Nat} (h : okS so a b c d) (e : so = 7) : a < 4 ∧ b < 2 := h.2.2.2.2.2.2.1 e
theorem okS_8 {so a b c d : Nat} (h : okS so a b c d) (e : so = 8) : a < 2 ∧ b < 4 ∧ c ≤ 8 := h.2.2.2.2.2.2.2 e
theorem okS_a {so a b c d : Nat} (h : okS so a b c d) (e : so < 4) : a < 4 ∧ b < 4 := by
  obtain ⟨-, h0, h1, h2, h3, -⟩ := h
  rcases (show so = 0 ∨ so = 1 ∨ so = 2 ∨ so = 3 by omega) with q | q | q | q
  · exact h0 q
  · exact ⟨(h1 q).1, Nat.lt_of_lt_of_le (h1 q).2 (by decide)⟩
  · exact ⟨(h2 q).1, (h2 q).2.1⟩
  · exact ⟨(h3 q).1, (h3 q).2.1⟩
theorem okS_b {so a b c d : Nat} (h : okS so a b c d) : so = 1 → b < 2 := fun q => (h.2.2.1 q).2
theorem okS_c {so a b c d : Nat} (h : okS so a b c d) : (so = 3 → c < 2) ∧ (so = 2 → c < 4) := ⟨fun q => (h.2.2.2.2.1 q).2.2, fun q => (h.2.2.2.1 q).2.2.1⟩
theorem okS_d {so a b c d : Nat} (h : okS so a b c d) : so = 2 → d < 2 := fun q => (h.2.2.2.1 q).2.2.2
/-- the laid programs -/
def okL (g : Nat → Nat → Nat) : Prop := ∀ h, h < 2 → g 1 (2 + h) ≤ 7 ∧ ∀ i, i < g 1 (2 + h) → okS (g 2 (16 + 8 * h + i)) (g 3 (4 * (16 + 8 * h + i))) (g 3 (4 * (16 + 8 * h + i) + 1)) (g 3 (4 * (16 + 8 * h + i) + 2)) (g 3 (4 * (16 + 8 * h + i) + 3))
/-- a state of the laid programs -/
def wfM (g : Nat → Nat → Nat) (x : Nat) : Prop := x < 2 ^ 48 ∧ ∀ h, h < 2 → bitsN x (16 + 3 * h) 3 ≤ g 1 (2 + h) ∧ ∀ k, k < bitsN x (22 + 2 * h) 2 → bitsN x (26 + 9 * h + 3 * k) 3 < g 1 (2 + h) ∧ sortM g x h k < 4
/-- the state behind a broken queue -/
def brokenM (x h : Nat) : Nat := withN (withN (withN x (26 + 9 * h) 9 0) (22 + 2 * h) 2 0) (44 + h) 1 1
/-- what a wish does, its statement's row k -/
def actM (g : Nat → Nat → Nat) (x h so k : Nat) : Nat :=
  if so = 0 then withN x (2 * g 3 (4 * k)) 2 (g 3 (4 * k + 1))
  else if so = 1 then withN x (8 + 4 * h + 2 * g 3 (4 * k + 1)) 2 (bitsN x (2 * g 3 (4 * k)) 2)
  else if so = 3 then withN (withN x (8 + 4 * h + 2 * g 3 (4 * k + 2)) 2 (bitsN x (2 * g 3 (4 * k)) 2)) (2 * g 3 (4 * k)) 2 ((bitsN x (2 * g 3 (4 * k)) 2 + g 3 (4 * k + 1)) % 4)
  else if bitsN x (2 * g 3 (4 * k)) 2 = g 3 (4 * k + 1) then withN (withN x (8 + 4 * h + 2 * g 3 (4 * k + 3)) 2 (bitsN x (2 * g 3 (4 * k)) 2)) (2 * g 3 (4 * k)) 2 (g 3 (4 * k + 2))
  else withN x (8 + 4 * h + 2 * g 3 (4 * k + 3)) 2 (bitsN x (2 * g 3 (4 * k)) 2)
/-- what host h's statement at place p makes of a state; n wishes; k the statement's row -/
def needM (so : Nat) : Nat := if so = 1 then 1 else if so = 0 then 2 else 4
/-- the queue without wish wh -/
def shiftM (x h wh y : Nat) : Nat :=
  if wh = 0 then withN (withN (withN y (26 + 9 * h) 3 (bitsN x (26 + 9 * h + 3) 3)) (26 + 9 * h + 3) 3 (bitsN x (26 + 9 * h + 6) 3)) (26 + 9 * h + 6) 3 0
  else if wh = 1 then withN (withN y (26 + 9 * h + 3) 3 (bitsN x (26 + 9 * h + 6) 3)) (26 + 9 * h + 6) 3 0
  else withN y (26 + 9 * h + 6) 3 0
def wishE (g : Nat → Nat → Nat) (x h wh : Nat) : Option Nat :=
  if bitsN x 46 2 = 2 - h then some (brokenM x h)
  else if g 5 (g 3 (4 * (16 + 8 * h + bitsN x (26 + 9 * h + 3 * wh) 3))) &&& needM (sortM g x h wh) = 0 then some (brokenM x h)
  else some (actM g (shiftM x h wh (withN x (22 + 2 * h) 2 (bitsN x (22 + 2 * h) 2 - 1))) h (sortM g x h wh) (16 + 8 * h + bitsN x (26 + 9 * h + 3 * wh) 3))
def wishM0 (g : Nat → Nat → Nat) (x h : Nat) : Option Nat := if 0 < bitsN x (22 + 2 * h) 2 then wishE g x h 0 else none
def wishM1 (g : Nat → Nat → Nat) (x h : Nat) : Option Nat := if 1 < bitsN x (22 + 2 * h) 2 then (if sortM g x h 1 = 1 then none else if sortM g x h 0 = 1 then wishE g x h 1 else none) else none
def wishM2 (g : Nat → Nat → Nat) (x h : Nat) : Option Nat := if 2 < bitsN x (22 + 2 * h) 2 then (if sortM g x h 2 = 1 then none else if sortM g x h 0 = 1 then (if sortM g x h 1 = 1 then wishE g x h 2 else none) else none) else none
/-- what the wish at place wh of a host's queue, done, makes of a state -/
def wishM (g : Nat → Nat → Nat) (x h wh : Nat) : Option Nat := if wh = 0 then wishM0 g x h else if wh = 1 then wishM1 g x h else wishM2 g x h
def doesM2 (g : Nat → Nat → Nat) (x h p n k : Nat) : Option Nat :=
  if g 2 k = 4 then (if hasGetM g x h then none else some (withN x (16 + 3 * h) 3 (p + 1)))
  else if g 2 k = 5 then (if n = 0 then some (withN x (16 + 3 * h) 3 (p + 1)) else none)
  else if g 2 k = 6 then some (withN (withN x (16 + 3 * h) 3 (p + 1)) (2 * g 3 (4 * k)) 2 (g 3 (4 * k + 1)))
  else if g 2 k = 7 then some (withN (withN x (16 + 3 * h) 3 (p + 1)) (8 + 4 * h + 2 * g 3 (4 * k + 1)) 2 (bitsN x (2 * g 3 (4 * k)) 2))
  else if g 2 k = 8 then
    (if bitsN x (8 + 4 * h + 2 * g 3 (4 * k)) 2 = g 3 (4 * k + 1) then
      (if p + 1 + g 3 (4 * k + 2) ≤ g 1 (2 + h) then some (withN x (16 + 3 * h) 3 (p + 1 + g 3 (4 * k + 2))) else some (withN x (16 + 3 * h) 3 (g 1 (2 + h))))
    else if p + 1 ≤ g 1 (2 + h) then some (withN x (16 + 3 * h) 3 (p + 1)) else some (withN x (16 + 3 * h) 3 (g 1 (2 + h))))
  else if n = 3 then none
  else some (withN (withN (withN x (16 + 3 * h) 3 (p + 1)) (26 + 9 * h + 3 * n) 3 p) (22 + 2 * h) 2 (n + 1))
def doesM (g : Nat → Nat → Nat) (x h : Nat) : Option Nat :=
  if bitsN x (44 + h) 1 = 1 then none else if bitsN x 46 2 = h + 1 then none else if bitsN x (16 + 3 * h) 3 = g 1 (2 + h) then none
  else doesM2 g x h (bitsN x (16 + 3 * h) 3) (bitsN x (22 + 2 * h) 2) (16 + 8 * h + bitsN x (16 + 3 * h) 3)
set_option maxHeartbeats 4000000 in
set_option maxRecDepth 100000 in
theorem c_X5_sortOf (l : Launch) (D : va_G) (ad : Nat → Nat) (ka : Nat → ClassId) (f : Nat → Nat) (g : Nat → Nat → Nat) (t : Nat → Nat) (sx : Nat) (h : Nat) (k : Nat) (hg : ∀ a, a < 6 → ∀ i, g a i < 2147483648) (hsx : sx < 2 ^ 48) (hh : h < 2) (hk : k < 3) : Met l yX5_sortOf (.code yX5_sortOf cX5_sortOf 5 (some .int) :: wsL_law) ({ frames := 1, cells := 0, slots := 0, locals := 23 }) (va_Pc [.ref (ad 0), .long (lN sx), .int (nI h), .int (nI k)] (PR D (mW ad ka f g t) (mT ka))) (QrI (nI (sortM g sx h k))) 0 0 (fun _ => False) := by
  refine Met.ofW (cc := cX5_sortOf) (maxL := 5) (ret := (some .int)) (by decide) rfl ?_
  intro p e s m args below meth c s₁ B hml hv
  obtain ⟨rfl, hP, hK⟩ := hv
  have hx := B.exec
  have hb := B.bytes
  have hr := B.returns
  have hts := atoms_spec (ws := .code yX5_sortOf cX5_sortOf 5 (some .int) :: wsL_law) B.pre
  have hU : ∀ w ∈ wsL_law, w.before _ s = true := fun w h => hts w (List.mem_cons_of_mem _ h)
  have hown : s.vm.findClass RX5 = some m.cls := findClass_of_methodNamed B.named
  have hlocks := B.notSynchronized
  generalize hQ : MQ _ _ _ _ _ _ _ = Q
  have hl := lv_entry ([.ref (ad 0), .long (lN sx), .int (nI h), .int (nI k)]) (n := 5) (Nat.le_of_ble_eq_true rfl)
  rw [lg_entry_eq]
  generalize (lg_sl ([.ref (ad 0), .long (lN sx), .int (nI h), .int (nI k)]) ++ List.replicate (5 - (lg_sl ([.ref (ad 0), .long (lN sx), .int (nI h), .int (nI k)])).length) Slot.unset).toArray = ls at hl ⊢
  have hl : lv_has ls 5 [(0, .ref (ad 0)), (1, .long (lN sx)), (3, .int (nI h)), (4, .int (nI k))] := hl
  refine lv_aload_n hx hb dX5_sortOf_0 rfl (lv_at hl 0 rfl) ?_
  refine va_get (D := D) (ci := 5) (v := .ref (ad 2)) (C := RX5) (T := TX5) (N := 23) hx hb hU iX5 hown hK hP 0 rfl rfl 1 (by decide) (hU _ mU_76) (fun _ h9 => h9) rfl dX5_sortOf_1 ?_
  refine lv_bipush (v := nI 16) hx hb dX5_sortOf_4 (by decide) ?_
  refine lv_bipush (v := nI 8) hx hb dX5_sortOf_6 (by decide) ?_
  refine lv_iload_n hx hb dX5_sortOf_8 rfl (lv_at hl 2 rfl) ?_
  refine lv_imul hx hb dX5_sortOf_9 ?_
  refine lv_topE (nI (8 * h)) (pk_mul _ _) ?_
  refine lv_iadd hx hb dX5_sortOf_10 ?_
  refine lv_topE (nI (16 + (8 * h))) (nI_add _ _) ?_
  refine lv_lload_n hx hb dX5_sortOf_11 rfl (lv_at hl 1 rfl) ?_
  refine lv_bipush (v := nI 26) hx hb dX5_sortOf_12 (by decide) ?_
  refine lv_bipush (v := nI 9) hx hb dX5_sortOf_14 (by decide) ?_
  refine lv_iload_n hx hb dX5_sortOf_16 rfl (lv_at hl 2 rfl) ?_
  refine lv_imul hx hb dX5_sortOf_17 ?_
  refine lv_topE (nI (9 * h)) (pk_mul _ _) ?_
  refine lv_iadd hx hb dX5_sortOf_18 ?_
  refine lv_topE (nI (26 + (9 * h))) (nI_add _ _) ?_
  refine lv_iconst (v := nI 3) hx hb dX5_sortOf_19 (by decide) ?_
  refine lv_iload hx hb dX5_sortOf_20 (lv_at hl 3 rfl) ?_
  refine lv_imul hx hb dX5_sortOf_22 ?_
  refine lv_topE (nI (3 * k)) (pk_mul _ _) ?_
  refine lv_iadd hx hb dX5_sortOf_23 ?_
  refine lv_topE (nI ((26 + (9 * h)) + (3 * k))) (nI_add _ _) ?_
  refine lv_iconst (v := nI 3) hx hb dX5_sortOf_24 (by decide) ?_
  refine cSi (As := [.long (lN sx), .int (nI ((26 + (9 * h)) + (3 * k))), .int (nI 3)]) (rest := [.int (nI (16 + (8 * h))), .ref (ad 2)]) ⟨hx, hb, hml, hown, hts⟩ (c_X5_bits l  sx ((26 + (9 * h)) + (3 * k)) 3 (by omega) (by omega) (by omega)) (va_cwS 3 hts (gS mU_503 mU_504 mU_6 mU_505) rfl rfl rfl (by decide +kernel) ⟨Nat.le_of_ble_eq_true rfl, Nat.le_of_ble_eq_true rfl⟩) fbU (fun _ _ _ => trivial) rfl hl.1 rfl (Nat.le_of_ble_eq_true rfl) dX5_sortOf_25 ⟨Nat.zero_le _, Nat.zero_le _⟩ ?_
  have hf_1 : bitsN sx ((26 + (9 * h)) + (3 * k)) 3 < 2 ^ 3 := bitsN_lt _ _ _
  refine lv_iadd hx hb dX5_sortOf_28 ?_
  refine lv_topE (nI ((16 + (8 * h)) + (bitsN sx ((26 + (9 * h)) + (3 * k)) 3))) (nI_add _ _) ?_
  refine n_iald hx hb hK hP 2 1 rfl rfl (i := (16 + (8 * h)) + (bitsN sx ((26 + (9 * h)) + (3 * k)) 3)) (by omega) (by decide) dX5_sortOf_29 ?_
  have hb_2 := hg 2 (by decide) ((16 + (8 * h)) + (bitsN sx ((26 + (9 * h)) + (3 * k)) 3))
  subst hQ
  exact rti hx hb hr hlocks rfl (rfl) dX5_sortOf_30

set_option maxHeartbeats 4000000 in
set_option maxRecDepth 100000 in
theorem c_X5_hasGet (l : Launch) (D : va_G) (ad : Nat → Nat) (ka : Nat → ClassId) (f : Nat → Nat) (g : Nat → Nat → Nat) (t : Nat → Nat) (sx : Nat) (h : Nat) (hg : ∀ a, a < 6 → ∀ i, g a i < 2147483648) (hsx : sx < 2 ^ 48) (hh : h < 2) : Met l yX5_hasGet (.code yX5_hasGet cX5_hasGet 5 (some .boolean) :: wsL_law) ({ frames := 2, cells := 0, slots := 0, locals := 47 }) (va_Pc [.ref (ad 0), .long (lN sx), .int (nI h)] (PR D (mW ad ka f g t) (mT ka))) (QrI (bP (hasGetM g sx h))) 0 0 (fun _ => False) := by
  refine Met.ofW (cc := cX5_hasGet) (maxL := 5) (ret := (some .boolean)) (by decide) rfl ?_
  intro p e s m args below meth c s₁ B hml hv
  obtain ⟨rfl, hP, hK⟩ := hv
  have hx := B.exec
  have hb := B.bytes
  have hr := B.returns
  have hts := atoms_spec (ws := .code yX5_hasGet cX5_hasGet 5 (some .boolean) :: wsL_law) B.pre
  have hU : ∀ w ∈ wsL_law, w.before _ s = true := fun w h => hts w (List.mem_cons_of_mem _ h)
  have hown : s.vm.findClass RX5 = some m.cls := findClass_of_methodNamed B.named
  have hlocks := B.notSynchronized
  generalize hQ : MQ _ _ _ _ _ _ _ = Q
  have hl := lv_entry ([.ref (ad 0), .long (lN sx), .int (nI h)]) (n := 5) (Nat.le_of_ble_eq_true rfl)
  rw [lg_entry_eq]
  generalize (lg_sl ([.ref (ad 0), .long (lN sx), .int (nI h)]) ++ List.replicate (5 - (lg_sl ([.ref (ad 0), .long (lN sx), .int (nI h)])).length) Slot.unset).toArray = ls at hl ⊢
  have hl : lv_has ls 5 [(0, .ref (ad 0)), (1, .long (lN sx)), (3, .int (nI h))] := hl
  refine lv_iconst (v := nI 0) hx hb dX5_hasGet_0 (by decide) ?_
  refine lv_istore (lv' := [(4, .int (nI 0)), (0, .ref (ad 0)), (1, .long (lN sx)), (3, .int (nI h))]) hx hb dX5_hasGet_1 hl (by decide) rfl (fun ls hl => ?_)
  refine lv_iload hx hb dX5_hasGet_3 (lv_at hl 0 rfl) ?_
  refine lv_lload_n hx hb dX5_hasGet_5 rfl (lv_at hl 2 rfl) ?_
  refine lv_iload_n hx hb dX5_hasGet_6 rfl (lv_at hl 3 rfl) ?_
  refine cSi (As := [.long (lN sx), .int (nI h)]) (rest := [.int (nI 0)]) ⟨hx, hb, hml, hown, hts⟩ (c_X5_wishes l  sx h (by omega) (by omega)) (va_cwS 2 hts (gS mU_506 mU_507 mU_6 mU_508) rfl rfl rfl (by decide +kernel) ⟨Nat.le_of_ble_eq_true rfl, Nat.le_of_ble_eq_true rfl⟩) fbU (fun _ _ _ => trivial) rfl hl.1 rfl (Nat.le_of_ble_eq_true rfl) dX5_hasGet_7 ⟨Nat.zero_le _, Nat.zero_le _⟩ ?_
  have hf_1 : bitsN sx (22 + 2 * h) 2 < 4 := bitsN_lt _ _ _
  refine lv_icmp_ge (tgt := 33) hx hb dX5_hasGet_10 (by decide) (fun c10_2 => ?_) (fun c10_2 => ?_)
  · have c10_2 : bitsN sx (22 + 2 * h) 2 ≤ 0 := (nI_leI (a := bitsN sx (22 + 2 * h) 2) (b := 0) (by omega) (by omega)).mp c10_2
    refine lv_iconst (v := nI 0) hx hb dX5_hasGet_33 (by decide) ?_
    subst hQ
    exact rtz hx hb hr hlocks rfl rfl (bP_0 (by unfold hasGetM; omega)) dX5_hasGet_34
  · have c10_2 : ¬ (bitsN sx (22 + 2 * h) 2 ≤ 0) := fun h9 => c10_2 ((nI_leI (a := bitsN sx (22 + 2 * h) 2) (b := 0) (by omega) (by omega)).mpr h9)
    refine lv_aload_n hx hb dX5_hasGet_13 rfl (lv_at hl 1 rfl) ?_
    refine lv_lload_n hx hb dX5_hasGet_14 rfl (lv_at hl 2 rfl) ?_
    refine lv_iload_n hx hb dX5_hasGet_15 rfl (lv_at hl 3 rfl) ?_
    refine lv_iload hx hb dX5_hasGet_16 (lv_at hl 0 rfl) ?_
    refine cVi (As := [.long (lN sx), .int (nI h), .int (nI 0)]) (rest := []) ⟨hx, hb, hml, hown, hts⟩ (c_X5_sortOf l D ad ka f g t sx h 0 (hg) (by omega) (by omega) (by omega)) (cwV 3 hts (gV mU_513 mU_514 mU_515 mU_6 mU_516) rfl rfl rfl (by decide +kernel) ⟨Nat.le_of_ble_eq_true rfl, Nat.le_of_ble_eq_true rfl⟩) fbR (va_recv hK hP (ci := 5) (q0 := 0) rfl rfl) (PR.of hP hK) rfl hl.1 rfl (Nat.le_of_ble_eq_true rfl) dX5_hasGet_18 ⟨Nat.zero_le _, Nat.zero_le _⟩ ?_
    have hf_3 : sortM g sx h 0 < 2147483648 := hg 2 (by decide) _
    refine lv_iconst (v := nI 1) hx hb dX5_hasGet_21 (by decide) ?_
    refine lv_icmp_ne (tgt := 27) hx hb dX5_hasGet_22 (by decide) (fun c22_4 => ?_) (fun c22_4 => ?_)
    · have c22_4 : ¬ (sortM g sx h 0 = 1) := fun h9 => c22_4 ((nI_eqG (a := sortM g sx h 0) (b := 1) (by omega) (by omega)).mpr h9)
      refine lv_iinc (v := nI 1) (lv' := [(4, .int (nI 1)), (0, .ref (ad 0)), (1, .long (lN sx)), (3, .int (nI h))]) hx hb dX5_hasGet_27 hl (k := 0) rfl (by decide) (by decide) rfl (fun ls hl => ?_)
      refine lv_goto (tgt := 3) hx hb dX5_hasGet_30 (by decide) ?_
      refine lv_iload hx hb dX5_hasGet_3 (lv_at hl 0 rfl) ?_
      refine lv_lload_n hx hb dX5_hasGet_5 rfl (lv_at hl 2 rfl) ?_
      refine lv_iload_n hx hb dX5_hasGet_6 rfl (lv_at hl 3 rfl) ?_
      refine cSi (As := [.long (lN sx), .int (nI h)]) (rest := [.int (nI 1)]) ⟨hx, hb, hml, hown, hts⟩ (c_X5_wishes l  sx h (by omega) (by omega)) (va_cwS 2 hts (gS mU_506 mU_507 mU_6 mU_508) rfl rfl rfl (by decide +kernel) ⟨Nat.le_of_ble_eq_true rfl, Nat.le_of_ble_eq_true rfl⟩) fbU (fun _ _ _ => trivial) rfl hl.1 rfl (Nat.le_of_ble_eq_true rfl) dX5_hasGet_7 ⟨Nat.zero_le _, Nat.zero_le _⟩ ?_
      have hf_5 : bitsN sx (22 + 2 * h) 2 < 4 := bitsN_lt _ _ _
      refine lv_icmp_ge (tgt := 33) hx hb dX5_hasGet_10 (by decide) (fun c10_6 => ?_) (fun c10_6 => ?_)
      · have c10_6 : bitsN sx (22 + 2 * h) 2 ≤ 1 := (nI_leI (a := bitsN sx (22 + 2 * h) 2) (b := 1) (by omega) (by omega)).mp c10_6
        refine lv_iconst (v := nI 0) hx hb dX5_hasGet_33 (by decide) ?_
        subst hQ
        exact rtz hx hb hr hlocks rfl rfl (bP_0 (by unfold hasGetM; omega)) dX5_hasGet_34
      · have c10_6 : ¬ (bitsN sx (22 + 2 * h) 2 ≤ 1) := fun h9 => c10_6 ((nI_leI (a := bitsN sx (22 + 2 * h) 2) (b := 1) (by omega) (by omega)).mpr h9)
        refine lv_aload_n hx hb dX5_hasGet_13 rfl (lv_at hl 1 rfl) ?_
        refine lv_lload_n hx hb dX5_hasGet_14 rfl (lv_at hl 2 rfl) ?_
        refine lv_iload_n hx hb dX5_hasGet_15 rfl (lv_at hl 3 rfl) ?_
        refine lv_iload hx hb dX5_hasGet_16 (lv_at hl 0 rfl) ?_
        refine cVi (As := [.long (lN sx), .int (nI h), .int (nI 1)]) (rest := []) ⟨hx, hb, hml, hown, hts⟩ (c_X5_sortOf l D ad ka f g t sx h 1 (hg) (by omega) (by omega) (by omega)) (cwV 3 hts (gV mU_513 mU_514 mU_515 mU_6 mU_516) rfl rfl rfl (by decide +kernel) ⟨Nat.le_of_ble_eq_true rfl, Nat.le_of_ble_eq_true rfl⟩) fbR (va_recv hK hP (ci := 5) (q0 := 0) rfl rfl) (PR.of hP hK) rfl hl.1 rfl (Nat.le_of_ble_eq_true rfl) dX5_hasGet_18 ⟨Nat.zero_le _, Nat.zero_le _⟩ ?_
        have hf_7 : sortM g sx h 1 < 2147483648 := hg 2 (by decide) _
        refine lv_iconst (v := nI 1) hx hb dX5_hasGet_21 (by decide) ?_
        refine lv_icmp_ne (tgt := 27) hx hb dX5_hasGet_22 (by decide) (fun c22_8 => ?_) (fun c22_8 => ?_)
        · have c22_8 : ¬ (sortM g sx h 1 = 1) := fun h9 => c22_8 ((nI_eqG (a := sortM g sx h 1) (b := 1) (by omega) (by omega)).mpr h9)
          refine lv_iinc (v := nI 2) (lv' := [(4, .int (nI 2)), (0, .ref (ad 0)), (1, .long (lN sx)), (3, .int (nI h))]) hx hb dX5_hasGet_27 hl (k := 0) rfl (by decide) (by decide) rfl (fun ls hl => ?_)
          refine lv_goto (tgt := 3) hx hb dX5_hasGet_30 (by decide) ?_
          refine lv_iload hx hb dX5_hasGet_3 (lv_at hl 0 rfl) ?_
          refine lv_lload_n hx hb dX5_hasGet_5 rfl (lv_at hl 2 rfl) ?_
          refine lv_iload_n hx hb dX5_hasGet_6 rfl (lv_at hl 3 rfl) ?_
          refine cSi (As := [.long (lN sx), .int (nI h)]) (rest := [.int (nI 2)]) ⟨hx, hb, hml, hown, hts⟩ (c_X5_wishes l  sx h (by omega) (by omega)) (va_cwS 2 hts (gS mU_506 mU_507 mU_6 mU_508) rfl rfl rfl (by decide +kernel) ⟨Nat.le_of_ble_eq_true rfl, Nat.le_of_ble_eq_true rfl⟩) fbU (fun _ _ _ => trivial) rfl hl.1 rfl (Nat.le_of_ble_eq_true rfl) dX5_hasGet_7 ⟨Nat.zero_le _, Nat.zero_le _⟩ ?_
          have hf_9 : bitsN sx (22 + 2 * h) 2 < 4 := bitsN_lt _ _ _
          refine lv_icmp_ge (tgt := 33) hx hb dX5_hasGet_10 (by decide) (fun c10_10 => ?_) (fun c10_10 => ?_)
          · have c10_10 : bitsN sx (22 + 2 * h) 2 ≤ 2 := (nI_leI (a := bitsN sx (22 + 2 * h) 2) (b := 2) (by omega) (by omega)).mp c10_10
            refine lv_iconst (v := nI 0) hx hb dX5_hasGet_33 (by decide) ?_
            subst hQ
            exact rtz hx hb hr hlocks rfl rfl (bP_0 (by unfold hasGetM; omega)) dX5_hasGet_34
          · have c10_10 : ¬ (bitsN sx (22 + 2 * h) 2 ≤ 2) := fun h9 => c10_10 ((nI_leI (a := bitsN sx (22 + 2 * h) 2) (b := 2) (by omega) (by omega)).mpr h9)
            refine lv_aload_n hx hb dX5_hasGet_13 rfl (lv_at hl 1 rfl) ?_
            refine lv_lload_n hx hb dX5_hasGet_14 rfl (lv_at hl 2 rfl) ?_
            refine lv_iload_n hx hb dX5_hasGet_15 rfl (lv_at hl 3 rfl) ?_
            refine lv_iload hx hb dX5_hasGet_16 (lv_at hl 0 rfl) ?_
            refine cVi (As := [.long (lN sx), .int (nI h), .int (nI 2)]) (rest := []) ⟨hx, hb, hml, hown, hts⟩ (c_X5_sortOf l D ad ka f g t sx h 2 (hg) (by omega) (by omega) (by omega)) (cwV 3 hts (gV mU_513 mU_514 mU_515 mU_6 mU_516) rfl rfl rfl (by decide +kernel) ⟨Nat.le_of_ble_eq_true rfl, Nat.le_of_ble_eq_true rfl⟩) fbR (va_recv hK hP (ci := 5) (q0 := 0) rfl rfl) (PR.of hP hK) rfl hl.1 rfl (Nat.le_of_ble_eq_true rfl) dX5_hasGet_18 ⟨Nat.zero_le _, Nat.zero_le _⟩ ?_
            have hf_11 : sortM g sx h 2 < 2147483648 := hg 2 (by decide) _
            refine lv_iconst (v := nI 1) hx hb dX5_hasGet_21 (by decide) ?_
            refine lv_icmp_ne (tgt := 27) hx hb dX5_hasGet_22 (by decide) (fun c22_12 => ?_) (fun c22_12 => ?_)
            · have c22_12 : ¬ (sortM g sx h 2 = 1) := fun h9 => c22_12 ((nI_eqG (a := sortM g sx h 2) (b := 1) (by omega) (by omega)).mpr h9)
              refine lv_iinc (v := nI 3) (lv' := [(4, .int (nI 3)), (0, .ref (ad 0)), (1, .long (lN sx)), (3, .int (nI h))]) hx hb dX5_hasGet_27 hl (k := 0) rfl (by decide) (by decide) rfl (fun ls hl => ?_)
              refine lv_goto (tgt := 3) hx hb dX5_hasGet_30 (by decide) ?_
              refine lv_iload hx hb dX5_hasGet_3 (lv_at hl 0 rfl) ?_
              refine lv_lload_n hx hb dX5_hasGet_5 rfl (lv_at hl 2 rfl) ?_
              refine lv_iload_n hx hb dX5_hasGet_6 rfl (lv_at hl 3 rfl) ?_
              refine cSi (As := [.long (lN sx), .int (nI h)]) (rest := [.int (nI 3)]) ⟨hx, hb, hml, hown, hts⟩ (c_X5_wishes l  sx h (by omega) (by omega)) (va_cwS 2 hts (gS mU_506 mU_507 mU_6 mU_508) rfl rfl rfl (by decide +kernel) ⟨Nat.le_of_ble_eq_true rfl, Nat.le_of_ble_eq_true rfl⟩) fbU (fun _ _ _ => trivial) rfl hl.1 rfl (Nat.le_of_ble_eq_true rfl) dX5_hasGet_7 ⟨Nat.zero_le _, Nat.zero_le _⟩ ?_
              have hf_13 : bitsN sx (22 + 2 * h) 2 < 4 := bitsN_lt _ _ _
              refine lv_icmp_ge (tgt := 33) hx hb dX5_hasGet_10 (by decide) (fun c10_14 => ?_) (fun c10_14 => ?_)
              · have c10_14 : bitsN sx (22 + 2 * h) 2 ≤ 3 := (nI_leI (a := bitsN sx (22 + 2 * h) 2) (b := 3) (by omega) (by omega)).mp c10_14
                refine lv_iconst (v := nI 0) hx hb dX5_hasGet_33 (by decide) ?_
                subst hQ
                exact rtz hx hb hr hlocks rfl rfl (bP_0 (by unfold hasGetM; omega)) dX5_hasGet_34
              · have c10_14 : ¬ (bitsN sx (22 + 2 * h) 2 ≤ 3) := fun h9 => c10_14 ((nI_leI (a := bitsN sx (22 + 2 * h) 2) (b := 3) (by omega) (by omega)).mpr h9)
                exfalso; omega
            · have c22_12 : sortM g sx h 2 = 1 := (nI_eqG (a := sortM g sx h 2) (b := 1) (by omega) (by omega)).mp c22_12
              refine lv_iconst (v := nI 1) hx hb dX5_hasGet_25 (by decide) ?_
              subst hQ
              exact rtz hx hb hr hlocks rfl rfl (bP_1 (by unfold hasGetM; omega)) dX5_hasGet_26
        · have c22_8 : sortM g sx h 1 = 1 := (nI_eqG (a := sortM g sx h 1) (b := 1) (by omega) (by omega)).mp c22_8
          refine lv_iconst (v := nI 1) hx hb dX5_hasGet_25 (by decide) ?_
          subst hQ
          exact rtz hx hb hr hlocks rfl rfl (bP_1 (by unfold hasGetM; omega)) dX5_hasGet_26
    · have c22_4 : sortM g sx h 0 = 1 := (nI_eqG (a := sortM g sx h 0) (b := 1) (by omega) (by omega)).mp c22_4
      refine lv_iconst (v := nI 1) hx hb dX5_hasGet_25 (by decide) ?_
      subst hQ
      exact rtz hx hb hr hlocks rfl rfl (bP_1 (by unfold hasGetM; omega)) dX5_hasGet_26

set_option maxHeartbeats 4000000 in
set_option maxRecDepth 100000 in
theorem c_X5_does (l : Launch) (D : va_G) (ad : Nat → Nat) (ka : Nat → ClassId) (f : Nat → Nat) (g : Nat → Nat → Nat) (t : Nat → Nat) (sx : Nat) (h : Nat) (hg : ∀ a, a < 6 → ∀ i, g a i < 2147483648) (hL : okL g) (hwf : wfM g sx) (hh : h < 2) : Met l yX5_does (.code yX5_does cX5_does 12 (some .long) :: wsL_law) ({ frames := 3, cells := 0, slots := 0, locals := 71 }) (va_Pc [.ref (ad 0), .long (lN sx), .int (nI h)] (PR D (mW ad ka f g t) (mT ka))) (QrL (eO (doesM g sx h))) 0 0 (fun _ => False) := by
  refine Met.ofW (cc := cX5_does) (maxL := 12) (ret := (some .long)) (by decide) rfl ?_
  intro p e s m args below meth c s₁ B hml hv
  obtain ⟨rfl, hP, hK⟩ := hv
  have hx := B.exec
  have hb := B.bytes
  have hr := B.returns
  have hts := atoms_spec (ws := .code yX5_does cX5_does 12 (some .long) :: wsL_law) B.pre
  have hU : ∀ w ∈ wsL_law, w.before _ s = true := fun w h => hts w (List.mem_cons_of_mem _ h)
  have hown : s.vm.findClass RX5 = some m.cls := findClass_of_methodNamed B.named
  have hlocks := B.notSynchronized
  generalize hQ : MQ _ _ _ _ _ _ _ = Q
  have hl := lv_entry ([.ref (ad 0), .long (lN sx), .int (nI h)]) (n := 12) (Nat.le_of_ble_eq_true rfl)
  rw [lg_entry_eq]
  generalize (lg_sl ([.ref (ad 0), .long (lN sx), .int (nI h)]) ++ List.replicate (12 - (lg_sl ([.ref (ad 0), .long (lN sx), .int (nI h)])).length) Slot.unset).toArray = ls at hl ⊢
  have hl : lv_has ls 12 [(0, .ref (ad 0)), (1, .long (lN sx)), (3, .int (nI h))] := hl
  obtain ⟨hsx, hw0⟩ := hwf
  have hw1 := (hw0 h hh).1
  have hl7 := (hL h hh).1
  refine lv_lload_n hx hb dX5_does_0 rfl (lv_at hl 1 rfl) ?_
  refine lv_iload_n hx hb dX5_does_1 rfl (lv_at hl 2 rfl) ?_
  refine cSi (As := [.long (lN sx), .int (nI h)]) (rest := []) ⟨hx, hb, hml, hown, hts⟩ (c_X5_atOf l  sx h (by omega) (by omega)) (va_cwS 2 hts (gS mU_500 mU_501 mU_6 mU_502) rfl rfl rfl (by decide +kernel) ⟨Nat.le_of_ble_eq_true rfl, Nat.le_of_ble_eq_true rfl⟩) fbU (fun _ _ _ => trivial) rfl hl.1 rfl (Nat.le_of_ble_eq_true rfl) dX5_does_2 ⟨Nat.zero_le _, Nat.zero_le _⟩ ?_
  have hf_1 : bitsN sx (16 + 3 * h) 3 < 8 := bitsN_lt _ _ _
  refine lv_istore (lv' := [(4, .int (nI (bitsN sx (16 + 3 * h) 3))), (0, .ref (ad 0)), (1, .long (lN sx)), (3, .int (nI h))]) hx hb dX5_does_5 hl (by decide) rfl (fun ls hl => ?_)
  refine lv_lload_n hx hb dX5_does_7 rfl (lv_at hl 2 rfl) ?_
  refine lv_iload_n hx hb dX5_does_8 rfl (lv_at hl 3 rfl) ?_
  refine cSi (As := [.long (lN sx), .int (nI h)]) (rest := []) ⟨hx, hb, hml, hown, hts⟩ (c_X5_wishes l  sx h (by omega) (by omega)) (va_cwS 2 hts (gS mU_506 mU_507 mU_6 mU_508) rfl rfl rfl (by decide +kernel) ⟨Nat.le_of_ble_eq_true rfl, Nat.le_of_ble_eq_true rfl⟩) fbU (fun _ _ _ => trivial) rfl hl.1 rfl (Nat.le_of_ble_eq_true rfl) dX5_does_9 ⟨Nat.zero_le _, Nat.zero_le _⟩ ?_
  have hf_2 : bitsN sx (22 + 2 * h) 2 < 4 := bitsN_lt _ _ _
  refine lv_istore (lv' := [(5, .int (nI (bitsN sx (22 + 2 * h) 2))), (4, .int (nI (bitsN sx (16 + 3 * h) 3))), (0, .ref (ad 0)), (1, .long (lN sx)), (3, .int (nI h))]) hx hb dX5_does_12 hl (by decide) rfl (fun ls hl => ?_)
  refine lv_lload_n hx hb dX5_does_14 rfl (lv_at hl 3 rfl) ?_
  refine lv_bipush (v := nI 44) hx hb dX5_does_15 (by decide) ?_
  refine lv_iload_n hx hb dX5_does_17 rfl (lv_at hl 4 rfl) ?_
  refine lv_iadd hx hb dX5_does_18 ?_
  refine lv_topE (nI (44 + h)) (nI_add _ _) ?_
  refine lv_iconst (v := nI 1) hx hb dX5_does_19 (by decide) ?_
  refine cSi (As := [.long (lN sx), .int (nI (44 + h)), .int (nI 1)]) (rest := []) ⟨hx, hb, hml, hown, hts⟩ (c_X5_bits l  sx (44 + h) 1 (by omega) (by omega) (by omega)) (va_cwS 3 hts (gS mU_503 mU_504 mU_6 mU_505) rfl rfl rfl (by decide +kernel) ⟨Nat.le_of_ble_eq_true rfl, Nat.le_of_ble_eq_true rfl⟩) fbU (fun _ _ _ => trivial) rfl hl.1 rfl (Nat.le_of_ble_eq_true rfl) dX5_does_20 ⟨Nat.zero_le _, Nat.zero_le _⟩ ?_
  have hf_3 : bitsN sx (44 + h) 1 < 2 ^ 1 := bitsN_lt _ _ _
  refine lv_iconst (v := nI 1) hx hb dX5_does_23 (by decide) ?_
  refine lv_icmp_eq (tgt := 53) hx hb dX5_does_24 (by decide) (fun c24_4 => ?_) (fun c24_4 => ?_)
  · have c24_4 : bitsN sx (44 + h) 1 = 1 := (nI_eqG (a := bitsN sx (44 + h) 1) (b := 1) (by omega) (by omega)).mp c24_4
    refine lv_ldc2 (v := (-1)) hx hb hown (hU _ mU_483) dX5_does_53 ?_
    subst hQ
    exact rtl hx hb hr hlocks rfl (by unfold doesM; unfold doesM2; (try first | rw [if_pos c24_4] | rw [if_neg c24_4]); (try rfl)) dX5_does_56
  · have c24_4 : ¬ (bitsN sx (44 + h) 1 = 1) := fun h9 => c24_4 ((nI_eqG (a := bitsN sx (44 + h) 1) (b := 1) (by omega) (by omega)).mpr h9)
    refine lv_lload_n hx hb dX5_does_27 rfl (lv_at hl 3 rfl) ?_
    refine lv_bipush (v := nI 46) hx hb dX5_does_28 (by decide) ?_
    refine lv_iconst (v := nI 2) hx hb dX5_does_30 (by decide) ?_
    refine cSi (As := [.long (lN sx), .int (nI 46), .int (nI 2)]) (rest := []) ⟨hx, hb, hml, hown, hts⟩ (c_X5_bits l  sx 46 2 (by omega) (by omega) (by omega)) (va_cwS 3 hts (gS mU_503 mU_504 mU_6 mU_505) rfl rfl rfl (by decide +kernel) ⟨Nat.le_of_ble_eq_true rfl, Nat.le_of_ble_eq_true rfl⟩) fbU (fun _ _ _ => trivial) rfl hl.1 rfl (Nat.le_of_ble_eq_true rfl) dX5_does_31 ⟨Nat.zero_le _, Nat.zero_le _⟩ ?_
    have hf_5 : bitsN sx 46 2 < 2 ^ 2 := bitsN_lt _ _ _
    refine lv_iload_n hx hb dX5_does_34 rfl (lv_at hl 4 rfl) ?_
    refine lv_iconst (v := nI 1) hx hb dX5_does_35 (by decide) ?_
    refine lv_iadd hx hb dX5_does_36 ?_
    refine lv_topE (nI (h + 1)) (nI_add _ _) ?_
    refine lv_icmp_eq (tgt := 53) hx hb dX5_does_37 (by decide) (fun c37_6 => ?_) (fun c37_6 => ?_)
    · have c37_6 : bitsN sx 46 2 = h + 1 := (nI_eqG (a := bitsN sx 46 2) (b := h + 1) (by omega) (by omega)).mp c37_6
      refine lv_ldc2 (v := (-1)) hx hb hown (hU _ mU_483) dX5_does_53 ?_
      subst hQ
      exact rtl hx hb hr hlocks rfl (by unfold doesM; unfold doesM2; (try first | rw [if_pos c24_4] | rw [if_neg c24_4]); (try first | rw [if_pos c37_6] | rw [if_neg c37_6]); (try rfl)) dX5_does_56
    · have c37_6 : ¬ (bitsN sx 46 2 = h + 1) := fun h9 => c37_6 ((nI_eqG (a := bitsN sx 46 2) (b := h + 1) (by omega) (by omega)).mpr h9)
      refine lv_iload hx hb dX5_does_40 (lv_at hl 1 rfl) ?_
      refine lv_aload_n hx hb dX5_does_42 rfl (lv_at hl 2 rfl) ?_
      refine va_get (D := D) (ci := 5) (v := .ref (ad 1)) (C := RX5) (T := TX5) (N := 23) hx hb hU iX5 hown hK hP 0 rfl rfl 0 (by decide) (hU _ mU_75) (fun _ h9 => h9) rfl dX5_does_43 ?_
      refine lv_iconst (v := nI 2) hx hb dX5_does_46 (by decide) ?_
      refine lv_iload_n hx hb dX5_does_47 rfl (lv_at hl 4 rfl) ?_
      refine lv_iadd hx hb dX5_does_48 ?_
      refine lv_topE (nI (2 + h)) (nI_add _ _) ?_
      refine n_iald hx hb hK hP 1 0 rfl rfl (i := 2 + h) (by omega) (by decide) dX5_does_49 ?_
      have hb_7 := hg 1 (by decide) (2 + h)
      refine lv_icmp_ne (tgt := 57) hx hb dX5_does_50 (by decide) (fun c50_8 => ?_) (fun c50_8 => ?_)
      · have c50_8 : ¬ (bitsN sx (16 + 3 * h) 3 = (g 1) (2 + h)) := fun h9 => c50_8 ((nI_eqG (a := bitsN sx (16 + 3 * h) 3) (b := (g 1) (2 + h)) (by omega) (by omega)).mpr h9)
        have hso := ((hL h hh).2 (bitsN sx (16 + 3 * h) 3) (by omega)).1
        refine lv_bipush (v := nI 16) hx hb dX5_does_57 (by decide) ?_
        refine lv_bipush (v := nI 8) hx hb dX5_does_59 (by decide) ?_
        refine lv_iload_n hx hb dX5_does_61 rfl (lv_at hl 4 rfl) ?_
        refine lv_imul hx hb dX5_does_62 ?_
        refine lv_topE (nI (8 * h)) (pk_mul _ _) ?_
        refine lv_iadd hx hb dX5_does_63 ?_
        refine lv_topE (nI (16 + (8 * h))) (nI_add _ _) ?_
        refine lv_iload hx hb dX5_does_64 (lv_at hl 1 rfl) ?_
        refine lv_iadd hx hb dX5_does_66 ?_
        refine lv_topE (nI ((16 + (8 * h)) + (bitsN sx (16 + 3 * h) 3))) (nI_add _ _) ?_
        refine lv_istore (lv' := [(6, .int (nI ((16 + (8 * h)) + (bitsN sx (16 + 3 * h) 3)))), (5, .int (nI (bitsN sx (22 + 2 * h) 2))), (4, .int (nI (bitsN sx (16 + 3 * h) 3))), (0, .ref (ad 0)), (1, .long (lN sx)), (3, .int (nI h))]) hx hb dX5_does_67 hl (by decide) rfl (fun ls hl => ?_)
        refine lv_aload_n hx hb dX5_does_69 rfl (lv_at hl 3 rfl) ?_
        refine va_get (D := D) (ci := 5) (v := .ref (ad 3)) (C := RX5) (T := TX5) (N := 23) hx hb hU iX5 hown hK hP 0 rfl rfl 2 (by decide) (hU _ mU_77) (fun _ h9 => h9) rfl dX5_does_70 ?_
        refine lv_iconst (v := nI 4) hx hb dX5_does_73 (by decide) ?_
        refine lv_iload hx hb dX5_does_74 (lv_at hl 0 rfl) ?_
        refine lv_imul hx hb dX5_does_76 ?_
        refine lv_topE (nI (4 * ((16 + (8 * h)) + (bitsN sx (16 + 3 * h) 3)))) (pk_mul _ _) ?_
        refine n_iald hx hb hK hP 3 2 rfl rfl (i := 4 * ((16 + (8 * h)) + (bitsN sx (16 + 3 * h) 3))) (by omega) (by decide) dX5_does_77 ?_
        have hb_9 := hg 3 (by decide) (4 * ((16 + (8 * h)) + (bitsN sx (16 + 3 * h) 3)))
        refine lv_istore (lv' := [(7, .int (nI ((g 3) (4 * ((16 + (8 * h)) + (bitsN sx (16 + 3 * h) 3)))))), (6, .int (nI ((16 + (8 * h)) + (bitsN sx (16 + 3 * h) 3)))), (5, .int (nI (bitsN sx (22 + 2 * h) 2))), (4, .int (nI (bitsN sx (16 + 3 * h) 3))), (0, .ref (ad 0)), (1, .long (lN sx)), (3, .int (nI h))]) hx hb dX5_does_78 hl (by decide) rfl (fun ls hl => ?_)
        refine lv_aload_n hx hb dX5_does_80 rfl (lv_at hl 4 rfl) ?_
        refine va_get (D := D) (ci := 5) (v := .ref (ad 3)) (C := RX5) (T := TX5) (N := 23) hx hb hU iX5 hown hK hP 0 rfl rfl 2 (by decide) (hU _ mU_77) (fun _ h9 => h9) rfl dX5_does_81 ?_
        refine lv_iconst (v := nI 4) hx hb dX5_does_84 (by decide) ?_
        refine lv_iload hx hb dX5_does_85 (lv_at hl 1 rfl) ?_
        refine lv_imul hx hb dX5_does_87 ?_
        refine lv_topE (nI (4 * ((16 + (8 * h)) + (bitsN sx (16 + 3 * h) 3)))) (pk_mul _ _) ?_
        refine lv_iconst (v := nI 1) hx hb dX5_does_88 (by decide) ?_
        refine lv_iadd hx hb dX5_does_89 ?_
        refine lv_topE (nI ((4 * ((16 + (8 * h)) + (bitsN sx (16 + 3 * h) 3))) + 1)) (nI_add _ _) ?_
        refine n_iald hx hb hK hP 3 2 rfl rfl (i := (4 * ((16 + (8 * h)) + (bitsN sx (16 + 3 * h) 3))) + 1) (by omega) (by decide) dX5_does_90 ?_
        have hb_10 := hg 3 (by decide) ((4 * ((16 + (8 * h)) + (bitsN sx (16 + 3 * h) 3))) + 1)
        refine lv_istore (lv' := [(8, .int (nI ((g 3) ((4 * ((16 + (8 * h)) + (bitsN sx (16 + 3 * h) 3))) + 1)))), (7, .int (nI ((g 3) (4 * ((16 + (8 * h)) + (bitsN sx (16 + 3 * h) 3)))))), (6, .int (nI ((16 + (8 * h)) + (bitsN sx (16 + 3 * h) 3)))), (5, .int (nI (bitsN sx (22 + 2 * h) 2))), (4, .int (nI (bitsN sx (16 + 3 * h) 3))), (0, .ref (ad 0)), (1, .long (lN sx)), (3, .int (nI h))]) hx hb dX5_does_91 hl (by decide) rfl (fun ls hl => ?_)
        refine lv_lload_n hx hb dX5_does_93 rfl (lv_at hl 6 rfl) ?_
        refine lv_bipush (v := nI 16) hx hb dX5_does_94 (by decide) ?_
        refine lv_iconst (v := nI 3) hx hb dX5_does_96 (by decide) ?_
        refine lv_iload_n hx hb dX5_does_97 rfl (lv_at hl 7 rfl) ?_
        refine lv_imul hx hb dX5_does_98 ?_
        refine lv_topE (nI (3 * h)) (pk_mul _ _) ?_
        refine lv_iadd hx hb dX5_does_99 ?_
        refine lv_topE (nI (16 + (3 * h))) (nI_add _ _) ?_
        refine lv_iconst (v := nI 3) hx hb dX5_does_100 (by decide) ?_
        refine lv_iload hx hb dX5_does_101 (lv_at hl 4 rfl) ?_
        refine lv_iconst (v := nI 1) hx hb dX5_does_103 (by decide) ?_
        refine lv_iadd hx hb dX5_does_104 ?_
        refine lv_topE (nI ((bitsN sx (16 + 3 * h) 3) + 1)) (nI_add _ _) ?_
        refine cSl (As := [.long (lN sx), .int (nI (16 + (3 * h))), .int (nI 3), .int (nI ((bitsN sx (16 + 3 * h) 3) + 1))]) (rest := []) ⟨hx, hb, hml, hown, hts⟩ (c_X5_with l  sx (16 + (3 * h)) 3 ((bitsN sx (16 + 3 * h) 3) + 1) (by omega) (by omega) (by omega) (by omega)) (va_cwS 4 hts (gS mU_480 mU_481 mU_6 mU_482) rfl rfl rfl (by decide +kernel) ⟨Nat.le_of_ble_eq_true rfl, Nat.le_of_ble_eq_true rfl⟩) fbU (fun _ _ _ => trivial) rfl hl.1 rfl (Nat.le_of_ble_eq_true rfl) dX5_does_105 ⟨Nat.zero_le _, Nat.zero_le _⟩ ?_
        have hf_11 : withN sx (16 + (3 * h)) 3 ((bitsN sx (16 + 3 * h) 3) + 1) < 2 ^ 48 := withN_lt (by omega) (by omega) (by omega)
        refine lv_lstore (lv' := [(9, .long (lN (withN sx (16 + (3 * h)) 3 ((bitsN sx (16 + 3 * h) 3) + 1)))), (8, .int (nI ((g 3) ((4 * ((16 + (8 * h)) + (bitsN sx (16 + 3 * h) 3))) + 1)))), (7, .int (nI ((g 3) (4 * ((16 + (8 * h)) + (bitsN sx (16 + 3 * h) 3)))))), (6, .int (nI ((16 + (8 * h)) + (bitsN sx (16 + 3 * h) 3)))), (5, .int (nI (bitsN sx (22 + 2 * h) 2))), (4, .int (nI (bitsN sx (16 + 3 * h) 3))), (0, .ref (ad 0)), (1, .long (lN sx)), (3, .int (nI h))]) hx hb dX5_does_108 hl (by decide) rfl (fun ls hl => ?_)
        refine lv_aload_n hx hb dX5_does_110 rfl (lv_at hl 6 rfl) ?_
        refine va_get (D := D) (ci := 5) (v := .ref (ad 2)) (C := RX5) (T := TX5) (N := 23) hx hb hU iX5 hown hK hP 0 rfl rfl 1 (by decide) (hU _ mU_76) (fun _ h9 => h9) rfl dX5_does_111 ?_
        refine lv_iload hx hb dX5_does_114 (lv_at hl 3 rfl) ?_
        refine n_iald hx hb hK hP 2 1 rfl rfl (i := (16 + (8 * h)) + (bitsN sx (16 + 3 * h) 3)) (by omega) (by decide) dX5_does_116 ?_
        have hb_12 := hg 2 (by decide) ((16 + (8 * h)) + (bitsN sx (16 + 3 * h) 3))
        rcases (show (g 2) ((16 + (8 * h)) + (bitsN sx (16 + 3 * h) 3)) = 4 ∨ (g 2) ((16 + (8 * h)) + (bitsN sx (16 + 3 * h) 3)) = 5 ∨ (g 2) ((16 + (8 * h)) + (bitsN sx (16 + 3 * h) 3)) = 6 ∨ (g 2) ((16 + (8 * h)) + (bitsN sx (16 + 3 * h) 3)) = 7 ∨ (g 2) ((16 + (8 * h)) + (bitsN sx (16 + 3 * h) 3)) = 8 ∨ ((g 2) ((16 + (8 * h)) + (bitsN sx (16 + 3 * h) 3)) < 4 ∨ 8 < (g 2) ((16 + (8 * h)) + (bitsN sx (16 + 3 * h) 3))) by omega) with c117_13 | c117_13 | c117_13 | c117_13 | c117_13 | c117_13
        · have hx9 : (nI ((g 2) ((16 + (8 * h)) + (bitsN sx (16 + 3 * h) 3)))).toInt = 4 := by rw [nI_toInt (show (g 2) ((16 + (8 * h)) + (bitsN sx (16 + 3 * h) 3)) < 2 ^ 31 by omega)]; omega
          refine lv_tableIn (tgt := 152) (off := 35) hx hb dX5_does_117 (by rw [hx9]; decide) (by rw [hx9]; decide) (by rw [hx9]; rfl) (by decide) ?_
          refine lv_aload_n hx hb dX5_does_152 rfl (lv_at hl 6 rfl) ?_
          refine lv_lload_n hx hb dX5_does_153 rfl (lv_at hl 7 rfl) ?_
          refine lv_iload_n hx hb dX5_does_154 rfl (lv_at hl 8 rfl) ?_
          refine cVi (As := [.long (lN sx), .int (nI h)]) (rest := []) ⟨hx, hb, hml, hown, hts⟩ (c_X5_hasGet l D ad ka f g t sx h (hg) (by omega) (by omega)) (cwV 2 hts (gV mU_509 mU_510 mU_511 mU_6 mU_512) rfl rfl rfl (by decide +kernel) ⟨Nat.le_of_ble_eq_true rfl, Nat.le_of_ble_eq_true rfl⟩) fbR (va_recv hK hP (ci := 5) (q0 := 0) rfl rfl) (PR.of hP hK) rfl hl.1 rfl (Nat.le_of_ble_eq_true rfl) dX5_does_155 ⟨Nat.zero_le _, Nat.zero_le _⟩ ?_
          refine lv_if_eq (tgt := 167) hx hb dX5_does_158 (by decide) (fun c158_14 => ?_) (fun c158_14 => ?_)
          · have c158_14 : ¬ (hasGetM g sx h) := bP_f c158_14
            refine lv_lload hx hb dX5_does_167 (lv_at hl 0 rfl) ?_
            subst hQ
            exact rtl hx hb hr hlocks rfl (by unfold doesM; unfold doesM2; (try first | rw [if_pos c24_4] | rw [if_neg c24_4]); (try first | rw [if_pos c37_6] | rw [if_neg c37_6]); (try first | rw [if_pos c50_8] | rw [if_neg c50_8]); (try rw [c117_13]); (try first | rw [if_pos c158_14] | rw [if_neg c158_14]); (try rfl)) dX5_does_169
          · have c158_14 : hasGetM g sx h := bP_t c158_14
            refine lv_ldc2 (v := (-1)) hx hb hown (hU _ mU_483) dX5_does_161 ?_
            refine lv_goto (tgt := 169) hx hb dX5_does_164 (by decide) ?_
            subst hQ
            exact rtl hx hb hr hlocks rfl (by unfold doesM; unfold doesM2; (try first | rw [if_pos c24_4] | rw [if_neg c24_4]); (try first | rw [if_pos c37_6] | rw [if_neg c37_6]); (try first | rw [if_pos c50_8] | rw [if_neg c50_8]); (try rw [c117_13]); (try first | rw [if_pos c158_14] | rw [if_neg c158_14]); (try rfl)) dX5_does_169
        · have hx9 : (nI ((g 2) ((16 + (8 * h)) + (bitsN sx (16 + 3 * h) 3)))).toInt = 5 := by rw [nI_toInt (show (g 2) ((16 + (8 * h)) + (bitsN sx (16 + 3 * h) 3)) < 2 ^ 31 by omega)]; omega
          refine lv_tableIn (tgt := 170) (off := 53) hx hb dX5_does_117 (by rw [hx9]; decide) (by rw [hx9]; decide) (by rw [hx9]; rfl) (by decide) ?_
          refine lv_iload hx hb dX5_does_170 (lv_at hl 4 rfl) ?_
          refine lv_if_le (tgt := 181) hx hb dX5_does_172 (by decide) (fun c172_15 => ?_) (fun c172_15 => ?_)
          · have c172_15 : bitsN sx (22 + 2 * h) 2 = 0 := (nI_leZ (a := bitsN sx (22 + 2 * h) 2) (by omega)).mp c172_15
            refine lv_lload hx hb dX5_does_181 (lv_at hl 0 rfl) ?_
            subst hQ
            exact rtl hx hb hr hlocks rfl (by unfold doesM; unfold doesM2; (try first | rw [if_pos c24_4] | rw [if_neg c24_4]); (try first | rw [if_pos c37_6] | rw [if_neg c37_6]); (try first | rw [if_pos c50_8] | rw [if_neg c50_8]); (try rw [c117_13]); (try first | rw [if_pos c172_15] | rw [if_neg c172_15]); (try rfl)) dX5_does_183
          · have c172_15 : ¬ (bitsN sx (22 + 2 * h) 2 = 0) := fun h9 => c172_15 ((nI_leZ (a := bitsN sx (22 + 2 * h) 2) (by omega)).mpr h9)
            refine lv_ldc2 (v := (-1)) hx hb hown (hU _ mU_483) dX5_does_175 ?_
            refine lv_goto (tgt := 183) hx hb dX5_does_178 (by decide) ?_
            subst hQ
            exact rtl hx hb hr hlocks rfl (by unfold doesM; unfold doesM2; (try first | rw [if_pos c24_4] | rw [if_neg c24_4]); (try first | rw [if_pos c37_6] | rw [if_neg c37_6]); (try first | rw [if_pos c50_8] | rw [if_neg c50_8]); (try rw [c117_13]); (try first | rw [if_pos c172_15] | rw [if_neg c172_15]); (try rfl)) dX5_does_183
        · have hx9 : (nI ((g 2) ((16 + (8 * h)) + (bitsN sx (16 + 3 * h) 3)))).toInt = 6 := by rw [nI_toInt (show (g 2) ((16 + (8 * h)) + (bitsN sx (16 + 3 * h) 3)) < 2 ^ 31 by omega)]; omega
          refine lv_tableIn (tgt := 184) (off := 67) hx hb dX5_does_117 (by rw [hx9]; decide) (by rw [hx9]; decide) (by rw [hx9]; rfl) (by decide) ?_
          have hk6 := okS_6 ((hL h hh).2 (bitsN sx (16 + 3 * h) 3) (by omega)) c117_13
          refine lv_lload hx hb dX5_does_184 (lv_at hl 0 rfl) ?_
          refine lv_iconst (v := nI 2) hx hb dX5_does_186 (by decide) ?_
          refine lv_iload hx hb dX5_does_187 (lv_at hl 2 rfl) ?_
          refine lv_imul hx hb dX5_does_189 ?_
          refine lv_topE (nI (2 * ((g 3) (4 * ((16 + (8 * h)) + (bitsN sx (16 + 3 * h) 3)))))) (pk_mul _ _) ?_
          refine lv_iconst (v := nI 2) hx hb dX5_does_190 (by decide) ?_
          refine lv_iload hx hb dX5_does_191 (lv_at hl 1 rfl) ?_
          refine cSl (As := [.long (lN (withN sx (16 + (3 * h)) 3 ((bitsN sx (16 + 3 * h) 3) + 1))), .int (nI (2 * ((g 3) (4 * ((16 + (8 * h)) + (bitsN sx (16 + 3 * h) 3)))))), .int (nI 2), .int (nI ((g 3) ((4 * ((16 + (8 * h)) + (bitsN sx (16 + 3 * h) 3))) + 1)))]) (rest := []) ⟨hx, hb, hml, hown, hts⟩ (c_X5_with l  (withN sx (16 + (3 * h)) 3 ((bitsN sx (16 + 3 * h) 3) + 1)) (2 * ((g 3) (4 * ((16 + (8 * h)) + (bitsN sx (16 + 3 * h) 3))))) 2 ((g 3) ((4 * ((16 + (8 * h)) + (bitsN sx (16 + 3 * h) 3))) + 1)) (by omega) (by omega) (by omega) (by omega)) (va_cwS 4 hts (gS mU_480 mU_481 mU_6 mU_482) rfl rfl rfl (by decide +kernel) ⟨Nat.le_of_ble_eq_true rfl, Nat.le_of_ble_eq_true rfl⟩) fbU (fun _ _ _ => trivial) rfl hl.1 rfl (Nat.le_of_ble_eq_true rfl) dX5_does_193 ⟨Nat.zero_le _, Nat.zero_le _⟩ ?_
          have hf_16 : withN (withN sx (16 + (3 * h)) 3 ((bitsN sx (16 + 3 * h) 3) + 1)) (2 * ((g 3) (4 * ((16 + (8 * h)) + (bitsN sx (16 + 3 * h) 3))))) 2 ((g 3) ((4 * ((16 + (8 * h)) + (bitsN sx (16 + 3 * h) 3))) + 1)) < 2 ^ 48 := withN_lt (by omega) (by omega) (by omega)
          subst hQ
          exact rtl hx hb hr hlocks rfl (by unfold doesM; unfold doesM2; (try first | rw [if_pos c24_4] | rw [if_neg c24_4]); (try first | rw [if_pos c37_6] | rw [if_neg c37_6]); (try first | rw [if_pos c50_8] | rw [if_neg c50_8]); (try rw [c117_13]); (try rfl)) dX5_does_196
        · have hx9 : (nI ((g 2) ((16 + (8 * h)) + (bitsN sx (16 + 3 * h) 3)))).toInt = 7 := by rw [nI_toInt (show (g 2) ((16 + (8 * h)) + (bitsN sx (16 + 3 * h) 3)) < 2 ^ 31 by omega)]; omega
          refine lv_tableIn (tgt := 197) (off := 80) hx hb dX5_does_117 (by rw [hx9]; decide) (by rw [hx9]; decide) (by rw [hx9]; rfl) (by decide) ?_
          have hk7 := okS_7 ((hL h hh).2 (bitsN sx (16 + 3 * h) 3) (by omega)) c117_13
          refine lv_lload hx hb dX5_does_197 (lv_at hl 0 rfl) ?_
          refine lv_bipush (v := nI 8) hx hb dX5_does_199 (by decide) ?_
          refine lv_iconst (v := nI 4) hx hb dX5_does_201 (by decide) ?_
          refine lv_iload_n hx hb dX5_does_202 rfl (lv_at hl 8 rfl) ?_
          refine lv_imul hx hb dX5_does_203 ?_
          refine lv_topE (nI (4 * h)) (pk_mul _ _) ?_
          refine lv_iadd hx hb dX5_does_204 ?_
          refine lv_topE (nI (8 + (4 * h))) (nI_add _ _) ?_
          refine lv_iconst (v := nI 2) hx hb dX5_does_205 (by decide) ?_
          refine lv_iload hx hb dX5_does_206 (lv_at hl 1 rfl) ?_
          refine lv_imul hx hb dX5_does_208 ?_
          refine lv_topE (nI (2 * ((g 3) ((4 * ((16 + (8 * h)) + (bitsN sx (16 + 3 * h) 3))) + 1)))) (pk_mul _ _) ?_
          refine lv_iadd hx hb dX5_does_209 ?_
          refine lv_topE (nI ((8 + (4 * h)) + (2 * ((g 3) ((4 * ((16 + (8 * h)) + (bitsN sx (16 + 3 * h) 3))) + 1))))) (nI_add _ _) ?_
          refine lv_iconst (v := nI 2) hx hb dX5_does_210 (by decide) ?_
          refine lv_lload_n hx hb dX5_does_211 rfl (lv_at hl 7 rfl) ?_
          refine lv_iconst (v := nI 2) hx hb dX5_does_212 (by decide) ?_
          refine lv_iload hx hb dX5_does_213 (lv_at hl 2 rfl) ?_
          refine lv_imul hx hb dX5_does_215 ?_
          refine lv_topE (nI (2 * ((g 3) (4 * ((16 + (8 * h)) + (bitsN sx (16 + 3 * h) 3)))))) (pk_mul _ _) ?_
          refine lv_iconst (v := nI 2) hx hb dX5_does_216 (by decide) ?_
          refine cSi (As := [.long (lN sx), .int (nI (2 * ((g 3) (4 * ((16 + (8 * h)) + (bitsN sx (16 + 3 * h) 3)))))), .int (nI 2)]) (rest := [.int (nI 2), .int (nI ((8 + (4 * h)) + (2 * ((g 3) ((4 * ((16 + (8 * h)) + (bitsN sx (16 + 3 * h) 3))) + 1))))), .long (lN (withN sx (16 + (3 * h)) 3 ((bitsN sx (16 + 3 * h) 3) + 1)))]) ⟨hx, hb, hml, hown, hts⟩ (c_X5_bits l  sx (2 * ((g 3) (4 * ((16 + (8 * h)) + (bitsN sx (16 + 3 * h) 3))))) 2 (by omega) (by omega) (by omega)) (va_cwS 3 hts (gS mU_503 mU_504 mU_6 mU_505) rfl rfl rfl (by decide +kernel) ⟨Nat.le_of_ble_eq_true rfl, Nat.le_of_ble_eq_true rfl⟩) fbU (fun _ _ _ => trivial) rfl hl.1 rfl (Nat.le_of_ble_eq_true rfl) dX5_does_217 ⟨Nat.zero_le _, Nat.zero_le _⟩ ?_
          have hf_17 : bitsN sx (2 * ((g 3) (4 * ((16 + (8 * h)) + (bitsN sx (16 + 3 * h) 3))))) 2 < 2 ^ 2 := bitsN_lt _ _ _
          refine cSl (As := [.long (lN (withN sx (16 + (3 * h)) 3 ((bitsN sx (16 + 3 * h) 3) + 1))), .int (nI ((8 + (4 * h)) + (2 * ((g 3) ((4 * ((16 + (8 * h)) + (bitsN sx (16 + 3 * h) 3))) + 1))))), .int (nI 2), .int (nI (bitsN sx (2 * ((g 3) (4 * ((16 + (8 * h)) + (bitsN sx (16 + 3 * h) 3))))) 2))]) (rest := []) ⟨hx, hb, hml, hown, hts⟩ (c_X5_with l  (withN sx (16 + (3 * h)) 3 ((bitsN sx (16 + 3 * h) 3) + 1)) ((8 + (4 * h)) + (2 * ((g 3) ((4 * ((16 + (8 * h)) + (bitsN sx (16 + 3 * h) 3))) + 1)))) 2 (bitsN sx (2 * ((g 3) (4 * ((16 + (8 * h)) + (bitsN sx (16 + 3 * h) 3))))) 2) (by omega) (by omega) (by omega) (by omega)) (va_cwS 4 hts (gS mU_480 mU_481 mU_6 mU_482) rfl rfl rfl (by decide +kernel) ⟨Nat.le_of_ble_eq_true rfl, Nat.le_of_ble_eq_true rfl⟩) fbU (fun _ _ _ => trivial) rfl hl.1 rfl (Nat.le_of_ble_eq_true rfl) dX5_does_220 ⟨Nat.zero_le _, Nat.zero_le _⟩ ?_
          have hf_18 : withN (withN sx (16 + (3 * h)) 3 ((bitsN sx (16 + 3 * h) 3) + 1)) ((8 + (4 * h)) + (2 * ((g 3) ((4 * ((16 + (8 * h)) + (bitsN sx (16 + 3 * h) 3))) + 1)))) 2 (bitsN sx (2 * ((g 3) (4 * ((16 + (8 * h)) + (bitsN sx (16 + 3 * h) 3))))) 2) < 2 ^ 48 := withN_lt (by omega) (by omega) (by omega)
          subst hQ
          exact rtl hx hb hr hlocks rfl (by unfold doesM; unfold doesM2; (try first | rw [if_pos c24_4] | rw [if_neg c24_4]); (try first | rw [if_pos c37_6] | rw [if_neg c37_6]); (try first | rw [if_pos c50_8] | rw [if_neg c50_8]); (try rw [c117_13]); (try rfl)) dX5_does_223
        · have hx9 : (nI ((g 2) ((16 + (8 * h)) + (bitsN sx (16 + 3 * h) 3)))).toInt = 8 := by rw [nI_toInt (show (g 2) ((16 + (8 * h)) + (bitsN sx (16 + 3 * h) 3)) < 2 ^ 31 by omega)]; omega
          refine lv_tableIn (tgt := 224) (off := 107) hx hb dX5_does_117 (by rw [hx9]; decide) (by rw [hx9]; decide) (by rw [hx9]; rfl) (by decide) ?_
          have hk8 := okS_8 ((hL h hh).2 (bitsN sx (16 + 3 * h) 3) (by omega)) c117_13
          refine lv_lload_n hx hb dX5_does_224 rfl (lv_at hl 7 rfl) ?_
          refine lv_bipush (v := nI 8) hx hb dX5_does_225 (by decide) ?_
          refine lv_iconst (v := nI 4) hx hb dX5_does_227 (by decide) ?_
          refine lv_iload_n hx hb dX5_does_228 rfl (lv_at hl 8 rfl) ?_
          refine lv_imul hx hb dX5_does_229 ?_
          refine lv_topE (nI (4 * h)) (pk_mul _ _) ?_
          refine lv_iadd hx hb dX5_does_230 ?_
          refine lv_topE (nI (8 + (4 * h))) (nI_add _ _) ?_
          refine lv_iconst (v := nI 2) hx hb dX5_does_231 (by decide) ?_
          refine lv_iload hx hb dX5_does_232 (lv_at hl 2 rfl) ?_
          refine lv_imul hx hb dX5_does_234 ?_
          refine lv_topE (nI (2 * ((g 3) (4 * ((16 + (8 * h)) + (bitsN sx (16 + 3 * h) 3)))))) (pk_mul _ _) ?_
          refine lv_iadd hx hb dX5_does_235 ?_
          refine lv_topE (nI ((8 + (4 * h)) + (2 * ((g 3) (4 * ((16 + (8 * h)) + (bitsN sx (16 + 3 * h) 3))))))) (nI_add _ _) ?_
          refine lv_iconst (v := nI 2) hx hb dX5_does_236 (by decide) ?_
          refine cSi (As := [.long (lN sx), .int (nI ((8 + (4 * h)) + (2 * ((g 3) (4 * ((16 + (8 * h)) + (bitsN sx (16 + 3 * h) 3))))))), .int (nI 2)]) (rest := []) ⟨hx, hb, hml, hown, hts⟩ (c_X5_bits l  sx ((8 + (4 * h)) + (2 * ((g 3) (4 * ((16 + (8 * h)) + (bitsN sx (16 + 3 * h) 3)))))) 2 (by omega) (by omega) (by omega)) (va_cwS 3 hts (gS mU_503 mU_504 mU_6 mU_505) rfl rfl rfl (by decide +kernel) ⟨Nat.le_of_ble_eq_true rfl, Nat.le_of_ble_eq_true rfl⟩) fbU (fun _ _ _ => trivial) rfl hl.1 rfl (Nat.le_of_ble_eq_true rfl) dX5_does_237 ⟨Nat.zero_le _, Nat.zero_le _⟩ ?_
          have hf_19 : bitsN sx ((8 + (4 * h)) + (2 * ((g 3) (4 * ((16 + (8 * h)) + (bitsN sx (16 + 3 * h) 3)))))) 2 < 2 ^ 2 := bitsN_lt _ _ _
          refine lv_iload hx hb dX5_does_240 (lv_at hl 1 rfl) ?_
          refine lv_icmp_ne (tgt := 264) hx hb dX5_does_242 (by decide) (fun c242_20 => ?_) (fun c242_20 => ?_)
          · have c242_20 : ¬ (bitsN sx ((8 + (4 * h)) + (2 * ((g 3) (4 * ((16 + (8 * h)) + (bitsN sx (16 + 3 * h) 3)))))) 2 = (g 3) ((4 * ((16 + (8 * h)) + (bitsN sx (16 + 3 * h) 3))) + 1)) := fun h9 => c242_20 ((nI_eqG (a := bitsN sx ((8 + (4 * h)) + (2 * ((g 3) (4 * ((16 + (8 * h)) + (bitsN sx (16 + 3 * h) 3)))))) 2) (b := (g 3) ((4 * ((16 + (8 * h)) + (bitsN sx (16 + 3 * h) 3))) + 1)) (by omega) (by omega)).mpr h9)
            refine lv_iload hx hb dX5_does_264 (lv_at hl 5 rfl) ?_
            refine lv_iconst (v := nI 1) hx hb dX5_does_266 (by decide) ?_
            refine lv_iadd hx hb dX5_does_267 ?_
            refine lv_topE (nI ((bitsN sx (16 + 3 * h) 3) + 1)) (nI_add _ _) ?_
            refine lv_istore (lv' := [(11, .int (nI ((bitsN sx (16 + 3 * h) 3) + 1))), (9, .long (lN (withN sx (16 + (3 * h)) 3 ((bitsN sx (16 + 3 * h) 3) + 1)))), (8, .int (nI ((g 3) ((4 * ((16 + (8 * h)) + (bitsN sx (16 + 3 * h) 3))) + 1)))), (7, .int (nI ((g 3) (4 * ((16 + (8 * h)) + (bitsN sx (16 + 3 * h) 3)))))), (6, .int (nI ((16 + (8 * h)) + (bitsN sx (16 + 3 * h) 3)))), (5, .int (nI (bitsN sx (22 + 2 * h) 2))), (4, .int (nI (bitsN sx (16 + 3 * h) 3))), (0, .ref (ad 0)), (1, .long (lN sx)), (3, .int (nI h))]) hx hb dX5_does_268 hl (by decide) rfl (fun ls hl => ?_)
            refine lv_lload_n hx hb dX5_does_270 rfl (lv_at hl 8 rfl) ?_
            refine lv_bipush (v := nI 16) hx hb dX5_does_271 (by decide) ?_
            refine lv_iconst (v := nI 3) hx hb dX5_does_273 (by decide) ?_
            refine lv_iload_n hx hb dX5_does_274 rfl (lv_at hl 9 rfl) ?_
            refine lv_imul hx hb dX5_does_275 ?_
            refine lv_topE (nI (3 * h)) (pk_mul _ _) ?_
            refine lv_iadd hx hb dX5_does_276 ?_
            refine lv_topE (nI (16 + (3 * h))) (nI_add _ _) ?_
            refine lv_iconst (v := nI 3) hx hb dX5_does_277 (by decide) ?_
            refine lv_iload hx hb dX5_does_278 (lv_at hl 0 rfl) ?_
            refine lv_aload_n hx hb dX5_does_280 rfl (lv_at hl 7 rfl) ?_
            refine va_get (D := D) (ci := 5) (v := .ref (ad 1)) (C := RX5) (T := TX5) (N := 23) hx hb hU iX5 hown hK hP 0 rfl rfl 0 (by decide) (hU _ mU_75) (fun _ h9 => h9) rfl dX5_does_281 ?_
            refine lv_iconst (v := nI 2) hx hb dX5_does_284 (by decide) ?_
            refine lv_iload_n hx hb dX5_does_285 rfl (lv_at hl 9 rfl) ?_
            refine lv_iadd hx hb dX5_does_286 ?_
            refine lv_topE (nI (2 + h)) (nI_add _ _) ?_
            refine n_iald hx hb hK hP 1 0 rfl rfl (i := 2 + h) (by omega) (by decide) dX5_does_287 ?_
            have hb_21 := hg 1 (by decide) (2 + h)
            refine lv_icmp_le (tgt := 302) hx hb dX5_does_288 (by decide) (fun c288_22 => ?_) (fun c288_22 => ?_)
            · have c288_22 : (bitsN sx (16 + 3 * h) 3) + 1 ≤ (g 1) (2 + h) := (nI_leI (a := (bitsN sx (16 + 3 * h) 3) + 1) (b := (g 1) (2 + h)) (by omega) (by omega)).mp c288_22
              refine lv_iload hx hb dX5_does_302 (lv_at hl 0 rfl) ?_
              refine cSl (As := [.long (lN sx), .int (nI (16 + (3 * h))), .int (nI 3), .int (nI ((bitsN sx (16 + 3 * h) 3) + 1))]) (rest := []) ⟨hx, hb, hml, hown, hts⟩ (c_X5_with l  sx (16 + (3 * h)) 3 ((bitsN sx (16 + 3 * h) 3) + 1) (by omega) (by omega) (by omega) (by omega)) (va_cwS 4 hts (gS mU_480 mU_481 mU_6 mU_482) rfl rfl rfl (by decide +kernel) ⟨Nat.le_of_ble_eq_true rfl, Nat.le_of_ble_eq_true rfl⟩) fbU (fun _ _ _ => trivial) rfl hl.1 rfl (Nat.le_of_ble_eq_true rfl) dX5_does_304 ⟨Nat.zero_le _, Nat.zero_le _⟩ ?_
              have hf_23 : withN sx (16 + (3 * h)) 3 ((bitsN sx (16 + 3 * h) 3) + 1) < 2 ^ 48 := withN_lt (by omega) (by omega) (by omega)
              subst hQ
              exact rtl hx hb hr hlocks rfl (by unfold doesM; unfold doesM2; (try first | rw [if_pos c24_4] | rw [if_neg c24_4]); (try first | rw [if_pos c37_6] | rw [if_neg c37_6]); (try first | rw [if_pos c50_8] | rw [if_neg c50_8]); (try rw [c117_13]); (try first | rw [if_pos c242_20] | rw [if_neg c242_20]); (try first | rw [if_pos c288_22] | rw [if_neg c288_22]); (try rfl)) dX5_does_307
            · have c288_22 : ¬ ((bitsN sx (16 + 3 * h) 3) + 1 ≤ (g 1) (2 + h)) := fun h9 => c288_22 ((nI_leI (a := (bitsN sx (16 + 3 * h) 3) + 1) (b := (g 1) (2 + h)) (by omega) (by omega)).mpr h9)
              refine lv_aload_n hx hb dX5_does_291 rfl (lv_at hl 7 rfl) ?_
              refine va_get (D := D) (ci := 5) (v := .ref (ad 1)) (C := RX5) (T := TX5) (N := 23) hx hb hU iX5 hown hK hP 0 rfl rfl 0 (by decide) (hU _ mU_75) (fun _ h9 => h9) rfl dX5_does_292 ?_
              refine lv_iconst (v := nI 2) hx hb dX5_does_295 (by decide) ?_
              refine lv_iload_n hx hb dX5_does_296 rfl (lv_at hl 9 rfl) ?_
              refine lv_iadd hx hb dX5_does_297 ?_
              refine lv_topE (nI (2 + h)) (nI_add _ _) ?_
              refine n_iald hx hb hK hP 1 0 rfl rfl (i := 2 + h) (by omega) (by decide) dX5_does_298 ?_
              have hb_24 := hg 1 (by decide) (2 + h)
              refine lv_goto (tgt := 304) hx hb dX5_does_299 (by decide) ?_
              refine cSl (As := [.long (lN sx), .int (nI (16 + (3 * h))), .int (nI 3), .int (nI ((g 1) (2 + h)))]) (rest := []) ⟨hx, hb, hml, hown, hts⟩ (c_X5_with l  sx (16 + (3 * h)) 3 ((g 1) (2 + h)) (by omega) (by omega) (by omega) (by omega)) (va_cwS 4 hts (gS mU_480 mU_481 mU_6 mU_482) rfl rfl rfl (by decide +kernel) ⟨Nat.le_of_ble_eq_true rfl, Nat.le_of_ble_eq_true rfl⟩) fbU (fun _ _ _ => trivial) rfl hl.1 rfl (Nat.le_of_ble_eq_true rfl) dX5_does_304 ⟨Nat.zero_le _, Nat.zero_le _⟩ ?_
              have hf_25 : withN sx (16 + (3 * h)) 3 ((g 1) (2 + h)) < 2 ^ 48 := withN_lt (by omega) (by omega) (by omega)
              subst hQ
              exact rtl hx hb hr hlocks rfl (by unfold doesM; unfold doesM2; (try first | rw [if_pos c24_4] | rw [if_neg c24_4]); (try first | rw [if_pos c37_6] | rw [if_neg c37_6]); (try first | rw [if_pos c50_8] | rw [if_neg c50_8]); (try rw [c117_13]); (try first | rw [if_pos c242_20] | rw [if_neg c242_20]); (try first | rw [if_pos c288_22] | rw [if_neg c288_22]); (try rfl)) dX5_does_307
          · have c242_20 : bitsN sx ((8 + (4 * h)) + (2 * ((g 3) (4 * ((16 + (8 * h)) + (bitsN sx (16 + 3 * h) 3)))))) 2 = (g 3) ((4 * ((16 + (8 * h)) + (bitsN sx (16 + 3 * h) 3))) + 1) := (nI_eqG (a := bitsN sx ((8 + (4 * h)) + (2 * ((g 3) (4 * ((16 + (8 * h)) + (bitsN sx (16 + 3 * h) 3)))))) 2) (b := (g 3) ((4 * ((16 + (8 * h)) + (bitsN sx (16 + 3 * h) 3))) + 1)) (by omega) (by omega)).mp c242_20
            refine lv_iload hx hb dX5_does_245 (lv_at hl 5 rfl) ?_
            refine lv_iconst (v := nI 1) hx hb dX5_does_247 (by decide) ?_
            refine lv_iadd hx hb dX5_does_248 ?_
            refine lv_topE (nI ((bitsN sx (16 + 3 * h) 3) + 1)) (nI_add _ _) ?_
            refine lv_aload_n hx hb dX5_does_249 rfl (lv_at hl 6 rfl) ?_
            refine va_get (D := D) (ci := 5) (v := .ref (ad 3)) (C := RX5) (T := TX5) (N := 23) hx hb hU iX5 hown hK hP 0 rfl rfl 2 (by decide) (hU _ mU_77) (fun _ h9 => h9) rfl dX5_does_250 ?_
            refine lv_iconst (v := nI 4) hx hb dX5_does_253 (by decide) ?_
            refine lv_iload hx hb dX5_does_254 (lv_at hl 3 rfl) ?_
            refine lv_imul hx hb dX5_does_256 ?_
            refine lv_topE (nI (4 * ((16 + (8 * h)) + (bitsN sx (16 + 3 * h) 3)))) (pk_mul _ _) ?_
            refine lv_iconst (v := nI 2) hx hb dX5_does_257 (by decide) ?_
            refine lv_iadd hx hb dX5_does_258 ?_
            refine lv_topE (nI ((4 * ((16 + (8 * h)) + (bitsN sx (16 + 3 * h) 3))) + 2)) (nI_add _ _) ?_
            refine n_iald hx hb hK hP 3 2 rfl rfl (i := (4 * ((16 + (8 * h)) + (bitsN sx (16 + 3 * h) 3))) + 2) (by omega) (by decide) dX5_does_259 ?_
            have hb_26 := hg 3 (by decide) ((4 * ((16 + (8 * h)) + (bitsN sx (16 + 3 * h) 3))) + 2)
            refine lv_iadd hx hb dX5_does_260 ?_
            refine lv_topE (nI (((bitsN sx (16 + 3 * h) 3) + 1) + ((g 3) ((4 * ((16 + (8 * h)) + (bitsN sx (16 + 3 * h) 3))) + 2)))) (nI_add _ _) ?_
            refine lv_goto (tgt := 268) hx hb dX5_does_261 (by decide) ?_
            refine lv_istore (lv' := [(11, .int (nI (((bitsN sx (16 + 3 * h) 3) + 1) + ((g 3) ((4 * ((16 + (8 * h)) + (bitsN sx (16 + 3 * h) 3))) + 2))))), (9, .long (lN (withN sx (16 + (3 * h)) 3 ((bitsN sx (16 + 3 * h) 3) + 1)))), (8, .int (nI ((g 3) ((4 * ((16 + (8 * h)) + (bitsN sx (16 + 3 * h) 3))) + 1)))), (7, .int (nI ((g 3) (4 * ((16 + (8 * h)) + (bitsN sx (16 + 3 * h) 3)))))), (6, .int (nI ((16 + (8 * h)) + (bitsN sx (16 + 3 * h) 3)))), (5, .int (nI (bitsN sx (22 + 2 * h) 2))), (4, .int (nI (bitsN sx (16 + 3 * h) 3))), (0, .ref (ad 0)), (1, .long (lN sx)), (3, .int (nI h))]) hx hb dX5_does_268 hl (by decide) rfl (fun ls hl => ?_)
            refine lv_lload_n hx hb dX5_does_270 rfl (lv_at hl 8 rfl) ?_
            refine lv_bipush (v := nI 16) hx hb dX5_does_271 (by decide) ?_
            refine lv_iconst (v := nI 3) hx hb dX5_does_273 (by decide) ?_
            refine lv_iload_n hx hb dX5_does_274 rfl (lv_at hl 9 rfl) ?_
            refine lv_imul hx hb dX5_does_275 ?_
            refine lv_topE (nI (3 * h)) (pk_mul _ _) ?_
            refine lv_iadd hx hb dX5_does_276 ?_
            refine lv_topE (nI (16 + (3 * h))) (nI_add _ _) ?_
            refine lv_iconst (v := nI 3) hx hb dX5_does_277 (by decide) ?_
            refine lv_iload hx hb dX5_does_278 (lv_at hl 0 rfl) ?_
            refine lv_aload_n hx hb dX5_does_280 rfl (lv_at hl 7 rfl) ?_
            refine va_get (D := D) (ci := 5) (v := .ref (ad 1)) (C := RX5) (T := TX5) (N := 23) hx hb hU iX5 hown hK hP 0 rfl rfl 0 (by decide) (hU _ mU_75) (fun _ h9 => h9) rfl dX5_does_281 ?_
            refine lv_iconst (v := nI 2) hx hb dX5_does_284 (by decide) ?_
            refine lv_iload_n hx hb dX5_does_285 rfl (lv_at hl 9 rfl) ?_
            refine lv_iadd hx hb dX5_does_286 ?_
            refine lv_topE (nI (2 + h)) (nI_add _ _) ?_
            refine n_iald hx hb hK hP 1 0 rfl rfl (i := 2 + h) (by omega) (by decide) dX5_does_287 ?_
            have hb_27 := hg 1 (by decide) (2 + h)
            refine lv_icmp_le (tgt := 302) hx hb dX5_does_288 (by decide) (fun c288_28 => ?_) (fun c288_28 => ?_)
            · have c288_28 : ((bitsN sx (16 + 3 * h) 3) + 1) + ((g 3) ((4 * ((16 + (8 * h)) + (bitsN sx (16 + 3 * h) 3))) + 2)) ≤ (g 1) (2 + h) := (nI_leI (a := ((bitsN sx (16 + 3 * h) 3) + 1) + ((g 3) ((4 * ((16 + (8 * h)) + (bitsN sx (16 + 3 * h) 3))) + 2))) (b := (g 1) (2 + h)) (by omega) (by omega)).mp c288_28
              refine lv_iload hx hb dX5_does_302 (lv_at hl 0 rfl) ?_
              refine cSl (As := [.long (lN sx), .int (nI (16 + (3 * h))), .int (nI 3), .int (nI (((bitsN sx (16 + 3 * h) 3) + 1) + ((g 3) ((4 * ((16 + (8 * h)) + (bitsN sx (16 + 3 * h) 3))) + 2))))]) (rest := []) ⟨hx, hb, hml, hown, hts⟩ (c_X5_with l  sx (16 + (3 * h)) 3 (((bitsN sx (16 + 3 * h) 3) + 1) + ((g 3) ((4 * ((16 + (8 * h)) + (bitsN sx (16 + 3 * h) 3))) + 2))) (by omega) (by omega) (by omega) (by omega)) (va_cwS 4 hts (gS mU_480 mU_481 mU_6 mU_482) rfl rfl rfl (by decide +kernel) ⟨Nat.le_of_ble_eq_true rfl, Nat.le_of_ble_eq_true rfl⟩) fbU (fun _ _ _ => trivial) rfl hl.1 rfl (Nat.le_of_ble_eq_true rfl) dX5_does_304 ⟨Nat.zero_le _, Nat.zero_le _⟩ ?_
              have hf_29 : withN sx (16 + (3 * h)) 3 (((bitsN sx (16 + 3 * h) 3) + 1) + ((g 3) ((4 * ((16 + (8 * h)) + (bitsN sx (16 + 3 * h) 3))) + 2))) < 2 ^ 48 := withN_lt (by omega) (by omega) (by omega)
              subst hQ
              exact rtl hx hb hr hlocks rfl (by unfold doesM; unfold doesM2; (try first | rw [if_pos c24_4] | rw [if_neg c24_4]); (try first | rw [if_pos c37_6] | rw [if_neg c37_6]); (try first | rw [if_pos c50_8] | rw [if_neg c50_8]); (try rw [c117_13]); (try first | rw [if_pos c242_20] | rw [if_neg c242_20]); (try first | rw [if_pos c288_28] | rw [if_neg c288_28]); (try rfl)) dX5_does_307
            · have c288_28 : ¬ (((bitsN sx (16 + 3 * h) 3) + 1) + ((g 3) ((4 * ((16 + (8 * h)) + (bitsN sx (16 + 3 * h) 3))) + 2)) ≤ (g 1) (2 + h)) := fun h9 => c288_28 ((nI_leI (a := ((bitsN sx (16 + 3 * h) 3) + 1) + ((g 3) ((4 * ((16 + (8 * h)) + (bitsN sx (16 + 3 * h) 3))) + 2))) (b := (g 1) (2 + h)) (by omega) (by omega)).mpr h9)
              refine lv_aload_n hx hb dX5_does_291 rfl (lv_at hl 7 rfl) ?_
              refine va_get (D := D) (ci := 5) (v := .ref (ad 1)) (C := RX5) (T := TX5) (N := 23) hx hb hU iX5 hown hK hP 0 rfl rfl 0 (by decide) (hU _ mU_75) (fun _ h9 => h9) rfl dX5_does_292 ?_
              refine lv_iconst (v := nI 2) hx hb dX5_does_295 (by decide) ?_
              refine lv_iload_n hx hb dX5_does_296 rfl (lv_at hl 9 rfl) ?_
              refine lv_iadd hx hb dX5_does_297 ?_
              refine lv_topE (nI (2 + h)) (nI_add _ _) ?_
              refine n_iald hx hb hK hP 1 0 rfl rfl (i := 2 + h) (by omega) (by decide) dX5_does_298 ?_
              have hb_30 := hg 1 (by decide) (2 + h)
              refine lv_goto (tgt := 304) hx hb dX5_does_299 (by decide) ?_
              refine cSl (As := [.long (lN sx), .int (nI (16 + (3 * h))), .int (nI 3), .int (nI ((g 1) (2 + h)))]) (rest := []) ⟨hx, hb, hml, hown, hts⟩ (c_X5_with l  sx (16 + (3 * h)) 3 ((g 1) (2 + h)) (by omega) (by omega) (by omega) (by omega)) (va_cwS 4 hts (gS mU_480 mU_481 mU_6 mU_482) rfl rfl rfl (by decide +kernel) ⟨Nat.le_of_ble_eq_true rfl, Nat.le_of_ble_eq_true rfl⟩) fbU (fun _ _ _ => trivial) rfl hl.1 rfl (Nat.le_of_ble_eq_true rfl) dX5_does_304 ⟨Nat.zero_le _, Nat.zero_le _⟩ ?_
              have hf_31 : withN sx (16 + (3 * h)) 3 ((g 1) (2 + h)) < 2 ^ 48 := withN_lt (by omega) (by omega) (by omega)
              subst hQ
              exact rtl hx hb hr hlocks rfl (by unfold doesM; unfold doesM2; (try first | rw [if_pos c24_4] | rw [if_neg c24_4]); (try first | rw [if_pos c37_6] | rw [if_neg c37_6]); (try first | rw [if_pos c50_8] | rw [if_neg c50_8]); (try rw [c117_13]); (try first | rw [if_pos c242_20] | rw [if_neg c242_20]); (try first | rw [if_pos c288_28] | rw [if_neg c288_28]); (try rfl)) dX5_does_307
        · refine lv_tableOut (tgt := 308) hx hb dX5_does_117 (by rw [nI_toInt (show (g 2) ((16 + (8 * h)) + (bitsN sx (16 + 3 * h) 3)) < 2 ^ 31 by omega)]; omega) (by decide) ?_
          have n117_4 : ¬ ((g 2) ((16 + (8 * h)) + (bitsN sx (16 + 3 * h) 3)) = 4) := by omega
          have n117_5 : ¬ ((g 2) ((16 + (8 * h)) + (bitsN sx (16 + 3 * h) 3)) = 5) := by omega
          have n117_6 : ¬ ((g 2) ((16 + (8 * h)) + (bitsN sx (16 + 3 * h) 3)) = 6) := by omega
          have n117_7 : ¬ ((g 2) ((16 + (8 * h)) + (bitsN sx (16 + 3 * h) 3)) = 7) := by omega
          have n117_8 : ¬ ((g 2) ((16 + (8 * h)) + (bitsN sx (16 + 3 * h) 3)) = 8) := by omega
          refine lv_iload hx hb dX5_does_308 (lv_at hl 4 rfl) ?_
          refine lv_iconst (v := nI 3) hx hb dX5_does_310 (by decide) ?_
          refine lv_icmp_ne (tgt := 320) hx hb dX5_does_311 (by decide) (fun c311_32 => ?_) (fun c311_32 => ?_)
          · have c311_32 : ¬ (bitsN sx (22 + 2 * h) 2 = 3) := fun h9 => c311_32 ((nI_eqG (a := bitsN sx (22 + 2 * h) 2) (b := 3) (by omega) (by omega)).mpr h9)
            refine lv_lload hx hb dX5_does_320 (lv_at hl 0 rfl) ?_
            refine lv_bipush (v := nI 26) hx hb dX5_does_322 (by decide) ?_
            refine lv_bipush (v := nI 9) hx hb dX5_does_324 (by decide) ?_
            refine lv_iload_n hx hb dX5_does_326 rfl (lv_at hl 8 rfl) ?_
            refine lv_imul hx hb dX5_does_327 ?_
            refine lv_topE (nI (9 * h)) (pk_mul _ _) ?_
            refine lv_iadd hx hb dX5_does_328 ?_
            refine lv_topE (nI (26 + (9 * h))) (nI_add _ _) ?_
            refine lv_iconst (v := nI 3) hx hb dX5_does_329 (by decide) ?_
            refine lv_iload hx hb dX5_does_330 (lv_at hl 4 rfl) ?_
            refine lv_imul hx hb dX5_does_332 ?_
            refine lv_topE (nI (3 * (bitsN sx (22 + 2 * h) 2))) (pk_mul _ _) ?_
            refine lv_iadd hx hb dX5_does_333 ?_
            refine lv_topE (nI ((26 + (9 * h)) + (3 * (bitsN sx (22 + 2 * h) 2)))) (nI_add _ _) ?_
            refine lv_iconst (v := nI 3) hx hb dX5_does_334 (by decide) ?_
            refine lv_iload hx hb dX5_does_335 (lv_at hl 5 rfl) ?_
            refine cSl (As := [.long (lN (withN sx (16 + (3 * h)) 3 ((bitsN sx (16 + 3 * h) 3) + 1))), .int (nI ((26 + (9 * h)) + (3 * (bitsN sx (22 + 2 * h) 2)))), .int (nI 3), .int (nI (bitsN sx (16 + 3 * h) 3))]) (rest := []) ⟨hx, hb, hml, hown, hts⟩ (c_X5_with l  (withN sx (16 + (3 * h)) 3 ((bitsN sx (16 + 3 * h) 3) + 1)) ((26 + (9 * h)) + (3 * (bitsN sx (22 + 2 * h) 2))) 3 (bitsN sx (16 + 3 * h) 3) (by omega) (by omega) (by omega) (by omega)) (va_cwS 4 hts (gS mU_480 mU_481 mU_6 mU_482) rfl rfl rfl (by decide +kernel) ⟨Nat.le_of_ble_eq_true rfl, Nat.le_of_ble_eq_true rfl⟩) fbU (fun _ _ _ => trivial) rfl hl.1 rfl (Nat.le_of_ble_eq_true rfl) dX5_does_337 ⟨Nat.zero_le _, Nat.zero_le _⟩ ?_
            have hf_33 : withN (withN sx (16 + (3 * h)) 3 ((bitsN sx (16 + 3 * h) 3) + 1)) ((26 + (9 * h)) + (3 * (bitsN sx (22 + 2 * h) 2))) 3 (bitsN sx (16 + 3 * h) 3) < 2 ^ 48 := withN_lt (by omega) (by omega) (by omega)
            refine lv_bipush (v := nI 22) hx hb dX5_does_340 (by decide) ?_
            refine lv_iconst (v := nI 2) hx hb dX5_does_342 (by decide) ?_
            refine lv_iload_n hx hb dX5_does_343 rfl (lv_at hl 8 rfl) ?_
            refine lv_imul hx hb dX5_does_344 ?_
            refine lv_topE (nI (2 * h)) (pk_mul _ _) ?_
            refine lv_iadd hx hb dX5_does_345 ?_
            refine lv_topE (nI (22 + (2 * h))) (nI_add _ _) ?_
            refine lv_iconst (v := nI 2) hx hb dX5_does_346 (by decide) ?_
            refine lv_iload hx hb dX5_does_347 (lv_at hl 4 rfl) ?_
            refine lv_iconst (v := nI 1) hx hb dX5_does_349 (by decide) ?_
            refine lv_iadd hx hb dX5_does_350 ?_
            refine lv_topE (nI ((bitsN sx (22 + 2 * h) 2) + 1)) (nI_add _ _) ?_
            refine cSl (As := [.long (lN (withN (withN sx (16 + (3 * h)) 3 ((bitsN sx (16 + 3 * h) 3) + 1)) ((26 + (9 * h)) + (3 * (bitsN sx (22 + 2 * h) 2))) 3 (bitsN sx (16 + 3 * h) 3))), .int (nI (22 + (2 * h))), .int (nI 2), .int (nI ((bitsN sx (22 + 2 * h) 2) + 1))]) (rest := []) ⟨hx, hb, hml, hown, hts⟩ (c_X5_with l  (withN (withN sx (16 + (3 * h)) 3 ((bitsN sx (16 + 3 * h) 3) + 1)) ((26 + (9 * h)) + (3 * (bitsN sx (22 + 2 * h) 2))) 3 (bitsN sx (16 + 3 * h) 3)) (22 + (2 * h)) 2 ((bitsN sx (22 + 2 * h) 2) + 1) (by omega) (by omega) (by omega) (by omega)) (va_cwS 4 hts (gS mU_480 mU_481 mU_6 mU_482) rfl rfl rfl (by decide +kernel) ⟨Nat.le_of_ble_eq_true rfl, Nat.le_of_ble_eq_true rfl⟩) fbU (fun _ _ _ => trivial) rfl hl.1 rfl (Nat.le_of_ble_eq_true rfl) dX5_does_351 ⟨Nat.zero_le _, Nat.zero_le _⟩ ?_
            have hf_34 : withN (withN (withN sx (16 + (3 * h)) 3 ((bitsN sx (16 + 3 * h) 3) + 1)) ((26 + (9 * h)) + (3 * (bitsN sx (22 + 2 * h) 2))) 3 (bitsN sx (16 + 3 * h) 3)) (22 + (2 * h)) 2 ((bitsN sx (22 + 2 * h) 2) + 1) < 2 ^ 48 := withN_lt (by omega) (by omega) (by omega)
            subst hQ
            exact rtl hx hb hr hlocks rfl (by unfold doesM; unfold doesM2; (try first | rw [if_pos c24_4] | rw [if_neg c24_4]); (try first | rw [if_pos c37_6] | rw [if_neg c37_6]); (try first | rw [if_pos c50_8] | rw [if_neg c50_8]); (try rw [if_neg n117_4, if_neg n117_5, if_neg n117_6, if_neg n117_7, if_neg n117_8]); (try first | rw [if_pos c311_32] | rw [if_neg c311_32]); (try rfl)) dX5_does_354
          · have c311_32 : bitsN sx (22 + 2 * h) 2 = 3 := (nI_eqG (a := bitsN sx (22 + 2 * h) 2) (b := 3) (by omega) (by omega)).mp c311_32
            refine lv_ldc2 (v := (-1)) hx hb hown (hU _ mU_483) dX5_does_314 ?_
            refine lv_goto (tgt := 354) hx hb dX5_does_317 (by decide) ?_
            subst hQ
            exact rtl hx hb hr hlocks rfl (by unfold doesM; unfold doesM2; (try first | rw [if_pos c24_4] | rw [if_neg c24_4]); (try first | rw [if_pos c37_6] | rw [if_neg c37_6]); (try first | rw [if_pos c50_8] | rw [if_neg c50_8]); (try rw [if_neg n117_4, if_neg n117_5, if_neg n117_6, if_neg n117_7, if_neg n117_8]); (try first | rw [if_pos c311_32] | rw [if_neg c311_32]); (try rfl)) dX5_does_354
      · have c50_8 : bitsN sx (16 + 3 * h) 3 = (g 1) (2 + h) := (nI_eqG (a := bitsN sx (16 + 3 * h) 3) (b := (g 1) (2 + h)) (by omega) (by omega)).mp c50_8
        refine lv_ldc2 (v := (-1)) hx hb hown (hU _ mU_483) dX5_does_53 ?_
        subst hQ
        exact rtl hx hb hr hlocks rfl (by unfold doesM; unfold doesM2; (try first | rw [if_pos c24_4] | rw [if_neg c24_4]); (try first | rw [if_pos c37_6] | rw [if_neg c37_6]); (try first | rw [if_pos c50_8] | rw [if_neg c50_8]); (try rfl)) dX5_does_56

set_option maxHeartbeats 4000000 in
set_option maxRecDepth 100000 in
theorem c_X5_broken (l : Launch) (sx : Nat) (h : Nat) (hsx : sx < 2 ^ 48) (hh : h < 2) : Met l yX5_broken (.code yX5_broken cX5_broken 3 (some .long) :: wsL_law) ({ frames := 1, cells := 0, slots := 0, locals := 24 }) (va_Pc [.long (lN sx), .int (nI h)] PU) (QrL (lN (brokenM sx h))) 0 0 (fun _ => False) := by
  refine Met.ofW (cc := cX5_broken) (maxL := 3) (ret := (some .long)) (by decide) rfl ?_
  intro p e s m args below meth c s₁ B hml hv
  obtain ⟨rfl, hv⟩ := hv
  have hx := B.exec
  have hb := B.bytes
  have hr := B.returns
  have hts := atoms_spec (ws := .code yX5_broken cX5_broken 3 (some .long) :: wsL_law) B.pre
  have hU : ∀ w ∈ wsL_law, w.before _ s = true := fun w h => hts w (List.mem_cons_of_mem _ h)
  have hown : s.vm.findClass RX5 = some m.cls := findClass_of_methodNamed B.named
  have hlocks := B.notSynchronized
  generalize hQ : MQ _ _ _ _ _ _ _ = Q
  have hl := lv_entry ([.long (lN sx), .int (nI h)]) (n := 3) (Nat.le_of_ble_eq_true rfl)
  rw [lg_entry_eq]
  generalize (lg_sl ([.long (lN sx), .int (nI h)]) ++ List.replicate (3 - (lg_sl ([.long (lN sx), .int (nI h)])).length) Slot.unset).toArray = ls at hl ⊢
  have hl : lv_has ls 3 [(0, .long (lN sx)), (2, .int (nI h))] := hl
  refine lv_lload_n hx hb dX5_broken_0 rfl (lv_at hl 0 rfl) ?_
  refine lv_bipush (v := nI 26) hx hb dX5_broken_1 (by decide) ?_
  refine lv_bipush (v := nI 9) hx hb dX5_broken_3 (by decide) ?_
  refine lv_iload_n hx hb dX5_broken_5 rfl (lv_at hl 1 rfl) ?_
  refine lv_imul hx hb dX5_broken_6 ?_
  refine lv_topE (nI (9 * h)) (pk_mul _ _) ?_
  refine lv_iadd hx hb dX5_broken_7 ?_
  refine lv_topE (nI (26 + (9 * h))) (nI_add _ _) ?_
  refine lv_bipush (v := nI 9) hx hb dX5_broken_8 (by decide) ?_
  refine lv_iconst (v := nI 0) hx hb dX5_broken_10 (by decide) ?_
  refine cSl (As := [.long (lN sx), .int (nI (26 + (9 * h))), .int (nI 9), .int (nI 0)]) (rest := []) ⟨hx, hb, hml, hown, hts⟩ (c_X5_with l  sx (26 + (9 * h)) 9 0 (by omega) (by omega) (by omega) (by omega)) (va_cwS 4 hts (gS mU_480 mU_481 mU_6 mU_482) rfl rfl rfl (by decide +kernel) ⟨Nat.le_of_ble_eq_true rfl, Nat.le_of_ble_eq_true rfl⟩) fbU (fun _ _ _ => trivial) rfl hl.1 rfl (Nat.le_of_ble_eq_true rfl) dX5_broken_11 ⟨Nat.zero_le _, Nat.zero_le _⟩ ?_
  have hf_1 : withN sx (26 + (9 * h)) 9 0 < 2 ^ 48 := withN_lt (by omega) (by omega) (by omega)
  refine lv_bipush (v := nI 22) hx hb dX5_broken_14 (by decide) ?_
  refine lv_iconst (v := nI 2) hx hb dX5_broken_16 (by decide) ?_
  refine lv_iload_n hx hb dX5_broken_17 rfl (lv_at hl 1 rfl) ?_
  refine lv_imul hx hb dX5_broken_18 ?_
  refine lv_topE (nI (2 * h)) (pk_mul _ _) ?_
  refine lv_iadd hx hb dX5_broken_19 ?_
  refine lv_topE (nI (22 + (2 * h))) (nI_add _ _) ?_
  refine lv_iconst (v := nI 2) hx hb dX5_broken_20 (by decide) ?_
  refine lv_iconst (v := nI 0) hx hb dX5_broken_21 (by decide) ?_
  refine cSl (As := [.long (lN (withN sx (26 + (9 * h)) 9 0)), .int (nI (22 + (2 * h))), .int (nI 2), .int (nI 0)]) (rest := []) ⟨hx, hb, hml, hown, hts⟩ (c_X5_with l  (withN sx (26 + (9 * h)) 9 0) (22 + (2 * h)) 2 0 (by omega) (by omega) (by omega) (by omega)) (va_cwS 4 hts (gS mU_480 mU_481 mU_6 mU_482) rfl rfl rfl (by decide +kernel) ⟨Nat.le_of_ble_eq_true rfl, Nat.le_of_ble_eq_true rfl⟩) fbU (fun _ _ _ => trivial) rfl hl.1 rfl (Nat.le_of_ble_eq_true rfl) dX5_broken_22 ⟨Nat.zero_le _, Nat.zero_le _⟩ ?_
  have hf_2 : withN (withN sx (26 + (9 * h)) 9 0) (22 + (2 * h)) 2 0 < 2 ^ 48 := withN_lt (by omega) (by omega) (by omega)
  refine lv_bipush (v := nI 44) hx hb dX5_broken_25 (by decide) ?_
  refine lv_iload_n hx hb dX5_broken_27 rfl (lv_at hl 1 rfl) ?_
  refine lv_iadd hx hb dX5_broken_28 ?_
  refine lv_topE (nI (44 + h)) (nI_add _ _) ?_
  refine lv_iconst (v := nI 1) hx hb dX5_broken_29 (by decide) ?_
  refine lv_iconst (v := nI 1) hx hb dX5_broken_30 (by decide) ?_
  refine cSl (As := [.long (lN (withN (withN sx (26 + (9 * h)) 9 0) (22 + (2 * h)) 2 0)), .int (nI (44 + h)), .int (nI 1), .int (nI 1)]) (rest := []) ⟨hx, hb, hml, hown, hts⟩ (c_X5_with l  (withN (withN sx (26 + (9 * h)) 9 0) (22 + (2 * h)) 2 0) (44 + h) 1 1 (by omega) (by omega) (by omega) (by omega)) (va_cwS 4 hts (gS mU_480 mU_481 mU_6 mU_482) rfl rfl rfl (by decide +kernel) ⟨Nat.le_of_ble_eq_true rfl, Nat.le_of_ble_eq_true rfl⟩) fbU (fun _ _ _ => trivial) rfl hl.1 rfl (Nat.le_of_ble_eq_true rfl) dX5_broken_31 ⟨Nat.zero_le _, Nat.zero_le _⟩ ?_
  have hf_3 : withN (withN (withN sx (26 + (9 * h)) 9 0) (22 + (2 * h)) 2 0) (44 + h) 1 1 < 2 ^ 48 := withN_lt (by omega) (by omega) (by omega)
  subst hQ
  exact rtl hx hb hr hlocks rfl (rfl) dX5_broken_34

set_option maxHeartbeats 4000000 in
set_option maxRecDepth 100000 in
theorem c_X5_act (l : Launch) (D : va_G) (ad : Nat → Nat) (ka : Nat → ClassId) (f : Nat → Nat) (g : Nat → Nat → Nat) (t : Nat → Nat) (sx : Nat) (h : Nat) (so : Nat) (kk : Nat) (hg : ∀ a, a < 6 → ∀ i, g a i < 2147483648) (hsx : sx < 2 ^ 48) (hh : h < 2) (hkk : kk < 32) (hso : so < 4) (hok : okS so (g 3 (4 * kk)) (g 3 (4 * kk + 1)) (g 3 (4 * kk + 2)) (g 3 (4 * kk + 3))) : Met l yX5_act (.code yX5_act cX5_act 13 (some .long) :: wsL_law) ({ frames := 1, cells := 0, slots := 0, locals := 24 }) (va_Pc [.ref (ad 0), .long (lN sx), .int (nI h), .int (nI so), .int (nI kk)] (PR D (mW ad ka f g t) (mT ka))) (QrL (lN (actM g sx h so kk))) 0 0 (fun _ => False) := by
  refine Met.ofW (cc := cX5_act) (maxL := 13) (ret := (some .long)) (by decide) rfl ?_
  intro p e s m args below meth c s₁ B hml hv
  obtain ⟨rfl, hP, hK⟩ := hv
  have hx := B.exec
  have hb := B.bytes
  have hr := B.returns
  have hts := atoms_spec (ws := .code yX5_act cX5_act 13 (some .long) :: wsL_law) B.pre
  have hU : ∀ w ∈ wsL_law, w.before _ s = true := fun w h => hts w (List.mem_cons_of_mem _ h)
  have hown : s.vm.findClass RX5 = some m.cls := findClass_of_methodNamed B.named
  have hlocks := B.notSynchronized
  generalize hQ : MQ _ _ _ _ _ _ _ = Q
  have hl := lv_entry ([.ref (ad 0), .long (lN sx), .int (nI h), .int (nI so), .int (nI kk)]) (n := 13) (Nat.le_of_ble_eq_true rfl)
  rw [lg_entry_eq]
  generalize (lg_sl ([.ref (ad 0), .long (lN sx), .int (nI h), .int (nI so), .int (nI kk)]) ++ List.replicate (13 - (lg_sl ([.ref (ad 0), .long (lN sx), .int (nI h), .int (nI so), .int (nI kk)])).length) Slot.unset).toArray = ls at hl ⊢
  have hl : lv_has ls 13 [(0, .ref (ad 0)), (1, .long (lN sx)), (3, .int (nI h)), (4, .int (nI so)), (5, .int (nI kk))] := hl
  have hka := okS_a hok hso
  have hkc := okS_c hok
  have hkd := okS_d hok
  have hkb := okS_b hok
  refine lv_aload_n hx hb dX5_act_0 rfl (lv_at hl 0 rfl) ?_
  refine va_get (D := D) (ci := 5) (v := .ref (ad 3)) (C := RX5) (T := TX5) (N := 23) hx hb hU iX5 hown hK hP 0 rfl rfl 2 (by decide) (hU _ mU_77) (fun _ h9 => h9) rfl dX5_act_1 ?_
  refine lv_iconst (v := nI 4) hx hb dX5_act_4 (by decide) ?_
  refine lv_iload hx hb dX5_act_5 (lv_at hl 4 rfl) ?_
  refine lv_imul hx hb dX5_act_7 ?_
  refine lv_topE (nI (4 * kk)) (pk_mul _ _) ?_
  refine n_iald hx hb hK hP 3 2 rfl rfl (i := 4 * kk) (by omega) (by decide) dX5_act_8 ?_
  have hb_1 := hg 3 (by decide) (4 * kk)
  refine lv_istore (lv' := [(6, .int (nI ((g 3) (4 * kk)))), (0, .ref (ad 0)), (1, .long (lN sx)), (3, .int (nI h)), (4, .int (nI so)), (5, .int (nI kk))]) hx hb dX5_act_9 hl (by decide) rfl (fun ls hl => ?_)
  refine lv_aload_n hx hb dX5_act_11 rfl (lv_at hl 1 rfl) ?_
  refine va_get (D := D) (ci := 5) (v := .ref (ad 3)) (C := RX5) (T := TX5) (N := 23) hx hb hU iX5 hown hK hP 0 rfl rfl 2 (by decide) (hU _ mU_77) (fun _ h9 => h9) rfl dX5_act_12 ?_
  refine lv_iconst (v := nI 4) hx hb dX5_act_15 (by decide) ?_
  refine lv_iload hx hb dX5_act_16 (lv_at hl 5 rfl) ?_
  refine lv_imul hx hb dX5_act_18 ?_
  refine lv_topE (nI (4 * kk)) (pk_mul _ _) ?_
  refine lv_iconst (v := nI 1) hx hb dX5_act_19 (by decide) ?_
  refine lv_iadd hx hb dX5_act_20 ?_
  refine lv_topE (nI ((4 * kk) + 1)) (nI_add _ _) ?_
  refine n_iald hx hb hK hP 3 2 rfl rfl (i := (4 * kk) + 1) (by omega) (by decide) dX5_act_21 ?_
  have hb_2 := hg 3 (by decide) ((4 * kk) + 1)
  refine lv_istore (lv' := [(7, .int (nI ((g 3) ((4 * kk) + 1)))), (6, .int (nI ((g 3) (4 * kk)))), (0, .ref (ad 0)), (1, .long (lN sx)), (3, .int (nI h)), (4, .int (nI so)), (5, .int (nI kk))]) hx hb dX5_act_22 hl (by decide) rfl (fun ls hl => ?_)
  refine lv_aload_n hx hb dX5_act_24 rfl (lv_at hl 2 rfl) ?_
  refine va_get (D := D) (ci := 5) (v := .ref (ad 3)) (C := RX5) (T := TX5) (N := 23) hx hb hU iX5 hown hK hP 0 rfl rfl 2 (by decide) (hU _ mU_77) (fun _ h9 => h9) rfl dX5_act_25 ?_
  refine lv_iconst (v := nI 4) hx hb dX5_act_28 (by decide) ?_
  refine lv_iload hx hb dX5_act_29 (lv_at hl 6 rfl) ?_
  refine lv_imul hx hb dX5_act_31 ?_
  refine lv_topE (nI (4 * kk)) (pk_mul _ _) ?_
  refine lv_iconst (v := nI 2) hx hb dX5_act_32 (by decide) ?_
  refine lv_iadd hx hb dX5_act_33 ?_
  refine lv_topE (nI ((4 * kk) + 2)) (nI_add _ _) ?_
  refine n_iald hx hb hK hP 3 2 rfl rfl (i := (4 * kk) + 2) (by omega) (by decide) dX5_act_34 ?_
  have hb_3 := hg 3 (by decide) ((4 * kk) + 2)
  refine lv_istore (lv' := [(8, .int (nI ((g 3) ((4 * kk) + 2)))), (7, .int (nI ((g 3) ((4 * kk) + 1)))), (6, .int (nI ((g 3) (4 * kk)))), (0, .ref (ad 0)), (1, .long (lN sx)), (3, .int (nI h)), (4, .int (nI so)), (5, .int (nI kk))]) hx hb dX5_act_35 hl (by decide) rfl (fun ls hl => ?_)
  refine lv_lload_n hx hb dX5_act_37 rfl (lv_at hl 4 rfl) ?_
  refine lv_iconst (v := nI 2) hx hb dX5_act_38 (by decide) ?_
  refine lv_iload hx hb dX5_act_39 (lv_at hl 2 rfl) ?_
  refine lv_imul hx hb dX5_act_41 ?_
  refine lv_topE (nI (2 * ((g 3) (4 * kk)))) (pk_mul _ _) ?_
  refine lv_iconst (v := nI 2) hx hb dX5_act_42 (by decide) ?_
  refine cSi (As := [.long (lN sx), .int (nI (2 * ((g 3) (4 * kk)))), .int (nI 2)]) (rest := []) ⟨hx, hb, hml, hown, hts⟩ (c_X5_bits l  sx (2 * ((g 3) (4 * kk))) 2 (by omega) (by omega) (by omega)) (va_cwS 3 hts (gS mU_503 mU_504 mU_6 mU_505) rfl rfl rfl (by decide +kernel) ⟨Nat.le_of_ble_eq_true rfl, Nat.le_of_ble_eq_true rfl⟩) fbU (fun _ _ _ => trivial) rfl hl.1 rfl (Nat.le_of_ble_eq_true rfl) dX5_act_43 ⟨Nat.zero_le _, Nat.zero_le _⟩ ?_
  have hf_4 : bitsN sx (2 * ((g 3) (4 * kk))) 2 < 2 ^ 2 := bitsN_lt _ _ _
  refine lv_istore (lv' := [(9, .int (nI (bitsN sx (2 * ((g 3) (4 * kk))) 2))), (8, .int (nI ((g 3) ((4 * kk) + 2)))), (7, .int (nI ((g 3) ((4 * kk) + 1)))), (6, .int (nI ((g 3) (4 * kk)))), (0, .ref (ad 0)), (1, .long (lN sx)), (3, .int (nI h)), (4, .int (nI so)), (5, .int (nI kk))]) hx hb dX5_act_46 hl (by decide) rfl (fun ls hl => ?_)
  refine lv_iload hx hb dX5_act_48 (lv_at hl 7 rfl) ?_
  refine lv_if_ne (tgt := 65) hx hb dX5_act_50 (by decide) (fun c50_5 => ?_) (fun c50_5 => ?_)
  · have c50_5 : ¬ (so = 0) := fun h9 => c50_5 ((nI_eqG (a := so) (b := 0) (by omega) (by omega)).mpr h9)
    refine lv_iload hx hb dX5_act_65 (lv_at hl 7 rfl) ?_
    refine lv_iconst (v := nI 1) hx hb dX5_act_67 (by decide) ?_
    refine lv_icmp_ne (tgt := 76) hx hb dX5_act_68 (by decide) (fun c68_6 => ?_) (fun c68_6 => ?_)
    · have c68_6 : ¬ (so = 1) := fun h9 => c68_6 ((nI_eqG (a := so) (b := 1) (by omega) (by omega)).mpr h9)
      refine lv_iload hx hb dX5_act_76 (lv_at hl 7 rfl) ?_
      refine lv_iconst (v := nI 3) hx hb dX5_act_78 (by decide) ?_
      refine lv_icmp_ne (tgt := 87) hx hb dX5_act_79 (by decide) (fun c79_7 => ?_) (fun c79_7 => ?_)
      · have c79_7 : ¬ (so = 3) := fun h9 => c79_7 ((nI_eqG (a := so) (b := 3) (by omega) (by omega)).mpr h9)
        refine lv_aload_n hx hb dX5_act_87 rfl (lv_at hl 4 rfl) ?_
        refine va_get (D := D) (ci := 5) (v := .ref (ad 3)) (C := RX5) (T := TX5) (N := 23) hx hb hU iX5 hown hK hP 0 rfl rfl 2 (by decide) (hU _ mU_77) (fun _ h9 => h9) rfl dX5_act_88 ?_
        refine lv_iconst (v := nI 4) hx hb dX5_act_91 (by decide) ?_
        refine lv_iload hx hb dX5_act_92 (lv_at hl 8 rfl) ?_
        refine lv_imul hx hb dX5_act_94 ?_
        refine lv_topE (nI (4 * kk)) (pk_mul _ _) ?_
        refine lv_iconst (v := nI 3) hx hb dX5_act_95 (by decide) ?_
        refine lv_iadd hx hb dX5_act_96 ?_
        refine lv_topE (nI ((4 * kk) + 3)) (nI_add _ _) ?_
        refine n_iald hx hb hK hP 3 2 rfl rfl (i := (4 * kk) + 3) (by omega) (by decide) dX5_act_97 ?_
        have hb_8 := hg 3 (by decide) ((4 * kk) + 3)
        refine lv_istore (lv' := [(10, .int (nI ((g 3) ((4 * kk) + 3)))), (9, .int (nI (bitsN sx (2 * ((g 3) (4 * kk))) 2))), (8, .int (nI ((g 3) ((4 * kk) + 2)))), (7, .int (nI ((g 3) ((4 * kk) + 1)))), (6, .int (nI ((g 3) (4 * kk)))), (0, .ref (ad 0)), (1, .long (lN sx)), (3, .int (nI h)), (4, .int (nI so)), (5, .int (nI kk))]) hx hb dX5_act_98 hl (by decide) rfl (fun ls hl => ?_)
        refine lv_lload_n hx hb dX5_act_100 rfl (lv_at hl 6 rfl) ?_
        refine lv_bipush (v := nI 8) hx hb dX5_act_101 (by decide) ?_
        refine lv_iconst (v := nI 4) hx hb dX5_act_103 (by decide) ?_
        refine lv_iload_n hx hb dX5_act_104 rfl (lv_at hl 7 rfl) ?_
        refine lv_imul hx hb dX5_act_105 ?_
        refine lv_topE (nI (4 * h)) (pk_mul _ _) ?_
        refine lv_iadd hx hb dX5_act_106 ?_
        refine lv_topE (nI (8 + (4 * h))) (nI_add _ _) ?_
        refine lv_iconst (v := nI 2) hx hb dX5_act_107 (by decide) ?_
        refine lv_iload hx hb dX5_act_108 (lv_at hl 0 rfl) ?_
        refine lv_imul hx hb dX5_act_110 ?_
        refine lv_topE (nI (2 * ((g 3) ((4 * kk) + 3)))) (pk_mul _ _) ?_
        refine lv_iadd hx hb dX5_act_111 ?_
        refine lv_topE (nI ((8 + (4 * h)) + (2 * ((g 3) ((4 * kk) + 3))))) (nI_add _ _) ?_
        refine lv_iconst (v := nI 2) hx hb dX5_act_112 (by decide) ?_
        refine lv_iload hx hb dX5_act_113 (lv_at hl 1 rfl) ?_
        refine cSl (As := [.long (lN sx), .int (nI ((8 + (4 * h)) + (2 * ((g 3) ((4 * kk) + 3))))), .int (nI 2), .int (nI (bitsN sx (2 * ((g 3) (4 * kk))) 2))]) (rest := []) ⟨hx, hb, hml, hown, hts⟩ (c_X5_with l  sx ((8 + (4 * h)) + (2 * ((g 3) ((4 * kk) + 3)))) 2 (bitsN sx (2 * ((g 3) (4 * kk))) 2) (by omega) (by omega) (by omega) (by omega)) (va_cwS 4 hts (gS mU_480 mU_481 mU_6 mU_482) rfl rfl rfl (by decide +kernel) ⟨Nat.le_of_ble_eq_true rfl, Nat.le_of_ble_eq_true rfl⟩) fbU (fun _ _ _ => trivial) rfl hl.1 rfl (Nat.le_of_ble_eq_true rfl) dX5_act_115 ⟨Nat.zero_le _, Nat.zero_le _⟩ ?_
        have hf_9 : withN sx ((8 + (4 * h)) + (2 * ((g 3) ((4 * kk) + 3)))) 2 (bitsN sx (2 * ((g 3) (4 * kk))) 2) < 2 ^ 48 := withN_lt (by omega) (by omega) (by omega)
        refine lv_lstore (lv' := [(11, .long (lN (withN sx ((8 + (4 * h)) + (2 * ((g 3) ((4 * kk) + 3)))) 2 (bitsN sx (2 * ((g 3) (4 * kk))) 2)))), (10, .int (nI ((g 3) ((4 * kk) + 3)))), (9, .int (nI (bitsN sx (2 * ((g 3) (4 * kk))) 2))), (8, .int (nI ((g 3) ((4 * kk) + 2)))), (7, .int (nI ((g 3) ((4 * kk) + 1)))), (6, .int (nI ((g 3) (4 * kk)))), (0, .ref (ad 0)), (1, .long (lN sx)), (3, .int (nI h)), (4, .int (nI so)), (5, .int (nI kk))]) hx hb dX5_act_118 hl (by decide) rfl (fun ls hl => ?_)
        refine lv_iload hx hb dX5_act_120 (lv_at hl 9 rfl) ?_
        refine lv_iconst (v := nI 1) hx hb dX5_act_122 (by decide) ?_
        refine lv_icmp_ne (tgt := 129) hx hb dX5_act_123 (by decide) (fun c123_10 => ?_) (fun c123_10 => ?_)
        · have c123_10 : ¬ (so = 1) := fun h9 => c123_10 ((nI_eqG (a := so) (b := 1) (by omega) (by omega)).mpr h9)
          refine lv_iload hx hb dX5_act_129 (lv_at hl 9 rfl) ?_
          refine lv_iconst (v := nI 3) hx hb dX5_act_131 (by decide) ?_
          refine lv_icmp_ne (tgt := 153) hx hb dX5_act_132 (by decide) (fun c132_11 => ?_) (fun c132_11 => ?_)
          · have c132_11 : ¬ (so = 3) := fun h9 => c132_11 ((nI_eqG (a := so) (b := 3) (by omega) (by omega)).mpr h9)
            refine lv_iload hx hb dX5_act_153 (lv_at hl 2 rfl) ?_
            refine lv_iload hx hb dX5_act_155 (lv_at hl 4 rfl) ?_
            refine lv_icmp_ne (tgt := 175) hx hb dX5_act_157 (by decide) (fun c157_12 => ?_) (fun c157_12 => ?_)
            · have c157_12 : ¬ (bitsN sx (2 * ((g 3) (4 * kk))) 2 = (g 3) ((4 * kk) + 1)) := fun h9 => c157_12 ((nI_eqG (a := bitsN sx (2 * ((g 3) (4 * kk))) 2) (b := (g 3) ((4 * kk) + 1)) (by omega) (by omega)).mpr h9)
              refine lv_lload hx hb dX5_act_175 (lv_at hl 0 rfl) ?_
              subst hQ
              exact rtl hx hb hr hlocks rfl (by first | (unfold actM; (try first | rw [if_pos c50_5] | rw [if_neg c50_5]); (try first | rw [if_pos c68_6] | rw [if_neg c68_6]); (try first | rw [if_pos c79_7] | rw [if_neg c79_7]); (try first | rw [if_pos c123_10] | rw [if_neg c123_10]); (try first | rw [if_pos c132_11] | rw [if_neg c132_11]); (try first | rw [if_pos c157_12] | rw [if_neg c157_12]); (try rfl); done) | (exfalso; omega)) dX5_act_177
            · have c157_12 : bitsN sx (2 * ((g 3) (4 * kk))) 2 = (g 3) ((4 * kk) + 1) := (nI_eqG (a := bitsN sx (2 * ((g 3) (4 * kk))) 2) (b := (g 3) ((4 * kk) + 1)) (by omega) (by omega)).mp c157_12
              refine lv_lload hx hb dX5_act_160 (lv_at hl 0 rfl) ?_
              refine lv_iconst (v := nI 2) hx hb dX5_act_162 (by decide) ?_
              refine lv_iload hx hb dX5_act_163 (lv_at hl 5 rfl) ?_
              refine lv_imul hx hb dX5_act_165 ?_
              refine lv_topE (nI (2 * ((g 3) (4 * kk)))) (pk_mul _ _) ?_
              refine lv_iconst (v := nI 2) hx hb dX5_act_166 (by decide) ?_
              refine lv_iload hx hb dX5_act_167 (lv_at hl 3 rfl) ?_
              refine cSl (As := [.long (lN (withN sx ((8 + (4 * h)) + (2 * ((g 3) ((4 * kk) + 3)))) 2 (bitsN sx (2 * ((g 3) (4 * kk))) 2))), .int (nI (2 * ((g 3) (4 * kk)))), .int (nI 2), .int (nI ((g 3) ((4 * kk) + 2)))]) (rest := []) ⟨hx, hb, hml, hown, hts⟩ (c_X5_with l  (withN sx ((8 + (4 * h)) + (2 * ((g 3) ((4 * kk) + 3)))) 2 (bitsN sx (2 * ((g 3) (4 * kk))) 2)) (2 * ((g 3) (4 * kk))) 2 ((g 3) ((4 * kk) + 2)) (by omega) (by omega) (by omega) (by omega)) (va_cwS 4 hts (gS mU_480 mU_481 mU_6 mU_482) rfl rfl rfl (by decide +kernel) ⟨Nat.le_of_ble_eq_true rfl, Nat.le_of_ble_eq_true rfl⟩) fbU (fun _ _ _ => trivial) rfl hl.1 rfl (Nat.le_of_ble_eq_true rfl) dX5_act_169 ⟨Nat.zero_le _, Nat.zero_le _⟩ ?_
              have hf_13 : withN (withN sx ((8 + (4 * h)) + (2 * ((g 3) ((4 * kk) + 3)))) 2 (bitsN sx (2 * ((g 3) (4 * kk))) 2)) (2 * ((g 3) (4 * kk))) 2 ((g 3) ((4 * kk) + 2)) < 2 ^ 48 := withN_lt (by omega) (by omega) (by omega)
              refine lv_goto (tgt := 177) hx hb dX5_act_172 (by decide) ?_
              subst hQ
              exact rtl hx hb hr hlocks rfl (by first | (unfold actM; (try first | rw [if_pos c50_5] | rw [if_neg c50_5]); (try first | rw [if_pos c68_6] | rw [if_neg c68_6]); (try first | rw [if_pos c79_7] | rw [if_neg c79_7]); (try first | rw [if_pos c123_10] | rw [if_neg c123_10]); (try first | rw [if_pos c132_11] | rw [if_neg c132_11]); (try first | rw [if_pos c157_12] | rw [if_neg c157_12]); (try rfl); done) | (exfalso; omega)) dX5_act_177
          · have c132_11 : so = 3 := (nI_eqG (a := so) (b := 3) (by omega) (by omega)).mp c132_11
            refine lv_lload hx hb dX5_act_135 (lv_at hl 0 rfl) ?_
            refine lv_iconst (v := nI 2) hx hb dX5_act_137 (by decide) ?_
            refine lv_iload hx hb dX5_act_138 (lv_at hl 5 rfl) ?_
            refine lv_imul hx hb dX5_act_140 ?_
            refine lv_topE (nI (2 * ((g 3) (4 * kk)))) (pk_mul _ _) ?_
            refine lv_iconst (v := nI 2) hx hb dX5_act_141 (by decide) ?_
            refine lv_iload hx hb dX5_act_142 (lv_at hl 2 rfl) ?_
            refine lv_iload hx hb dX5_act_144 (lv_at hl 4 rfl) ?_
            refine lv_iadd hx hb dX5_act_146 ?_
            refine lv_topE (nI ((bitsN sx (2 * ((g 3) (4 * kk))) 2) + ((g 3) ((4 * kk) + 1)))) (nI_add _ _) ?_
            refine lv_iconst (v := nI 4) hx hb dX5_act_147 (by decide) ?_
            refine lv_irem hx hb dX5_act_148 (nI_ne0 (by omega) (by omega)) ?_
            refine lv_topE (nI (((bitsN sx (2 * ((g 3) (4 * kk))) 2) + ((g 3) ((4 * kk) + 1))) % 4)) (pk_rem (by omega) (by omega) (by omega)) ?_
            refine cSl (As := [.long (lN (withN sx ((8 + (4 * h)) + (2 * ((g 3) ((4 * kk) + 3)))) 2 (bitsN sx (2 * ((g 3) (4 * kk))) 2))), .int (nI (2 * ((g 3) (4 * kk)))), .int (nI 2), .int (nI (((bitsN sx (2 * ((g 3) (4 * kk))) 2) + ((g 3) ((4 * kk) + 1))) % 4))]) (rest := []) ⟨hx, hb, hml, hown, hts⟩ (c_X5_with l  (withN sx ((8 + (4 * h)) + (2 * ((g 3) ((4 * kk) + 3)))) 2 (bitsN sx (2 * ((g 3) (4 * kk))) 2)) (2 * ((g 3) (4 * kk))) 2 (((bitsN sx (2 * ((g 3) (4 * kk))) 2) + ((g 3) ((4 * kk) + 1))) % 4) (by omega) (by omega) (by omega) (by omega)) (va_cwS 4 hts (gS mU_480 mU_481 mU_6 mU_482) rfl rfl rfl (by decide +kernel) ⟨Nat.le_of_ble_eq_true rfl, Nat.le_of_ble_eq_true rfl⟩) fbU (fun _ _ _ => trivial) rfl hl.1 rfl (Nat.le_of_ble_eq_true rfl) dX5_act_149 ⟨Nat.zero_le _, Nat.zero_le _⟩ ?_
            have hf_14 : withN (withN sx ((8 + (4 * h)) + (2 * ((g 3) ((4 * kk) + 3)))) 2 (bitsN sx (2 * ((g 3) (4 * kk))) 2)) (2 * ((g 3) (4 * kk))) 2 (((bitsN sx (2 * ((g 3) (4 * kk))) 2) + ((g 3) ((4 * kk) + 1))) % 4) < 2 ^ 48 := withN_lt (by omega) (by omega) (by omega)
            subst hQ
            exact rtl hx hb hr hlocks rfl (by first | (unfold actM; (try first | rw [if_pos c50_5] | rw [if_neg c50_5]); (try first | rw [if_pos c68_6] | rw [if_neg c68_6]); (try first | rw [if_pos c79_7] | rw [if_neg c79_7]); (try first | rw [if_pos c123_10] | rw [if_neg c123_10]); (try first | rw [if_pos c132_11] | rw [if_neg c132_11]); (try rfl); done) | (exfalso; omega)) dX5_act_152
        · have c123_10 : so = 1 := (nI_eqG (a := so) (b := 1) (by omega) (by omega)).mp c123_10
          refine lv_lload hx hb dX5_act_126 (lv_at hl 0 rfl) ?_
          subst hQ
          exact rtl hx hb hr hlocks rfl (by first | (unfold actM; (try first | rw [if_pos c50_5] | rw [if_neg c50_5]); (try first | rw [if_pos c68_6] | rw [if_neg c68_6]); (try first | rw [if_pos c79_7] | rw [if_neg c79_7]); (try first | rw [if_pos c123_10] | rw [if_neg c123_10]); (try rfl); done) | (exfalso; omega)) dX5_act_128
      · have c79_7 : so = 3 := (nI_eqG (a := so) (b := 3) (by omega) (by omega)).mp c79_7
        refine lv_iload hx hb dX5_act_82 (lv_at hl 1 rfl) ?_
        refine lv_goto (tgt := 98) hx hb dX5_act_84 (by decide) ?_
        refine lv_istore (lv' := [(10, .int (nI ((g 3) ((4 * kk) + 2)))), (9, .int (nI (bitsN sx (2 * ((g 3) (4 * kk))) 2))), (8, .int (nI ((g 3) ((4 * kk) + 2)))), (7, .int (nI ((g 3) ((4 * kk) + 1)))), (6, .int (nI ((g 3) (4 * kk)))), (0, .ref (ad 0)), (1, .long (lN sx)), (3, .int (nI h)), (4, .int (nI so)), (5, .int (nI kk))]) hx hb dX5_act_98 hl (by decide) rfl (fun ls hl => ?_)
        refine lv_lload_n hx hb dX5_act_100 rfl (lv_at hl 6 rfl) ?_
        refine lv_bipush (v := nI 8) hx hb dX5_act_101 (by decide) ?_
        refine lv_iconst (v := nI 4) hx hb dX5_act_103 (by decide) ?_
        refine lv_iload_n hx hb dX5_act_104 rfl (lv_at hl 7 rfl) ?_
        refine lv_imul hx hb dX5_act_105 ?_
        refine lv_topE (nI (4 * h)) (pk_mul _ _) ?_
        refine lv_iadd hx hb dX5_act_106 ?_
        refine lv_topE (nI (8 + (4 * h))) (nI_add _ _) ?_
        refine lv_iconst (v := nI 2) hx hb dX5_act_107 (by decide) ?_
        refine lv_iload hx hb dX5_act_108 (lv_at hl 0 rfl) ?_
        refine lv_imul hx hb dX5_act_110 ?_
        refine lv_topE (nI (2 * ((g 3) ((4 * kk) + 2)))) (pk_mul _ _) ?_
        refine lv_iadd hx hb dX5_act_111 ?_
        refine lv_topE (nI ((8 + (4 * h)) + (2 * ((g 3) ((4 * kk) + 2))))) (nI_add _ _) ?_
        refine lv_iconst (v := nI 2) hx hb dX5_act_112 (by decide) ?_
        refine lv_iload hx hb dX5_act_113 (lv_at hl 1 rfl) ?_
        refine cSl (As := [.long (lN sx), .int (nI ((8 + (4 * h)) + (2 * ((g 3) ((4 * kk) + 2))))), .int (nI 2), .int (nI (bitsN sx (2 * ((g 3) (4 * kk))) 2))]) (rest := []) ⟨hx, hb, hml, hown, hts⟩ (c_X5_with l  sx ((8 + (4 * h)) + (2 * ((g 3) ((4 * kk) + 2)))) 2 (bitsN sx (2 * ((g 3) (4 * kk))) 2) (by omega) (by omega) (by omega) (by omega)) (va_cwS 4 hts (gS mU_480 mU_481 mU_6 mU_482) rfl rfl rfl (by decide +kernel) ⟨Nat.le_of_ble_eq_true rfl, Nat.le_of_ble_eq_true rfl⟩) fbU (fun _ _ _ => trivial) rfl hl.1 rfl (Nat.le_of_ble_eq_true rfl) dX5_act_115 ⟨Nat.zero_le _, Nat.zero_le _⟩ ?_
        have hf_15 : withN sx ((8 + (4 * h)) + (2 * ((g 3) ((4 * kk) + 2)))) 2 (bitsN sx (2 * ((g 3) (4 * kk))) 2) < 2 ^ 48 := withN_lt (by omega) (by omega) (by omega)
        refine lv_lstore (lv' := [(11, .long (lN (withN sx ((8 + (4 * h)) + (2 * ((g 3) ((4 * kk) + 2)))) 2 (bitsN sx (2 * ((g 3) (4 * kk))) 2)))), (10, .int (nI ((g 3) ((4 * kk) + 2)))), (9, .int (nI (bitsN sx (2 * ((g 3) (4 * kk))) 2))), (8, .int (nI ((g 3) ((4 * kk) + 2)))), (7, .int (nI ((g 3) ((4 * kk) + 1)))), (6, .int (nI ((g 3) (4 * kk)))), (0, .ref (ad 0)), (1, .long (lN sx)), (3, .int (nI h)), (4, .int (nI so)), (5, .int (nI kk))]) hx hb dX5_act_118 hl (by decide) rfl (fun ls hl => ?_)
        refine lv_iload hx hb dX5_act_120 (lv_at hl 9 rfl) ?_
        refine lv_iconst (v := nI 1) hx hb dX5_act_122 (by decide) ?_
        refine lv_icmp_ne (tgt := 129) hx hb dX5_act_123 (by decide) (fun c123_16 => ?_) (fun c123_16 => ?_)
        · have c123_16 : ¬ (so = 1) := fun h9 => c123_16 ((nI_eqG (a := so) (b := 1) (by omega) (by omega)).mpr h9)
          refine lv_iload hx hb dX5_act_129 (lv_at hl 9 rfl) ?_
          refine lv_iconst (v := nI 3) hx hb dX5_act_131 (by decide) ?_
          refine lv_icmp_ne (tgt := 153) hx hb dX5_act_132 (by decide) (fun c132_17 => ?_) (fun c132_17 => ?_)
          · have c132_17 : ¬ (so = 3) := fun h9 => c132_17 ((nI_eqG (a := so) (b := 3) (by omega) (by omega)).mpr h9)
            refine lv_iload hx hb dX5_act_153 (lv_at hl 2 rfl) ?_
            refine lv_iload hx hb dX5_act_155 (lv_at hl 4 rfl) ?_
            refine lv_icmp_ne (tgt := 175) hx hb dX5_act_157 (by decide) (fun c157_18 => ?_) (fun c157_18 => ?_)
            · have c157_18 : ¬ (bitsN sx (2 * ((g 3) (4 * kk))) 2 = (g 3) ((4 * kk) + 1)) := fun h9 => c157_18 ((nI_eqG (a := bitsN sx (2 * ((g 3) (4 * kk))) 2) (b := (g 3) ((4 * kk) + 1)) (by omega) (by omega)).mpr h9)
              refine lv_lload hx hb dX5_act_175 (lv_at hl 0 rfl) ?_
              subst hQ
              exact rtl hx hb hr hlocks rfl (by first | (unfold actM; (try first | rw [if_pos c50_5] | rw [if_neg c50_5]); (try first | rw [if_pos c68_6] | rw [if_neg c68_6]); (try first | rw [if_pos c79_7] | rw [if_neg c79_7]); (try first | rw [if_pos c123_16] | rw [if_neg c123_16]); (try first | rw [if_pos c132_17] | rw [if_neg c132_17]); (try first | rw [if_pos c157_18] | rw [if_neg c157_18]); (try rfl); done) | (exfalso; omega)) dX5_act_177
            · have c157_18 : bitsN sx (2 * ((g 3) (4 * kk))) 2 = (g 3) ((4 * kk) + 1) := (nI_eqG (a := bitsN sx (2 * ((g 3) (4 * kk))) 2) (b := (g 3) ((4 * kk) + 1)) (by omega) (by omega)).mp c157_18
              refine lv_lload hx hb dX5_act_160 (lv_at hl 0 rfl) ?_
              refine lv_iconst (v := nI 2) hx hb dX5_act_162 (by decide) ?_
              refine lv_iload hx hb dX5_act_163 (lv_at hl 5 rfl) ?_
              refine lv_imul hx hb dX5_act_165 ?_
              refine lv_topE (nI (2 * ((g 3) (4 * kk)))) (pk_mul _ _) ?_
              refine lv_iconst (v := nI 2) hx hb dX5_act_166 (by decide) ?_
              refine lv_iload hx hb dX5_act_167 (lv_at hl 3 rfl) ?_
              refine cSl (As := [.long (lN (withN sx ((8 + (4 * h)) + (2 * ((g 3) ((4 * kk) + 2)))) 2 (bitsN sx (2 * ((g 3) (4 * kk))) 2))), .int (nI (2 * ((g 3) (4 * kk)))), .int (nI 2), .int (nI ((g 3) ((4 * kk) + 2)))]) (rest := []) ⟨hx, hb, hml, hown, hts⟩ (c_X5_with l  (withN sx ((8 + (4 * h)) + (2 * ((g 3) ((4 * kk) + 2)))) 2 (bitsN sx (2 * ((g 3) (4 * kk))) 2)) (2 * ((g 3) (4 * kk))) 2 ((g 3) ((4 * kk) + 2)) (by omega) (by omega) (by omega) (by omega)) (va_cwS 4 hts (gS mU_480 mU_481 mU_6 mU_482) rfl rfl rfl (by decide +kernel) ⟨Nat.le_of_ble_eq_true rfl, Nat.le_of_ble_eq_true rfl⟩) fbU (fun _ _ _ => trivial) rfl hl.1 rfl (Nat.le_of_ble_eq_true rfl) dX5_act_169 ⟨Nat.zero_le _, Nat.zero_le _⟩ ?_
              have hf_19 : withN (withN sx ((8 + (4 * h)) + (2 * ((g 3) ((4 * kk) + 2)))) 2 (bitsN sx (2 * ((g 3) (4 * kk))) 2)) (2 * ((g 3) (4 * kk))) 2 ((g 3) ((4 * kk) + 2)) < 2 ^ 48 := withN_lt (by omega) (by omega) (by omega)
              refine lv_goto (tgt := 177) hx hb dX5_act_172 (by decide) ?_
              subst hQ
              exact rtl hx hb hr hlocks rfl (by first | (unfold actM; (try first | rw [if_pos c50_5] | rw [if_neg c50_5]); (try first | rw [if_pos c68_6] | rw [if_neg c68_6]); (try first | rw [if_pos c79_7] | rw [if_neg c79_7]); (try first | rw [if_pos c123_16] | rw [if_neg c123_16]); (try first | rw [if_pos c132_17] | rw [if_neg c132_17]); (try first | rw [if_pos c157_18] | rw [if_neg c157_18]); (try rfl); done) | (exfalso; omega)) dX5_act_177
          · have c132_17 : so = 3 := (nI_eqG (a := so) (b := 3) (by omega) (by omega)).mp c132_17
            refine lv_lload hx hb dX5_act_135 (lv_at hl 0 rfl) ?_
            refine lv_iconst (v := nI 2) hx hb dX5_act_137 (by decide) ?_
            refine lv_iload hx hb dX5_act_138 (lv_at hl 5 rfl) ?_
            refine lv_imul hx hb dX5_act_140 ?_
            refine lv_topE (nI (2 * ((g 3) (4 * kk)))) (pk_mul _ _) ?_
            refine lv_iconst (v := nI 2) hx hb dX5_act_141 (by decide) ?_
            refine lv_iload hx hb dX5_act_142 (lv_at hl 2 rfl) ?_
            refine lv_iload hx hb dX5_act_144 (lv_at hl 4 rfl) ?_
            refine lv_iadd hx hb dX5_act_146 ?_
            refine lv_topE (nI ((bitsN sx (2 * ((g 3) (4 * kk))) 2) + ((g 3) ((4 * kk) + 1)))) (nI_add _ _) ?_
            refine lv_iconst (v := nI 4) hx hb dX5_act_147 (by decide) ?_
            refine lv_irem hx hb dX5_act_148 (nI_ne0 (by omega) (by omega)) ?_
            refine lv_topE (nI (((bitsN sx (2 * ((g 3) (4 * kk))) 2) + ((g 3) ((4 * kk) + 1))) % 4)) (pk_rem (by omega) (by omega) (by omega)) ?_
            refine cSl (As := [.long (lN (withN sx ((8 + (4 * h)) + (2 * ((g 3) ((4 * kk) + 2)))) 2 (bitsN sx (2 * ((g 3) (4 * kk))) 2))), .int (nI (2 * ((g 3) (4 * kk)))), .int (nI 2), .int (nI (((bitsN sx (2 * ((g 3) (4 * kk))) 2) + ((g 3) ((4 * kk) + 1))) % 4))]) (rest := []) ⟨hx, hb, hml, hown, hts⟩ (c_X5_with l  (withN sx ((8 + (4 * h)) + (2 * ((g 3) ((4 * kk) + 2)))) 2 (bitsN sx (2 * ((g 3) (4 * kk))) 2)) (2 * ((g 3) (4 * kk))) 2 (((bitsN sx (2 * ((g 3) (4 * kk))) 2) + ((g 3) ((4 * kk) + 1))) % 4) (by omega) (by omega) (by omega) (by omega)) (va_cwS 4 hts (gS mU_480 mU_481 mU_6 mU_482) rfl rfl rfl (by decide +kernel) ⟨Nat.le_of_ble_eq_true rfl, Nat.le_of_ble_eq_true rfl⟩) fbU (fun _ _ _ => trivial) rfl hl.1 rfl (Nat.le_of_ble_eq_true rfl) dX5_act_149 ⟨Nat.zero_le _, Nat.zero_le _⟩ ?_
            have hf_20 : withN (withN sx ((8 + (4 * h)) + (2 * ((g 3) ((4 * kk) + 2)))) 2 (bitsN sx (2 * ((g 3) (4 * kk))) 2)) (2 * ((g 3) (4 * kk))) 2 (((bitsN sx (2 * ((g 3) (4 * kk))) 2) + ((g 3) ((4 * kk) + 1))) % 4) < 2 ^ 48 := withN_lt (by omega) (by omega) (by omega)
            subst hQ
            exact rtl hx hb hr hlocks rfl (by first | (unfold actM; (try first | rw [if_pos c50_5] | rw [if_neg c50_5]); (try first | rw [if_pos c68_6] | rw [if_neg c68_6]); (try first | rw [if_pos c79_7] | rw [if_neg c79_7]); (try first | rw [if_pos c123_16] | rw [if_neg c123_16]); (try first | rw [if_pos c132_17] | rw [if_neg c132_17]); (try rfl); done) | (exfalso; omega)) dX5_act_152
        · have c123_16 : so = 1 := (nI_eqG (a := so) (b := 1) (by omega) (by omega)).mp c123_16
          refine lv_lload hx hb dX5_act_126 (lv_at hl 0 rfl) ?_
          subst hQ
          exact rtl hx hb hr hlocks rfl (by first | (unfold actM; (try first | rw [if_pos c50_5] | rw [if_neg c50_5]); (try first | rw [if_pos c68_6] | rw [if_neg c68_6]); (try first | rw [if_pos c79_7] | rw [if_neg c79_7]); (try first | rw [if_pos c123_16] | rw [if_neg c123_16]); (try rfl); done) | (exfalso; omega)) dX5_act_128
    · have c68_6 : so = 1 := (nI_eqG (a := so) (b := 1) (by omega) (by omega)).mp c68_6
      refine lv_iload hx hb dX5_act_71 (lv_at hl 2 rfl) ?_
      refine lv_goto (tgt := 98) hx hb dX5_act_73 (by decide) ?_
      refine lv_istore (lv' := [(10, .int (nI ((g 3) ((4 * kk) + 1)))), (9, .int (nI (bitsN sx (2 * ((g 3) (4 * kk))) 2))), (8, .int (nI ((g 3) ((4 * kk) + 2)))), (7, .int (nI ((g 3) ((4 * kk) + 1)))), (6, .int (nI ((g 3) (4 * kk)))), (0, .ref (ad 0)), (1, .long (lN sx)), (3, .int (nI h)), (4, .int (nI so)), (5, .int (nI kk))]) hx hb dX5_act_98 hl (by decide) rfl (fun ls hl => ?_)
      refine lv_lload_n hx hb dX5_act_100 rfl (lv_at hl 6 rfl) ?_
      refine lv_bipush (v := nI 8) hx hb dX5_act_101 (by decide) ?_
      refine lv_iconst (v := nI 4) hx hb dX5_act_103 (by decide) ?_
      refine lv_iload_n hx hb dX5_act_104 rfl (lv_at hl 7 rfl) ?_
      refine lv_imul hx hb dX5_act_105 ?_
      refine lv_topE (nI (4 * h)) (pk_mul _ _) ?_
      refine lv_iadd hx hb dX5_act_106 ?_
      refine lv_topE (nI (8 + (4 * h))) (nI_add _ _) ?_
      refine lv_iconst (v := nI 2) hx hb dX5_act_107 (by decide) ?_
      refine lv_iload hx hb dX5_act_108 (lv_at hl 0 rfl) ?_
      refine lv_imul hx hb dX5_act_110 ?_
      refine lv_topE (nI (2 * ((g 3) ((4 * kk) + 1)))) (pk_mul _ _) ?_
      refine lv_iadd hx hb dX5_act_111 ?_
      refine lv_topE (nI ((8 + (4 * h)) + (2 * ((g 3) ((4 * kk) + 1))))) (nI_add _ _) ?_
      refine lv_iconst (v := nI 2) hx hb dX5_act_112 (by decide) ?_
      refine lv_iload hx hb dX5_act_113 (lv_at hl 1 rfl) ?_
      refine cSl (As := [.long (lN sx), .int (nI ((8 + (4 * h)) + (2 * ((g 3) ((4 * kk) + 1))))), .int (nI 2), .int (nI (bitsN sx (2 * ((g 3) (4 * kk))) 2))]) (rest := []) ⟨hx, hb, hml, hown, hts⟩ (c_X5_with l  sx ((8 + (4 * h)) + (2 * ((g 3) ((4 * kk) + 1)))) 2 (bitsN sx (2 * ((g 3) (4 * kk))) 2) (by omega) (by omega) (by omega) (by omega)) (va_cwS 4 hts (gS mU_480 mU_481 mU_6 mU_482) rfl rfl rfl (by decide +kernel) ⟨Nat.le_of_ble_eq_true rfl, Nat.le_of_ble_eq_true rfl⟩) fbU (fun _ _ _ => trivial) rfl hl.1 rfl (Nat.le_of_ble_eq_true rfl) dX5_act_115 ⟨Nat.zero_le _, Nat.zero_le _⟩ ?_
      have hf_21 : withN sx ((8 + (4 * h)) + (2 * ((g 3) ((4 * kk) + 1)))) 2 (bitsN sx (2 * ((g 3) (4 * kk))) 2) < 2 ^ 48 := withN_lt (by omega) (by omega) (by omega)
      refine lv_lstore (lv' := [(11, .long (lN (withN sx ((8 + (4 * h)) + (2 * ((g 3) ((4 * kk) + 1)))) 2 (bitsN sx (2 * ((g 3) (4 * kk))) 2)))), (10, .int (nI ((g 3) ((4 * kk) + 1)))), (9, .int (nI (bitsN sx (2 * ((g 3) (4 * kk))) 2))), (8, .int (nI ((g 3) ((4 * kk) + 2)))), (7, .int (nI ((g 3) ((4 * kk) + 1)))), (6, .int (nI ((g 3) (4 * kk)))), (0, .ref (ad 0)), (1, .long (lN sx)), (3, .int (nI h)), (4, .int (nI so)), (5, .int (nI kk))]) hx hb dX5_act_118 hl (by decide) rfl (fun ls hl => ?_)
      refine lv_iload hx hb dX5_act_120 (lv_at hl 9 rfl) ?_
      refine lv_iconst (v := nI 1) hx hb dX5_act_122 (by decide) ?_
      refine lv_icmp_ne (tgt := 129) hx hb dX5_act_123 (by decide) (fun c123_22 => ?_) (fun c123_22 => ?_)
      · have c123_22 : ¬ (so = 1) := fun h9 => c123_22 ((nI_eqG (a := so) (b := 1) (by omega) (by omega)).mpr h9)
        refine lv_iload hx hb dX5_act_129 (lv_at hl 9 rfl) ?_
        refine lv_iconst (v := nI 3) hx hb dX5_act_131 (by decide) ?_
        refine lv_icmp_ne (tgt := 153) hx hb dX5_act_132 (by decide) (fun c132_23 => ?_) (fun c132_23 => ?_)
        · have c132_23 : ¬ (so = 3) := fun h9 => c132_23 ((nI_eqG (a := so) (b := 3) (by omega) (by omega)).mpr h9)
          refine lv_iload hx hb dX5_act_153 (lv_at hl 2 rfl) ?_
          refine lv_iload hx hb dX5_act_155 (lv_at hl 4 rfl) ?_
          refine lv_icmp_ne (tgt := 175) hx hb dX5_act_157 (by decide) (fun c157_24 => ?_) (fun c157_24 => ?_)
          · have c157_24 : ¬ (bitsN sx (2 * ((g 3) (4 * kk))) 2 = (g 3) ((4 * kk) + 1)) := fun h9 => c157_24 ((nI_eqG (a := bitsN sx (2 * ((g 3) (4 * kk))) 2) (b := (g 3) ((4 * kk) + 1)) (by omega) (by omega)).mpr h9)
            refine lv_lload hx hb dX5_act_175 (lv_at hl 0 rfl) ?_
            subst hQ
            exact rtl hx hb hr hlocks rfl (by first | (unfold actM; (try first | rw [if_pos c50_5] | rw [if_neg c50_5]); (try first | rw [if_pos c68_6] | rw [if_neg c68_6]); (try first | rw [if_pos c123_22] | rw [if_neg c123_22]); (try first | rw [if_pos c132_23] | rw [if_neg c132_23]); (try first | rw [if_pos c157_24] | rw [if_neg c157_24]); (try rfl); done) | (exfalso; omega)) dX5_act_177
          · have c157_24 : bitsN sx (2 * ((g 3) (4 * kk))) 2 = (g 3) ((4 * kk) + 1) := (nI_eqG (a := bitsN sx (2 * ((g 3) (4 * kk))) 2) (b := (g 3) ((4 * kk) + 1)) (by omega) (by omega)).mp c157_24
            refine lv_lload hx hb dX5_act_160 (lv_at hl 0 rfl) ?_
            refine lv_iconst (v := nI 2) hx hb dX5_act_162 (by decide) ?_
            refine lv_iload hx hb dX5_act_163 (lv_at hl 5 rfl) ?_
            refine lv_imul hx hb dX5_act_165 ?_
            refine lv_topE (nI (2 * ((g 3) (4 * kk)))) (pk_mul _ _) ?_
            refine lv_iconst (v := nI 2) hx hb dX5_act_166 (by decide) ?_
            refine lv_iload hx hb dX5_act_167 (lv_at hl 3 rfl) ?_
            refine cSl (As := [.long (lN (withN sx ((8 + (4 * h)) + (2 * ((g 3) ((4 * kk) + 1)))) 2 (bitsN sx (2 * ((g 3) (4 * kk))) 2))), .int (nI (2 * ((g 3) (4 * kk)))), .int (nI 2), .int (nI ((g 3) ((4 * kk) + 2)))]) (rest := []) ⟨hx, hb, hml, hown, hts⟩ (c_X5_with l  (withN sx ((8 + (4 * h)) + (2 * ((g 3) ((4 * kk) + 1)))) 2 (bitsN sx (2 * ((g 3) (4 * kk))) 2)) (2 * ((g 3) (4 * kk))) 2 ((g 3) ((4 * kk) + 2)) (by omega) (by omega) (by omega) (by omega)) (va_cwS 4 hts (gS mU_480 mU_481 mU_6 mU_482) rfl rfl rfl (by decide +kernel) ⟨Nat.le_of_ble_eq_true rfl, Nat.le_of_ble_eq_true rfl⟩) fbU (fun _ _ _ => trivial) rfl hl.1 rfl (Nat.le_of_ble_eq_true rfl) dX5_act_169 ⟨Nat.zero_le _, Nat.zero_le _⟩ ?_
            have hf_25 : withN (withN sx ((8 + (4 * h)) + (2 * ((g 3) ((4 * kk) + 1)))) 2 (bitsN sx (2 * ((g 3) (4 * kk))) 2)) (2 * ((g 3) (4 * kk))) 2 ((g 3) ((4 * kk) + 2)) < 2 ^ 48 := withN_lt (by omega) (by omega) (by omega)
            refine lv_goto (tgt := 177) hx hb dX5_act_172 (by decide) ?_
            subst hQ
            exact rtl hx hb hr hlocks rfl (by first | (unfold actM; (try first | rw [if_pos c50_5] | rw [if_neg c50_5]); (try first | rw [if_pos c68_6] | rw [if_neg c68_6]); (try first | rw [if_pos c123_22] | rw [if_neg c123_22]); (try first | rw [if_pos c132_23] | rw [if_neg c132_23]); (try first | rw [if_pos c157_24] | rw [if_neg c157_24]); (try rfl); done) | (exfalso; omega)) dX5_act_177
        · have c132_23 : so = 3 := (nI_eqG (a := so) (b := 3) (by omega) (by omega)).mp c132_23
          refine lv_lload hx hb dX5_act_135 (lv_at hl 0 rfl) ?_
          refine lv_iconst (v := nI 2) hx hb dX5_act_137 (by decide) ?_
          refine lv_iload hx hb dX5_act_138 (lv_at hl 5 rfl) ?_
          refine lv_imul hx hb dX5_act_140 ?_
          refine lv_topE (nI (2 * ((g 3) (4 * kk)))) (pk_mul _ _) ?_
          refine lv_iconst (v := nI 2) hx hb dX5_act_141 (by decide) ?_
          refine lv_iload hx hb dX5_act_142 (lv_at hl 2 rfl) ?_
          refine lv_iload hx hb dX5_act_144 (lv_at hl 4 rfl) ?_
          refine lv_iadd hx hb dX5_act_146 ?_
          refine lv_topE (nI ((bitsN sx (2 * ((g 3) (4 * kk))) 2) + ((g 3) ((4 * kk) + 1)))) (nI_add _ _) ?_
          refine lv_iconst (v := nI 4) hx hb dX5_act_147 (by decide) ?_
          refine lv_irem hx hb dX5_act_148 (nI_ne0 (by omega) (by omega)) ?_
          refine lv_topE (nI (((bitsN sx (2 * ((g 3) (4 * kk))) 2) + ((g 3) ((4 * kk) + 1))) % 4)) (pk_rem (by omega) (by omega) (by omega)) ?_
          refine cSl (As := [.long (lN (withN sx ((8 + (4 * h)) + (2 * ((g 3) ((4 * kk) + 1)))) 2 (bitsN sx (2 * ((g 3) (4 * kk))) 2))), .int (nI (2 * ((g 3) (4 * kk)))), .int (nI 2), .int (nI (((bitsN sx (2 * ((g 3) (4 * kk))) 2) + ((g 3) ((4 * kk) + 1))) % 4))]) (rest := []) ⟨hx, hb, hml, hown, hts⟩ (c_X5_with l  (withN sx ((8 + (4 * h)) + (2 * ((g 3) ((4 * kk) + 1)))) 2 (bitsN sx (2 * ((g 3) (4 * kk))) 2)) (2 * ((g 3) (4 * kk))) 2 (((bitsN sx (2 * ((g 3) (4 * kk))) 2) + ((g 3) ((4 * kk) + 1))) % 4) (by omega) (by omega) (by omega) (by omega)) (va_cwS 4 hts (gS mU_480 mU_481 mU_6 mU_482) rfl rfl rfl (by decide +kernel) ⟨Nat.le_of_ble_eq_true rfl, Nat.le_of_ble_eq_true rfl⟩) fbU (fun _ _ _ => trivial) rfl hl.1 rfl (Nat.le_of_ble_eq_true rfl) dX5_act_149 ⟨Nat.zero_le _, Nat.zero_le _⟩ ?_
          have hf_26 : withN (withN sx ((8 + (4 * h)) + (2 * ((g 3) ((4 * kk) + 1)))) 2 (bitsN sx (2 * ((g 3) (4 * kk))) 2)) (2 * ((g 3) (4 * kk))) 2 (((bitsN sx (2 * ((g 3) (4 * kk))) 2) + ((g 3) ((4 * kk) + 1))) % 4) < 2 ^ 48 := withN_lt (by omega) (by omega) (by omega)
          subst hQ
          exact rtl hx hb hr hlocks rfl (by first | (unfold actM; (try first | rw [if_pos c50_5] | rw [if_neg c50_5]); (try first | rw [if_pos c68_6] | rw [if_neg c68_6]); (try first | rw [if_pos c123_22] | rw [if_neg c123_22]); (try first | rw [if_pos c132_23] | rw [if_neg c132_23]); (try rfl); done) | (exfalso; omega)) dX5_act_152
      · have c123_22 : so = 1 := (nI_eqG (a := so) (b := 1) (by omega) (by omega)).mp c123_22
        refine lv_lload hx hb dX5_act_126 (lv_at hl 0 rfl) ?_
        subst hQ
        exact rtl hx hb hr hlocks rfl (by first | (unfold actM; (try first | rw [if_pos c50_5] | rw [if_neg c50_5]); (try first | rw [if_pos c68_6] | rw [if_neg c68_6]); (try first | rw [if_pos c123_22] | rw [if_neg c123_22]); (try rfl); done) | (exfalso; omega)) dX5_act_128
  · have c50_5 : so = 0 := (nI_eqG (a := so) (b := 0) (by omega) (by omega)).mp c50_5
    refine lv_lload_n hx hb dX5_act_53 rfl (lv_at hl 5 rfl) ?_
    refine lv_iconst (v := nI 2) hx hb dX5_act_54 (by decide) ?_
    refine lv_iload hx hb dX5_act_55 (lv_at hl 3 rfl) ?_
    refine lv_imul hx hb dX5_act_57 ?_
    refine lv_topE (nI (2 * ((g 3) (4 * kk)))) (pk_mul _ _) ?_
    refine lv_iconst (v := nI 2) hx hb dX5_act_58 (by decide) ?_
    refine lv_iload hx hb dX5_act_59 (lv_at hl 2 rfl) ?_
    refine cSl (As := [.long (lN sx), .int (nI (2 * ((g 3) (4 * kk)))), .int (nI 2), .int (nI ((g 3) ((4 * kk) + 1)))]) (rest := []) ⟨hx, hb, hml, hown, hts⟩ (c_X5_with l  sx (2 * ((g 3) (4 * kk))) 2 ((g 3) ((4 * kk) + 1)) (by omega) (by omega) (by omega) (by omega)) (va_cwS 4 hts (gS mU_480 mU_481 mU_6 mU_482) rfl rfl rfl (by decide +kernel) ⟨Nat.le_of_ble_eq_true rfl, Nat.le_of_ble_eq_true rfl⟩) fbU (fun _ _ _ => trivial) rfl hl.1 rfl (Nat.le_of_ble_eq_true rfl) dX5_act_61 ⟨Nat.zero_le _, Nat.zero_le _⟩ ?_
    have hf_27 : withN sx (2 * ((g 3) (4 * kk))) 2 ((g 3) ((4 * kk) + 1)) < 2 ^ 48 := withN_lt (by omega) (by omega) (by omega)
    subst hQ
    exact rtl hx hb hr hlocks rfl (by first | (unfold actM; (try first | rw [if_pos c50_5] | rw [if_neg c50_5]); (try rfl); done) | (exfalso; omega)) dX5_act_64

set_option maxHeartbeats 4000000 in
set_option maxRecDepth 100000 in
theorem c_X5_wish (l : Launch) (D : va_G) (ad : Nat → Nat) (ka : Nat → ClassId) (f : Nat → Nat) (g : Nat → Nat → Nat) (t : Nat → Nat) (sx : Nat) (h : Nat) (wh : Nat) (hg : ∀ a, a < 6 → ∀ i, g a i < 2147483648) (hL : okL g) (hwf : wfM g sx) (hh : h < 2) (hwh : wh < 3) : Met l yX5_wish (.code yX5_wish cX5_wish 13 (some .long) :: wsL_law) ({ frames := 2, cells := 0, slots := 0, locals := 56 }) (va_Pc [.ref (ad 0), .long (lN sx), .int (nI h), .int (nI wh)] (PR D (mW ad ka f g t) (mT ka))) (QrL (eO (wishM g sx h wh))) 0 0 (fun _ => False) := by
  refine Met.ofW (cc := cX5_wish) (maxL := 13) (ret := (some .long)) (by decide) rfl ?_
  intro p e s m args below meth c s₁ B hml hv
  obtain ⟨rfl, hP, hK⟩ := hv
  have hx := B.exec
  have hb := B.bytes
  have hr := B.returns
  have hts := atoms_spec (ws := .code yX5_wish cX5_wish 13 (some .long) :: wsL_law) B.pre
  have hU : ∀ w ∈ wsL_law, w.before _ s = true := fun w h => hts w (List.mem_cons_of_mem _ h)
  have hown : s.vm.findClass RX5 = some m.cls := findClass_of_methodNamed B.named
  have hlocks := B.notSynchronized
  generalize hQ : MQ _ _ _ _ _ _ _ = Q
  have hl := lv_entry ([.ref (ad 0), .long (lN sx), .int (nI h), .int (nI wh)]) (n := 13) (Nat.le_of_ble_eq_true rfl)
  rw [lg_entry_eq]
  generalize (lg_sl ([.ref (ad 0), .long (lN sx), .int (nI h), .int (nI wh)]) ++ List.replicate (13 - (lg_sl ([.ref (ad 0), .long (lN sx), .int (nI h), .int (nI wh)])).length) Slot.unset).toArray = ls at hl ⊢
  have hl : lv_has ls 13 [(0, .ref (ad 0)), (1, .long (lN sx)), (3, .int (nI h)), (4, .int (nI wh))] := hl
  rcases (show wh = 0 ∨ wh = 1 ∨ wh = 2 from by omega) with rfl | rfl | rfl
  · have hl : lv_has ls 13 [(0, .ref (ad 0)), (1, .long (lN sx)), (3, .int (nI h)), (4, .int (nI 0))] := hl
    obtain ⟨hsx, hw0⟩ := hwf
    have hl7 := (hL h hh).1
    refine lv_lload_n hx hb dX5_wish_0 rfl (lv_at hl 1 rfl) ?_
    refine lv_iload_n hx hb dX5_wish_1 rfl (lv_at hl 2 rfl) ?_
    refine cSi (As := [.long (lN sx), .int (nI h)]) (rest := []) ⟨hx, hb, hml, hown, hts⟩ (c_X5_wishes l  sx h (by omega) (by omega)) (va_cwS 2 hts (gS mU_506 mU_507 mU_6 mU_508) rfl rfl rfl (by decide +kernel) ⟨Nat.le_of_ble_eq_true rfl, Nat.le_of_ble_eq_true rfl⟩) fbU (fun _ _ _ => trivial) rfl hl.1 rfl (Nat.le_of_ble_eq_true rfl) dX5_wish_2 ⟨Nat.zero_le _, Nat.zero_le _⟩ ?_
    have hf_1 : bitsN sx (22 + 2 * h) 2 < 4 := bitsN_lt _ _ _
    refine lv_istore (lv' := [(5, .int (nI (bitsN sx (22 + 2 * h) 2))), (0, .ref (ad 0)), (1, .long (lN sx)), (3, .int (nI h)), (4, .int (nI 0))]) hx hb dX5_wish_5 hl (by decide) rfl (fun ls hl => ?_)
    refine lv_iload hx hb dX5_wish_7 (lv_at hl 4 rfl) ?_
    refine lv_iload hx hb dX5_wish_9 (lv_at hl 0 rfl) ?_
    refine lv_icmp_lt (tgt := 18) hx hb dX5_wish_11 (by decide) (fun c11_2 => ?_) (fun c11_2 => ?_)
    · have c11_2 : 0 < bitsN sx (22 + 2 * h) 2 := (nI_ltI (a := 0) (b := bitsN sx (22 + 2 * h) 2) (by omega) (by omega)).mp c11_2
      have hwq : bitsN sx (26 + 9 * h + 0) 3 < g 1 (2 + h) ∧ sortM g sx h 0 < 4 := (hw0 h hh).2 0 (by omega)
      have hokq := (hL h hh).2 _ hwq.1
      have hka : g 3 (4 * (16 + 8 * h + bitsN sx (26 + 9 * h + 0) 3)) < 4 ∧ g 3 (4 * (16 + 8 * h + bitsN sx (26 + 9 * h + 0) 3) + 1) < 4 := okS_a hokq hwq.2
      refine lv_aload_n hx hb dX5_wish_18 rfl (lv_at hl 1 rfl) ?_
      refine lv_lload_n hx hb dX5_wish_19 rfl (lv_at hl 2 rfl) ?_
      refine lv_iload_n hx hb dX5_wish_20 rfl (lv_at hl 3 rfl) ?_
      refine lv_iload hx hb dX5_wish_21 (lv_at hl 4 rfl) ?_
      refine cVi (As := [.long (lN sx), .int (nI h), .int (nI 0)]) (rest := []) ⟨hx, hb, hml, hown, hts⟩ (c_X5_sortOf l D ad ka f g t sx h 0 (hg) (by omega) (by omega) (by omega)) (cwV 3 hts (gV mU_513 mU_514 mU_515 mU_6 mU_516) rfl rfl rfl (by decide +kernel) ⟨Nat.le_of_ble_eq_true rfl, Nat.le_of_ble_eq_true rfl⟩) fbR (va_recv hK hP (ci := 5) (q0 := 0) rfl rfl) (PR.of hP hK) rfl hl.1 rfl (Nat.le_of_ble_eq_true rfl) dX5_wish_23 ⟨Nat.zero_le _, Nat.zero_le _⟩ ?_
      have hf_3 : sortM g sx h 0 < 2147483648 := hg 2 (by decide) _
      refine lv_istore (lv' := [(6, .int (nI (sortM g sx h 0))), (5, .int (nI (bitsN sx (22 + 2 * h) 2))), (0, .ref (ad 0)), (1, .long (lN sx)), (3, .int (nI h)), (4, .int (nI 0))]) hx hb dX5_wish_26 hl (by decide) rfl (fun ls hl => ?_)
      refine lv_iload hx hb dX5_wish_28 (lv_at hl 5 rfl) ?_
      refine lv_if_le (tgt := 43) hx hb dX5_wish_30 (by decide) (fun c30_4 => ?_) (fun c30_4 => absurd (by decide) c30_4)
      refine lv_iconst (v := nI 0) hx hb dX5_wish_43 (by decide) ?_
      refine lv_istore (lv' := [(7, .int (nI 0)), (6, .int (nI (sortM g sx h 0))), (5, .int (nI (bitsN sx (22 + 2 * h) 2))), (0, .ref (ad 0)), (1, .long (lN sx)), (3, .int (nI h)), (4, .int (nI 0))]) hx hb dX5_wish_44 hl (by decide) rfl (fun ls hl => ?_)
      refine lv_iload hx hb dX5_wish_46 (lv_at hl 0 rfl) ?_
      refine lv_iload hx hb dX5_wish_48 (lv_at hl 6 rfl) ?_
      refine lv_icmp_ge (tgt := 75) hx hb dX5_wish_50 (by decide) (fun c50_5 => ?_) (fun c50_5 => absurd (by decide) c50_5)
      refine lv_bipush (v := nI 16) hx hb dX5_wish_75 (by decide) ?_
      refine lv_bipush (v := nI 8) hx hb dX5_wish_77 (by decide) ?_
      refine lv_iload_n hx hb dX5_wish_79 rfl (lv_at hl 5 rfl) ?_
      refine lv_imul hx hb dX5_wish_80 ?_
      refine lv_topE (nI (8 * h)) (pk_mul _ _) ?_
      refine lv_iadd hx hb dX5_wish_81 ?_
      refine lv_topE (nI (16 + (8 * h))) (nI_add _ _) ?_
      refine lv_lload_n hx hb dX5_wish_82 rfl (lv_at hl 4 rfl) ?_
      refine lv_bipush (v := nI 26) hx hb dX5_wish_83 (by decide) ?_
      refine lv_bipush (v := nI 9) hx hb dX5_wish_85 (by decide) ?_
      refine lv_iload_n hx hb dX5_wish_87 rfl (lv_at hl 5 rfl) ?_
      refine lv_imul hx hb dX5_wish_88 ?_
      refine lv_topE (nI (9 * h)) (pk_mul _ _) ?_
      refine lv_iadd hx hb dX5_wish_89 ?_
      refine lv_topE (nI (26 + (9 * h))) (nI_add _ _) ?_
      refine lv_iconst (v := nI 3) hx hb dX5_wish_90 (by decide) ?_
      refine lv_iload hx hb dX5_wish_91 (lv_at hl 6 rfl) ?_
      refine lv_imul hx hb dX5_wish_93 ?_
      refine lv_topE (nI 0) (pk_mul _ _) ?_
      refine lv_iadd hx hb dX5_wish_94 ?_
      refine lv_topE (nI ((26 + (9 * h)) + 0)) (nI_add _ _) ?_
      refine lv_iconst (v := nI 3) hx hb dX5_wish_95 (by decide) ?_
      refine cSi (As := [.long (lN sx), .int (nI ((26 + (9 * h)) + 0)), .int (nI 3)]) (rest := [.int (nI (16 + (8 * h)))]) ⟨hx, hb, hml, hown, hts⟩ (c_X5_bits l  sx ((26 + (9 * h)) + 0) 3 (by omega) (by omega) (by omega)) (va_cwS 3 hts (gS mU_503 mU_504 mU_6 mU_505) rfl rfl rfl (by decide +kernel) ⟨Nat.le_of_ble_eq_true rfl, Nat.le_of_ble_eq_true rfl⟩) fbU (fun _ _ _ => trivial) rfl hl.1 rfl (Nat.le_of_ble_eq_true rfl) dX5_wish_96 ⟨Nat.zero_le _, Nat.zero_le _⟩ ?_
      have hf_6 : bitsN sx ((26 + (9 * h)) + 0) 3 < 2 ^ 3 := bitsN_lt _ _ _
      refine lv_iadd hx hb dX5_wish_99 ?_
      refine lv_topE (nI ((16 + (8 * h)) + (bitsN sx ((26 + (9 * h)) + 0) 3))) (nI_add _ _) ?_
      refine lv_istore (lv' := [(7, .int (nI ((16 + (8 * h)) + (bitsN sx ((26 + (9 * h)) + 0) 3)))), (6, .int (nI (sortM g sx h 0))), (5, .int (nI (bitsN sx (22 + 2 * h) 2))), (0, .ref (ad 0)), (1, .long (lN sx)), (3, .int (nI h)), (4, .int (nI 0))]) hx hb dX5_wish_100 hl (by decide) rfl (fun ls hl => ?_)
      refine lv_aload_n hx hb dX5_wish_102 rfl (lv_at hl 3 rfl) ?_
      refine va_get (D := D) (ci := 5) (v := .ref (ad 3)) (C := RX5) (T := TX5) (N := 23) hx hb hU iX5 hown hK hP 0 rfl rfl 2 (by decide) (hU _ mU_77) (fun _ h9 => h9) rfl dX5_wish_103 ?_
      refine lv_iconst (v := nI 4) hx hb dX5_wish_106 (by decide) ?_
      refine lv_iload hx hb dX5_wish_107 (lv_at hl 0 rfl) ?_
      refine lv_imul hx hb dX5_wish_109 ?_
      refine lv_topE (nI (4 * ((16 + (8 * h)) + (bitsN sx ((26 + (9 * h)) + 0) 3)))) (pk_mul _ _) ?_
      refine n_iald hx hb hK hP 3 2 rfl rfl (i := 4 * ((16 + (8 * h)) + (bitsN sx ((26 + (9 * h)) + 0) 3))) (by omega) (by decide) dX5_wish_110 ?_
      have hb_7 := hg 3 (by decide) (4 * ((16 + (8 * h)) + (bitsN sx ((26 + (9 * h)) + 0) 3)))
      refine lv_istore (lv' := [(8, .int (nI ((g 3) (4 * ((16 + (8 * h)) + (bitsN sx ((26 + (9 * h)) + 0) 3)))))), (7, .int (nI ((16 + (8 * h)) + (bitsN sx ((26 + (9 * h)) + 0) 3)))), (6, .int (nI (sortM g sx h 0))), (5, .int (nI (bitsN sx (22 + 2 * h) 2))), (0, .ref (ad 0)), (1, .long (lN sx)), (3, .int (nI h)), (4, .int (nI 0))]) hx hb dX5_wish_111 hl (by decide) rfl (fun ls hl => ?_)
      refine lv_iload hx hb dX5_wish_113 (lv_at hl 2 rfl) ?_
      refine lv_iconst (v := nI 1) hx hb dX5_wish_115 (by decide) ?_
      refine lv_icmp_ne (tgt := 123) hx hb dX5_wish_116 (by decide) (fun c116_8 => ?_) (fun c116_8 => ?_)
      · have c116_8 : ¬ (sortM g sx h 0 = 1) := fun h9 => c116_8 ((nI_eqG (a := sortM g sx h 0) (b := 1) (by omega) (by omega)).mpr h9)
        refine lv_iload hx hb dX5_wish_123 (lv_at hl 2 rfl) ?_
        refine lv_if_ne (tgt := 132) hx hb dX5_wish_125 (by decide) (fun c125_9 => ?_) (fun c125_9 => ?_)
        · have c125_9 : ¬ (sortM g sx h 0 = 0) := fun h9 => c125_9 ((nI_eqG (a := sortM g sx h 0) (b := 0) (by omega) (by omega)).mpr h9)
          refine lv_iconst (v := nI 4) hx hb dX5_wish_132 (by decide) ?_
          refine lv_istore (lv' := [(9, .int (nI 4)), (8, .int (nI ((g 3) (4 * ((16 + (8 * h)) + (bitsN sx ((26 + (9 * h)) + 0) 3)))))), (7, .int (nI ((16 + (8 * h)) + (bitsN sx ((26 + (9 * h)) + 0) 3)))), (6, .int (nI (sortM g sx h 0))), (5, .int (nI (bitsN sx (22 + 2 * h) 2))), (0, .ref (ad 0)), (1, .long (lN sx)), (3, .int (nI h)), (4, .int (nI 0))]) hx hb dX5_wish_133 hl (by decide) rfl (fun ls hl => ?_)
          refine lv_lload_n hx hb dX5_wish_135 rfl (lv_at hl 6 rfl) ?_
          refine lv_bipush (v := nI 46) hx hb dX5_wish_136 (by decide) ?_
          refine lv_iconst (v := nI 2) hx hb dX5_wish_138 (by decide) ?_
          refine cSi (As := [.long (lN sx), .int (nI 46), .int (nI 2)]) (rest := []) ⟨hx, hb, hml, hown, hts⟩ (c_X5_bits l  sx 46 2 (by omega) (by omega) (by omega)) (va_cwS 3 hts (gS mU_503 mU_504 mU_6 mU_505) rfl rfl rfl (by decide +kernel) ⟨Nat.le_of_ble_eq_true rfl, Nat.le_of_ble_eq_true rfl⟩) fbU (fun _ _ _ => trivial) rfl hl.1 rfl (Nat.le_of_ble_eq_true rfl) dX5_wish_139 ⟨Nat.zero_le _, Nat.zero_le _⟩ ?_
          have hf_10 : bitsN sx 46 2 < 2 ^ 2 := bitsN_lt _ _ _
          refine lv_iconst (v := nI 2) hx hb dX5_wish_142 (by decide) ?_
          refine lv_iload_n hx hb dX5_wish_143 rfl (lv_at hl 7 rfl) ?_
          refine lv_isub hx hb dX5_wish_144 ?_
          refine lv_topE (nI (2 - h)) (pk_sub (by omega)) ?_
          refine lv_icmp_eq (tgt := 161) hx hb dX5_wish_145 (by decide) (fun c145_11 => ?_) (fun c145_11 => ?_)
          · have c145_11 : bitsN sx 46 2 = 2 - h := (nI_eqG (a := bitsN sx 46 2) (b := 2 - h) (by omega) (by omega)).mp c145_11
            refine lv_lload_n hx hb dX5_wish_161 rfl (lv_at hl 6 rfl) ?_
            refine lv_iload_n hx hb dX5_wish_162 rfl (lv_at hl 7 rfl) ?_
            refine cSl (As := [.long (lN sx), .int (nI h)]) (rest := []) ⟨hx, hb, hml, hown, hts⟩ (c_X5_broken l  sx h (by omega) (by omega)) (va_cwS 2 hts (gS mU_521 mU_522 mU_6 mU_523) rfl rfl rfl (by decide +kernel) ⟨Nat.le_of_ble_eq_true rfl, Nat.le_of_ble_eq_true rfl⟩) fbU (fun _ _ _ => trivial) rfl hl.1 rfl (Nat.le_of_ble_eq_true rfl) dX5_wish_163 ⟨Nat.zero_le _, Nat.zero_le _⟩ ?_
            have hf_12 : brokenM sx h < 2 ^ 48 := withN_lt (withN_lt (withN_lt (by omega) (by omega) (by omega)) (by omega) (by omega)) (by omega) (by omega)
            subst hQ
            exact rtl hx hb hr hlocks rfl (by first | (unfold wishM; unfold wishM0; unfold wishE; unfold needM; (try first | rw [if_pos c11_2] | rw [if_neg c11_2]); (try first | rw [if_pos c116_8] | rw [if_neg c116_8]); (try first | rw [if_pos c125_9] | rw [if_neg c125_9]); (try first | rw [if_pos c145_11] | rw [if_neg c145_11]); (try rfl); done) | (exfalso; omega)) dX5_wish_166
          · have c145_11 : ¬ (bitsN sx 46 2 = 2 - h) := fun h9 => c145_11 ((nI_eqG (a := bitsN sx 46 2) (b := 2 - h) (by omega) (by omega)).mpr h9)
            refine lv_aload_n hx hb dX5_wish_148 rfl (lv_at hl 5 rfl) ?_
            refine va_get (D := D) (ci := 5) (v := .ref (ad 5)) (C := RX5) (T := TX5) (N := 23) hx hb hU iX5 hown hK hP 0 rfl rfl 4 (by decide) (hU _ mU_79) (fun _ h9 => h9) rfl dX5_wish_149 ?_
            refine lv_iload hx hb dX5_wish_152 (lv_at hl 1 rfl) ?_
            refine n_iald hx hb hK hP 5 4 rfl rfl (i := (g 3) (4 * ((16 + (8 * h)) + (bitsN sx ((26 + (9 * h)) + 0) 3)))) (by omega) (by decide) dX5_wish_154 ?_
            have hb_13 := hg 5 (by decide) ((g 3) (4 * ((16 + (8 * h)) + (bitsN sx ((26 + (9 * h)) + 0) 3))))
            refine lv_iload hx hb dX5_wish_155 (lv_at hl 0 rfl) ?_
            refine lv_iand hx hb dX5_wish_157 ?_
            have hb_14 : ((g 5) ((g 3) (4 * ((16 + (8 * h)) + (bitsN sx ((26 + (9 * h)) + 0) 3))))) &&& 4 ≤ 4 := Nat.and_le_right
            refine lv_topE (nI (((g 5) ((g 3) (4 * ((16 + (8 * h)) + (bitsN sx ((26 + (9 * h)) + 0) 3))))) &&& 4)) (fa_and _ _) ?_
            refine lv_if_ne (tgt := 167) hx hb dX5_wish_158 (by decide) (fun c158_15 => ?_) (fun c158_15 => ?_)
            · have c158_15 : ¬ (((g 5) ((g 3) (4 * ((16 + (8 * h)) + (bitsN sx ((26 + (9 * h)) + 0) 3))))) &&& 4 = 0) := fun h9 => c158_15 ((nI_eqG (a := ((g 5) ((g 3) (4 * ((16 + (8 * h)) + (bitsN sx ((26 + (9 * h)) + 0) 3))))) &&& 4) (b := 0) (by omega) (by omega)).mpr h9)
              refine lv_lload_n hx hb dX5_wish_167 rfl (lv_at hl 6 rfl) ?_
              refine lv_bipush (v := nI 22) hx hb dX5_wish_168 (by decide) ?_
              refine lv_iconst (v := nI 2) hx hb dX5_wish_170 (by decide) ?_
              refine lv_iload_n hx hb dX5_wish_171 rfl (lv_at hl 7 rfl) ?_
              refine lv_imul hx hb dX5_wish_172 ?_
              refine lv_topE (nI (2 * h)) (pk_mul _ _) ?_
              refine lv_iadd hx hb dX5_wish_173 ?_
              refine lv_topE (nI (22 + (2 * h))) (nI_add _ _) ?_
              refine lv_iconst (v := nI 2) hx hb dX5_wish_174 (by decide) ?_
              refine lv_iload hx hb dX5_wish_175 (lv_at hl 4 rfl) ?_
              refine lv_iconst (v := nI 1) hx hb dX5_wish_177 (by decide) ?_
              refine lv_isub hx hb dX5_wish_178 ?_
              refine lv_topE (nI ((bitsN sx (22 + 2 * h) 2) - 1)) (pk_sub (by omega)) ?_
              refine cSl (As := [.long (lN sx), .int (nI (22 + (2 * h))), .int (nI 2), .int (nI ((bitsN sx (22 + 2 * h) 2) - 1))]) (rest := []) ⟨hx, hb, hml, hown, hts⟩ (c_X5_with l  sx (22 + (2 * h)) 2 ((bitsN sx (22 + 2 * h) 2) - 1) (by omega) (by omega) (by omega) (by omega)) (va_cwS 4 hts (gS mU_480 mU_481 mU_6 mU_482) rfl rfl rfl (by decide +kernel) ⟨Nat.le_of_ble_eq_true rfl, Nat.le_of_ble_eq_true rfl⟩) fbU (fun _ _ _ => trivial) rfl hl.1 rfl (Nat.le_of_ble_eq_true rfl) dX5_wish_179 ⟨Nat.zero_le _, Nat.zero_le _⟩ ?_
              have hf_16 : withN sx (22 + (2 * h)) 2 ((bitsN sx (22 + 2 * h) 2) - 1) < 2 ^ 48 := withN_lt (by omega) (by omega) (by omega)
              refine lv_lstore (lv' := [(10, .long (lN (withN sx (22 + (2 * h)) 2 ((bitsN sx (22 + 2 * h) 2) - 1)))), (9, .int (nI 4)), (8, .int (nI ((g 3) (4 * ((16 + (8 * h)) + (bitsN sx ((26 + (9 * h)) + 0) 3)))))), (7, .int (nI ((16 + (8 * h)) + (bitsN sx ((26 + (9 * h)) + 0) 3)))), (6, .int (nI (sortM g sx h 0))), (5, .int (nI (bitsN sx (22 + 2 * h) 2))), (0, .ref (ad 0)), (1, .long (lN sx)), (3, .int (nI h)), (4, .int (nI 0))]) hx hb dX5_wish_182 hl (by decide) rfl (fun ls hl => ?_)
              refine lv_iload hx hb dX5_wish_184 (lv_at hl 9 rfl) ?_
              refine lv_istore (lv' := [(12, .int (nI 0)), (10, .long (lN (withN sx (22 + (2 * h)) 2 ((bitsN sx (22 + 2 * h) 2) - 1)))), (9, .int (nI 4)), (8, .int (nI ((g 3) (4 * ((16 + (8 * h)) + (bitsN sx ((26 + (9 * h)) + 0) 3)))))), (7, .int (nI ((16 + (8 * h)) + (bitsN sx ((26 + (9 * h)) + 0) 3)))), (6, .int (nI (sortM g sx h 0))), (5, .int (nI (bitsN sx (22 + 2 * h) 2))), (0, .ref (ad 0)), (1, .long (lN sx)), (3, .int (nI h)), (4, .int (nI 0))]) hx hb dX5_wish_186 hl (by decide) rfl (fun ls hl => ?_)
              refine lv_iload hx hb dX5_wish_188 (lv_at hl 0 rfl) ?_
              refine lv_iconst (v := nI 3) hx hb dX5_wish_190 (by decide) ?_
              refine lv_icmp_ge (tgt := 249) hx hb dX5_wish_191 (by decide) (fun c191_17 => absurd c191_17 (by decide)) (fun c191_17 => ?_)
              refine lv_lload hx hb dX5_wish_194 (lv_at hl 1 rfl) ?_
              refine lv_bipush (v := nI 26) hx hb dX5_wish_196 (by decide) ?_
              refine lv_bipush (v := nI 9) hx hb dX5_wish_198 (by decide) ?_
              refine lv_iload_n hx hb dX5_wish_200 rfl (lv_at hl 9 rfl) ?_
              refine lv_imul hx hb dX5_wish_201 ?_
              refine lv_topE (nI (9 * h)) (pk_mul _ _) ?_
              refine lv_iadd hx hb dX5_wish_202 ?_
              refine lv_topE (nI (26 + (9 * h))) (nI_add _ _) ?_
              refine lv_iconst (v := nI 3) hx hb dX5_wish_203 (by decide) ?_
              refine lv_iload hx hb dX5_wish_204 (lv_at hl 0 rfl) ?_
              refine lv_imul hx hb dX5_wish_206 ?_
              refine lv_topE (nI 0) (pk_mul _ _) ?_
              refine lv_iadd hx hb dX5_wish_207 ?_
              refine lv_topE (nI ((26 + (9 * h)) + 0)) (nI_add _ _) ?_
              refine lv_iconst (v := nI 3) hx hb dX5_wish_208 (by decide) ?_
              refine lv_iload hx hb dX5_wish_209 (lv_at hl 0 rfl) ?_
              refine lv_iconst (v := nI 2) hx hb dX5_wish_211 (by decide) ?_
              refine lv_icmp_ge (tgt := 237) hx hb dX5_wish_212 (by decide) (fun c212_18 => absurd c212_18 (by decide)) (fun c212_18 => ?_)
              refine lv_lload_n hx hb dX5_wish_215 rfl (lv_at hl 8 rfl) ?_
              refine lv_bipush (v := nI 26) hx hb dX5_wish_216 (by decide) ?_
              refine lv_bipush (v := nI 9) hx hb dX5_wish_218 (by decide) ?_
              refine lv_iload_n hx hb dX5_wish_220 rfl (lv_at hl 9 rfl) ?_
              refine lv_imul hx hb dX5_wish_221 ?_
              refine lv_topE (nI (9 * h)) (pk_mul _ _) ?_
              refine lv_iadd hx hb dX5_wish_222 ?_
              refine lv_topE (nI (26 + (9 * h))) (nI_add _ _) ?_
              refine lv_iconst (v := nI 3) hx hb dX5_wish_223 (by decide) ?_
              refine lv_iload hx hb dX5_wish_224 (lv_at hl 0 rfl) ?_
              refine lv_imul hx hb dX5_wish_226 ?_
              refine lv_topE (nI 0) (pk_mul _ _) ?_
              refine lv_iadd hx hb dX5_wish_227 ?_
              refine lv_topE (nI ((26 + (9 * h)) + 0)) (nI_add _ _) ?_
              refine lv_iconst (v := nI 3) hx hb dX5_wish_228 (by decide) ?_
              refine lv_iadd hx hb dX5_wish_229 ?_
              refine lv_topE (nI (((26 + (9 * h)) + 0) + 3)) (nI_add _ _) ?_
              refine lv_iconst (v := nI 3) hx hb dX5_wish_230 (by decide) ?_
              refine cSi (As := [.long (lN sx), .int (nI (((26 + (9 * h)) + 0) + 3)), .int (nI 3)]) (rest := [.int (nI 3), .int (nI ((26 + (9 * h)) + 0)), .long (lN (withN sx (22 + (2 * h)) 2 ((bitsN sx (22 + 2 * h) 2) - 1)))]) ⟨hx, hb, hml, hown, hts⟩ (c_X5_bits l  sx (((26 + (9 * h)) + 0) + 3) 3 (by omega) (by omega) (by omega)) (va_cwS 3 hts (gS mU_503 mU_504 mU_6 mU_505) rfl rfl rfl (by decide +kernel) ⟨Nat.le_of_ble_eq_true rfl, Nat.le_of_ble_eq_true rfl⟩) fbU (fun _ _ _ => trivial) rfl hl.1 rfl (Nat.le_of_ble_eq_true rfl) dX5_wish_231 ⟨Nat.zero_le _, Nat.zero_le _⟩ ?_
              have hf_19 : bitsN sx (((26 + (9 * h)) + 0) + 3) 3 < 2 ^ 3 := bitsN_lt _ _ _
              refine lv_goto (tgt := 238) hx hb dX5_wish_234 (by decide) ?_
              refine cSl (As := [.long (lN (withN sx (22 + (2 * h)) 2 ((bitsN sx (22 + 2 * h) 2) - 1))), .int (nI ((26 + (9 * h)) + 0)), .int (nI 3), .int (nI (bitsN sx (((26 + (9 * h)) + 0) + 3) 3))]) (rest := []) ⟨hx, hb, hml, hown, hts⟩ (c_X5_with l  (withN sx (22 + (2 * h)) 2 ((bitsN sx (22 + 2 * h) 2) - 1)) ((26 + (9 * h)) + 0) 3 (bitsN sx (((26 + (9 * h)) + 0) + 3) 3) (by omega) (by omega) (by omega) (by omega)) (va_cwS 4 hts (gS mU_480 mU_481 mU_6 mU_482) rfl rfl rfl (by decide +kernel) ⟨Nat.le_of_ble_eq_true rfl, Nat.le_of_ble_eq_true rfl⟩) fbU (fun _ _ _ => trivial) rfl hl.1 rfl (Nat.le_of_ble_eq_true rfl) dX5_wish_238 ⟨Nat.zero_le _, Nat.zero_le _⟩ ?_
              have hf_20 : withN (withN sx (22 + (2 * h)) 2 ((bitsN sx (22 + 2 * h) 2) - 1)) ((26 + (9 * h)) + 0) 3 (bitsN sx (((26 + (9 * h)) + 0) + 3) 3) < 2 ^ 48 := withN_lt (by omega) (by omega) (by omega)
              refine lv_lstore (lv' := [(10, .long (lN (withN (withN sx (22 + (2 * h)) 2 ((bitsN sx (22 + 2 * h) 2) - 1)) ((26 + (9 * h)) + 0) 3 (bitsN sx (((26 + (9 * h)) + 0) + 3) 3)))), (12, .int (nI 0)), (9, .int (nI 4)), (8, .int (nI ((g 3) (4 * ((16 + (8 * h)) + (bitsN sx ((26 + (9 * h)) + 0) 3)))))), (7, .int (nI ((16 + (8 * h)) + (bitsN sx ((26 + (9 * h)) + 0) 3)))), (6, .int (nI (sortM g sx h 0))), (5, .int (nI (bitsN sx (22 + 2 * h) 2))), (0, .ref (ad 0)), (1, .long (lN sx)), (3, .int (nI h)), (4, .int (nI 0))]) hx hb dX5_wish_241 hl (by decide) rfl (fun ls hl => ?_)
              refine lv_iinc (v := nI 1) (lv' := [(12, .int (nI 1)), (10, .long (lN (withN (withN sx (22 + (2 * h)) 2 ((bitsN sx (22 + 2 * h) 2) - 1)) ((26 + (9 * h)) + 0) 3 (bitsN sx (((26 + (9 * h)) + 0) + 3) 3)))), (9, .int (nI 4)), (8, .int (nI ((g 3) (4 * ((16 + (8 * h)) + (bitsN sx ((26 + (9 * h)) + 0) 3)))))), (7, .int (nI ((16 + (8 * h)) + (bitsN sx ((26 + (9 * h)) + 0) 3)))), (6, .int (nI (sortM g sx h 0))), (5, .int (nI (bitsN sx (22 + 2 * h) 2))), (0, .ref (ad 0)), (1, .long (lN sx)), (3, .int (nI h)), (4, .int (nI 0))]) hx hb dX5_wish_243 hl (k := 1) rfl (by decide) (by decide) rfl (fun ls hl => ?_)
              refine lv_goto (tgt := 188) hx hb dX5_wish_246 (by decide) ?_
              refine lv_iload hx hb dX5_wish_188 (lv_at hl 0 rfl) ?_
              refine lv_iconst (v := nI 3) hx hb dX5_wish_190 (by decide) ?_
              refine lv_icmp_ge (tgt := 249) hx hb dX5_wish_191 (by decide) (fun c191_21 => absurd c191_21 (by decide)) (fun c191_21 => ?_)
              refine lv_lload hx hb dX5_wish_194 (lv_at hl 1 rfl) ?_
              refine lv_bipush (v := nI 26) hx hb dX5_wish_196 (by decide) ?_
              refine lv_bipush (v := nI 9) hx hb dX5_wish_198 (by decide) ?_
              refine lv_iload_n hx hb dX5_wish_200 rfl (lv_at hl 9 rfl) ?_
              refine lv_imul hx hb dX5_wish_201 ?_
              refine lv_topE (nI (9 * h)) (pk_mul _ _) ?_
              refine lv_iadd hx hb dX5_wish_202 ?_
              refine lv_topE (nI (26 + (9 * h))) (nI_add _ _) ?_
              refine lv_iconst (v := nI 3) hx hb dX5_wish_203 (by decide) ?_
              refine lv_iload hx hb dX5_wish_204 (lv_at hl 0 rfl) ?_
              refine lv_imul hx hb dX5_wish_206 ?_
              refine lv_topE (nI 3) (pk_mul _ _) ?_
              refine lv_iadd hx hb dX5_wish_207 ?_
              refine lv_topE (nI ((26 + (9 * h)) + 3)) (nI_add _ _) ?_
              refine lv_iconst (v := nI 3) hx hb dX5_wish_208 (by decide) ?_
              refine lv_iload hx hb dX5_wish_209 (lv_at hl 0 rfl) ?_
              refine lv_iconst (v := nI 2) hx hb dX5_wish_211 (by decide) ?_
              refine lv_icmp_ge (tgt := 237) hx hb dX5_wish_212 (by decide) (fun c212_22 => absurd c212_22 (by decide)) (fun c212_22 => ?_)
              refine lv_lload_n hx hb dX5_wish_215 rfl (lv_at hl 8 rfl) ?_
              refine lv_bipush (v := nI 26) hx hb dX5_wish_216 (by decide) ?_
              refine lv_bipush (v := nI 9) hx hb dX5_wish_218 (by decide) ?_
              refine lv_iload_n hx hb dX5_wish_220 rfl (lv_at hl 9 rfl) ?_
              refine lv_imul hx hb dX5_wish_221 ?_
              refine lv_topE (nI (9 * h)) (pk_mul _ _) ?_
              refine lv_iadd hx hb dX5_wish_222 ?_
              refine lv_topE (nI (26 + (9 * h))) (nI_add _ _) ?_
              refine lv_iconst (v := nI 3) hx hb dX5_wish_223 (by decide) ?_
              refine lv_iload hx hb dX5_wish_224 (lv_at hl 0 rfl) ?_
              refine lv_imul hx hb dX5_wish_226 ?_
              refine lv_topE (nI 3) (pk_mul _ _) ?_
              refine lv_iadd hx hb dX5_wish_227 ?_
              refine lv_topE (nI ((26 + (9 * h)) + 3)) (nI_add _ _) ?_
              refine lv_iconst (v := nI 3) hx hb dX5_wish_228 (by decide) ?_
              refine lv_iadd hx hb dX5_wish_229 ?_
              refine lv_topE (nI (((26 + (9 * h)) + 3) + 3)) (nI_add _ _) ?_
              refine lv_iconst (v := nI 3) hx hb dX5_wish_230 (by decide) ?_
              refine cSi (As := [.long (lN sx), .int (nI (((26 + (9 * h)) + 3) + 3)), .int (nI 3)]) (rest := [.int (nI 3), .int (nI ((26 + (9 * h)) + 3)), .long (lN (withN (withN sx (22 + (2 * h)) 2 ((bitsN sx (22 + 2 * h) 2) - 1)) ((26 + (9 * h)) + 0) 3 (bitsN sx (((26 + (9 * h)) + 0) + 3) 3)))]) ⟨hx, hb, hml, hown, hts⟩ (c_X5_bits l  sx (((26 + (9 * h)) + 3) + 3) 3 (by omega) (by omega) (by omega)) (va_cwS 3 hts (gS mU_503 mU_504 mU_6 mU_505) rfl rfl rfl (by decide +kernel) ⟨Nat.le_of_ble_eq_true rfl, Nat.le_of_ble_eq_true rfl⟩) fbU (fun _ _ _ => trivial) rfl hl.1 rfl (Nat.le_of_ble_eq_true rfl) dX5_wish_231 ⟨Nat.zero_le _, Nat.zero_le _⟩ ?_
              have hf_23 : bitsN sx (((26 + (9 * h)) + 3) + 3) 3 < 2 ^ 3 := bitsN_lt _ _ _
              refine lv_goto (tgt := 238) hx hb dX5_wish_234 (by decide) ?_
              refine cSl (As := [.long (lN (withN (withN sx (22 + (2 * h)) 2 ((bitsN sx (22 + 2 * h) 2) - 1)) ((26 + (9 * h)) + 0) 3 (bitsN sx (((26 + (9 * h)) + 0) + 3) 3))), .int (nI ((26 + (9 * h)) + 3)), .int (nI 3), .int (nI (bitsN sx (((26 + (9 * h)) + 3) + 3) 3))]) (rest := []) ⟨hx, hb, hml, hown, hts⟩ (c_X5_with l  (withN (withN sx (22 + (2 * h)) 2 ((bitsN sx (22 + 2 * h) 2) - 1)) ((26 + (9 * h)) + 0) 3 (bitsN sx (((26 + (9 * h)) + 0) + 3) 3)) ((26 + (9 * h)) + 3) 3 (bitsN sx (((26 + (9 * h)) + 3) + 3) 3) (by omega) (by omega) (by omega) (by omega)) (va_cwS 4 hts (gS mU_480 mU_481 mU_6 mU_482) rfl rfl rfl (by decide +kernel) ⟨Nat.le_of_ble_eq_true rfl, Nat.le_of_ble_eq_true rfl⟩) fbU (fun _ _ _ => trivial) rfl hl.1 rfl (Nat.le_of_ble_eq_true rfl) dX5_wish_238 ⟨Nat.zero_le _, Nat.zero_le _⟩ ?_
              have hf_24 : withN (withN (withN sx (22 + (2 * h)) 2 ((bitsN sx (22 + 2 * h) 2) - 1)) ((26 + (9 * h)) + 0) 3 (bitsN sx (((26 + (9 * h)) + 0) + 3) 3)) ((26 + (9 * h)) + 3) 3 (bitsN sx (((26 + (9 * h)) + 3) + 3) 3) < 2 ^ 48 := withN_lt (by omega) (by omega) (by omega)
              refine lv_lstore (lv' := [(10, .long (lN (withN (withN (withN sx (22 + (2 * h)) 2 ((bitsN sx (22 + 2 * h) 2) - 1)) ((26 + (9 * h)) + 0) 3 (bitsN sx (((26 + (9 * h)) + 0) + 3) 3)) ((26 + (9 * h)) + 3) 3 (bitsN sx (((26 + (9 * h)) + 3) + 3) 3)))), (12, .int (nI 1)), (9, .int (nI 4)), (8, .int (nI ((g 3) (4 * ((16 + (8 * h)) + (bitsN sx ((26 + (9 * h)) + 0) 3)))))), (7, .int (nI ((16 + (8 * h)) + (bitsN sx ((26 + (9 * h)) + 0) 3)))), (6, .int (nI (sortM g sx h 0))), (5, .int (nI (bitsN sx (22 + 2 * h) 2))), (0, .ref (ad 0)), (1, .long (lN sx)), (3, .int (nI h)), (4, .int (nI 0))]) hx hb dX5_wish_241 hl (by decide) rfl (fun ls hl => ?_)
              refine lv_iinc (v := nI 2) (lv' := [(12, .int (nI 2)), (10, .long (lN (withN (withN (withN sx (22 + (2 * h)) 2 ((bitsN sx (22 + 2 * h) 2) - 1)) ((26 + (9 * h)) + 0) 3 (bitsN sx (((26 + (9 * h)) + 0) + 3) 3)) ((26 + (9 * h)) + 3) 3 (bitsN sx (((26 + (9 * h)) + 3) + 3) 3)))), (9, .int (nI 4)), (8, .int (nI ((g 3) (4 * ((16 + (8 * h)) + (bitsN sx ((26 + (9 * h)) + 0) 3)))))), (7, .int (nI ((16 + (8 * h)) + (bitsN sx ((26 + (9 * h)) + 0) 3)))), (6, .int (nI (sortM g sx h 0))), (5, .int (nI (bitsN sx (22 + 2 * h) 2))), (0, .ref (ad 0)), (1, .long (lN sx)), (3, .int (nI h)), (4, .int (nI 0))]) hx hb dX5_wish_243 hl (k := 1) rfl (by decide) (by decide) rfl (fun ls hl => ?_)
              refine lv_goto (tgt := 188) hx hb dX5_wish_246 (by decide) ?_
              refine lv_iload hx hb dX5_wish_188 (lv_at hl 0 rfl) ?_
              refine lv_iconst (v := nI 3) hx hb dX5_wish_190 (by decide) ?_
              refine lv_icmp_ge (tgt := 249) hx hb dX5_wish_191 (by decide) (fun c191_25 => absurd c191_25 (by decide)) (fun c191_25 => ?_)
              refine lv_lload hx hb dX5_wish_194 (lv_at hl 1 rfl) ?_
              refine lv_bipush (v := nI 26) hx hb dX5_wish_196 (by decide) ?_
              refine lv_bipush (v := nI 9) hx hb dX5_wish_198 (by decide) ?_
              refine lv_iload_n hx hb dX5_wish_200 rfl (lv_at hl 9 rfl) ?_
              refine lv_imul hx hb dX5_wish_201 ?_
              refine lv_topE (nI (9 * h)) (pk_mul _ _) ?_
              refine lv_iadd hx hb dX5_wish_202 ?_
              refine lv_topE (nI (26 + (9 * h))) (nI_add _ _) ?_
              refine lv_iconst (v := nI 3) hx hb dX5_wish_203 (by decide) ?_
              refine lv_iload hx hb dX5_wish_204 (lv_at hl 0 rfl) ?_
              refine lv_imul hx hb dX5_wish_206 ?_
              refine lv_topE (nI 6) (pk_mul _ _) ?_
              refine lv_iadd hx hb dX5_wish_207 ?_
              refine lv_topE (nI ((26 + (9 * h)) + 6)) (nI_add _ _) ?_
              refine lv_iconst (v := nI 3) hx hb dX5_wish_208 (by decide) ?_
              refine lv_iload hx hb dX5_wish_209 (lv_at hl 0 rfl) ?_
              refine lv_iconst (v := nI 2) hx hb dX5_wish_211 (by decide) ?_
              refine lv_icmp_ge (tgt := 237) hx hb dX5_wish_212 (by decide) (fun c212_26 => ?_) (fun c212_26 => absurd (by decide) c212_26)
              refine lv_iconst (v := nI 0) hx hb dX5_wish_237 (by decide) ?_
              refine cSl (As := [.long (lN (withN (withN (withN sx (22 + (2 * h)) 2 ((bitsN sx (22 + 2 * h) 2) - 1)) ((26 + (9 * h)) + 0) 3 (bitsN sx (((26 + (9 * h)) + 0) + 3) 3)) ((26 + (9 * h)) + 3) 3 (bitsN sx (((26 + (9 * h)) + 3) + 3) 3))), .int (nI ((26 + (9 * h)) + 6)), .int (nI 3), .int (nI 0)]) (rest := []) ⟨hx, hb, hml, hown, hts⟩ (c_X5_with l  (withN (withN (withN sx (22 + (2 * h)) 2 ((bitsN sx (22 + 2 * h) 2) - 1)) ((26 + (9 * h)) + 0) 3 (bitsN sx (((26 + (9 * h)) + 0) + 3) 3)) ((26 + (9 * h)) + 3) 3 (bitsN sx (((26 + (9 * h)) + 3) + 3) 3)) ((26 + (9 * h)) + 6) 3 0 (by omega) (by omega) (by omega) (by omega)) (va_cwS 4 hts (gS mU_480 mU_481 mU_6 mU_482) rfl rfl rfl (by decide +kernel) ⟨Nat.le_of_ble_eq_true rfl, Nat.le_of_ble_eq_true rfl⟩) fbU (fun _ _ _ => trivial) rfl hl.1 rfl (Nat.le_of_ble_eq_true rfl) dX5_wish_238 ⟨Nat.zero_le _, Nat.zero_le _⟩ ?_
              have hf_27 : withN (withN (withN (withN sx (22 + (2 * h)) 2 ((bitsN sx (22 + 2 * h) 2) - 1)) ((26 + (9 * h)) + 0) 3 (bitsN sx (((26 + (9 * h)) + 0) + 3) 3)) ((26 + (9 * h)) + 3) 3 (bitsN sx (((26 + (9 * h)) + 3) + 3) 3)) ((26 + (9 * h)) + 6) 3 0 < 2 ^ 48 := withN_lt (by omega) (by omega) (by omega)
              refine lv_lstore (lv' := [(10, .long (lN (withN (withN (withN (withN sx (22 + (2 * h)) 2 ((bitsN sx (22 + 2 * h) 2) - 1)) ((26 + (9 * h)) + 0) 3 (bitsN sx (((26 + (9 * h)) + 0) + 3) 3)) ((26 + (9 * h)) + 3) 3 (bitsN sx (((26 + (9 * h)) + 3) + 3) 3)) ((26 + (9 * h)) + 6) 3 0))), (12, .int (nI 2)), (9, .int (nI 4)), (8, .int (nI ((g 3) (4 * ((16 + (8 * h)) + (bitsN sx ((26 + (9 * h)) + 0) 3)))))), (7, .int (nI ((16 + (8 * h)) + (bitsN sx ((26 + (9 * h)) + 0) 3)))), (6, .int (nI (sortM g sx h 0))), (5, .int (nI (bitsN sx (22 + 2 * h) 2))), (0, .ref (ad 0)), (1, .long (lN sx)), (3, .int (nI h)), (4, .int (nI 0))]) hx hb dX5_wish_241 hl (by decide) rfl (fun ls hl => ?_)
              refine lv_iinc (v := nI 3) (lv' := [(12, .int (nI 3)), (10, .long (lN (withN (withN (withN (withN sx (22 + (2 * h)) 2 ((bitsN sx (22 + 2 * h) 2) - 1)) ((26 + (9 * h)) + 0) 3 (bitsN sx (((26 + (9 * h)) + 0) + 3) 3)) ((26 + (9 * h)) + 3) 3 (bitsN sx (((26 + (9 * h)) + 3) + 3) 3)) ((26 + (9 * h)) + 6) 3 0))), (9, .int (nI 4)), (8, .int (nI ((g 3) (4 * ((16 + (8 * h)) + (bitsN sx ((26 + (9 * h)) + 0) 3)))))), (7, .int (nI ((16 + (8 * h)) + (bitsN sx ((26 + (9 * h)) + 0) 3)))), (6, .int (nI (sortM g sx h 0))), (5, .int (nI (bitsN sx (22 + 2 * h) 2))), (0, .ref (ad 0)), (1, .long (lN sx)), (3, .int (nI h)), (4, .int (nI 0))]) hx hb dX5_wish_243 hl (k := 1) rfl (by decide) (by decide) rfl (fun ls hl => ?_)
              refine lv_goto (tgt := 188) hx hb dX5_wish_246 (by decide) ?_
              refine lv_iload hx hb dX5_wish_188 (lv_at hl 0 rfl) ?_
              refine lv_iconst (v := nI 3) hx hb dX5_wish_190 (by decide) ?_
              refine lv_icmp_ge (tgt := 249) hx hb dX5_wish_191 (by decide) (fun c191_28 => ?_) (fun c191_28 => absurd (by decide) c191_28)
              refine lv_aload_n hx hb dX5_wish_249 rfl (lv_at hl 7 rfl) ?_
              refine lv_lload hx hb dX5_wish_250 (lv_at hl 1 rfl) ?_
              refine lv_iload_n hx hb dX5_wish_252 rfl (lv_at hl 9 rfl) ?_
              refine lv_iload hx hb dX5_wish_253 (lv_at hl 5 rfl) ?_
              refine lv_iload hx hb dX5_wish_255 (lv_at hl 4 rfl) ?_
              refine cVl (As := [.long (lN (withN (withN (withN (withN sx (22 + (2 * h)) 2 ((bitsN sx (22 + 2 * h) 2) - 1)) ((26 + (9 * h)) + 0) 3 (bitsN sx (((26 + (9 * h)) + 0) + 3) 3)) ((26 + (9 * h)) + 3) 3 (bitsN sx (((26 + (9 * h)) + 3) + 3) 3)) ((26 + (9 * h)) + 6) 3 0)), .int (nI h), .int (nI (sortM g sx h 0)), .int (nI ((16 + (8 * h)) + (bitsN sx ((26 + (9 * h)) + 0) 3)))]) (rest := []) ⟨hx, hb, hml, hown, hts⟩ (c_X5_act l D ad ka f g t (withN (withN (withN (withN sx (22 + (2 * h)) 2 ((bitsN sx (22 + 2 * h) 2) - 1)) ((26 + (9 * h)) + 0) 3 (bitsN sx (((26 + (9 * h)) + 0) + 3) 3)) ((26 + (9 * h)) + 3) 3 (bitsN sx (((26 + (9 * h)) + 3) + 3) 3)) ((26 + (9 * h)) + 6) 3 0) h (sortM g sx h 0) ((16 + (8 * h)) + (bitsN sx ((26 + (9 * h)) + 0) 3)) (hg) (by omega) (by omega) (by omega) (by omega) (hokq)) (cwV 4 hts (gV mU_524 mU_525 mU_526 mU_6 mU_527) rfl rfl rfl (by decide +kernel) ⟨Nat.le_of_ble_eq_true rfl, Nat.le_of_ble_eq_true rfl⟩) fbR (va_recv hK hP (ci := 5) (q0 := 0) rfl rfl) (PR.of hP hK) rfl hl.1 rfl (Nat.le_of_ble_eq_true rfl) dX5_wish_257 ⟨Nat.zero_le _, Nat.zero_le _⟩ ?_
              subst hQ
              exact rtl hx hb hr hlocks rfl (by first | (unfold wishM; unfold wishM0; unfold wishE; unfold needM; unfold shiftM; (try first | rw [if_pos c11_2] | rw [if_neg c11_2]); (try first | rw [if_pos c116_8] | rw [if_neg c116_8]); (try first | rw [if_pos c125_9] | rw [if_neg c125_9]); (try first | rw [if_pos c145_11] | rw [if_neg c145_11]); (try first | rw [if_pos c158_15] | rw [if_neg c158_15]); (try rfl); done) | (exfalso; omega)) dX5_wish_260
            · have c158_15 : ((g 5) ((g 3) (4 * ((16 + (8 * h)) + (bitsN sx ((26 + (9 * h)) + 0) 3))))) &&& 4 = 0 := (nI_eqG (a := ((g 5) ((g 3) (4 * ((16 + (8 * h)) + (bitsN sx ((26 + (9 * h)) + 0) 3))))) &&& 4) (b := 0) (by omega) (by omega)).mp c158_15
              refine lv_lload_n hx hb dX5_wish_161 rfl (lv_at hl 6 rfl) ?_
              refine lv_iload_n hx hb dX5_wish_162 rfl (lv_at hl 7 rfl) ?_
              refine cSl (As := [.long (lN sx), .int (nI h)]) (rest := []) ⟨hx, hb, hml, hown, hts⟩ (c_X5_broken l  sx h (by omega) (by omega)) (va_cwS 2 hts (gS mU_521 mU_522 mU_6 mU_523) rfl rfl rfl (by decide +kernel) ⟨Nat.le_of_ble_eq_true rfl, Nat.le_of_ble_eq_true rfl⟩) fbU (fun _ _ _ => trivial) rfl hl.1 rfl (Nat.le_of_ble_eq_true rfl) dX5_wish_163 ⟨Nat.zero_le _, Nat.zero_le _⟩ ?_
              have hf_29 : brokenM sx h < 2 ^ 48 := withN_lt (withN_lt (withN_lt (by omega) (by omega) (by omega)) (by omega) (by omega)) (by omega) (by omega)
              subst hQ
              exact rtl hx hb hr hlocks rfl (by first | (unfold wishM; unfold wishM0; unfold wishE; unfold needM; (try first | rw [if_pos c11_2] | rw [if_neg c11_2]); (try first | rw [if_pos c116_8] | rw [if_neg c116_8]); (try first | rw [if_pos c125_9] | rw [if_neg c125_9]); (try first | rw [if_pos c145_11] | rw [if_neg c145_11]); (try first | rw [if_pos c158_15] | rw [if_neg c158_15]); (try rfl); done) | (exfalso; omega)) dX5_wish_166
        · have c125_9 : sortM g sx h 0 = 0 := (nI_eqG (a := sortM g sx h 0) (b := 0) (by omega) (by omega)).mp c125_9
          refine lv_iconst (v := nI 2) hx hb dX5_wish_128 (by decide) ?_
          refine lv_goto (tgt := 133) hx hb dX5_wish_129 (by decide) ?_
          refine lv_istore (lv' := [(9, .int (nI 2)), (8, .int (nI ((g 3) (4 * ((16 + (8 * h)) + (bitsN sx ((26 + (9 * h)) + 0) 3)))))), (7, .int (nI ((16 + (8 * h)) + (bitsN sx ((26 + (9 * h)) + 0) 3)))), (6, .int (nI (sortM g sx h 0))), (5, .int (nI (bitsN sx (22 + 2 * h) 2))), (0, .ref (ad 0)), (1, .long (lN sx)), (3, .int (nI h)), (4, .int (nI 0))]) hx hb dX5_wish_133 hl (by decide) rfl (fun ls hl => ?_)
          refine lv_lload_n hx hb dX5_wish_135 rfl (lv_at hl 6 rfl) ?_
          refine lv_bipush (v := nI 46) hx hb dX5_wish_136 (by decide) ?_
          refine lv_iconst (v := nI 2) hx hb dX5_wish_138 (by decide) ?_
          refine cSi (As := [.long (lN sx), .int (nI 46), .int (nI 2)]) (rest := []) ⟨hx, hb, hml, hown, hts⟩ (c_X5_bits l  sx 46 2 (by omega) (by omega) (by omega)) (va_cwS 3 hts (gS mU_503 mU_504 mU_6 mU_505) rfl rfl rfl (by decide +kernel) ⟨Nat.le_of_ble_eq_true rfl, Nat.le_of_ble_eq_true rfl⟩) fbU (fun _ _ _ => trivial) rfl hl.1 rfl (Nat.le_of_ble_eq_true rfl) dX5_wish_139 ⟨Nat.zero_le _, Nat.zero_le _⟩ ?_
          have hf_30 : bitsN sx 46 2 < 2 ^ 2 := bitsN_lt _ _ _
          refine lv_iconst (v := nI 2) hx hb dX5_wish_142 (by decide) ?_
          refine lv_iload_n hx hb dX5_wish_143 rfl (lv_at hl 7 rfl) ?_
          refine lv_isub hx hb dX5_wish_144 ?_
          refine lv_topE (nI (2 - h)) (pk_sub (by omega)) ?_
          refine lv_icmp_eq (tgt := 161) hx hb dX5_wish_145 (by decide) (fun c145_31 => ?_) (fun c145_31 => ?_)
          · have c145_31 : bitsN sx 46 2 = 2 - h := (nI_eqG (a := bitsN sx 46 2) (b := 2 - h) (by omega) (by omega)).mp c145_31
            refine lv_lload_n hx hb dX5_wish_161 rfl (lv_at hl 6 rfl) ?_
            refine lv_iload_n hx hb dX5_wish_162 rfl (lv_at hl 7 rfl) ?_
            refine cSl (As := [.long (lN sx), .int (nI h)]) (rest := []) ⟨hx, hb, hml, hown, hts⟩ (c_X5_broken l  sx h (by omega) (by omega)) (va_cwS 2 hts (gS mU_521 mU_522 mU_6 mU_523) rfl rfl rfl (by decide +kernel) ⟨Nat.le_of_ble_eq_true rfl, Nat.le_of_ble_eq_true rfl⟩) fbU (fun _ _ _ => trivial) rfl hl.1 rfl (Nat.le_of_ble_eq_true rfl) dX5_wish_163 ⟨Nat.zero_le _, Nat.zero_le _⟩ ?_
            have hf_32 : brokenM sx h < 2 ^ 48 := withN_lt (withN_lt (withN_lt (by omega) (by omega) (by omega)) (by omega) (by omega)) (by omega) (by omega)
            subst hQ
            exact rtl hx hb hr hlocks rfl (by first | (unfold wishM; unfold wishM0; unfold wishE; unfold needM; (try first | rw [if_pos c11_2] | rw [if_neg c11_2]); (try first | rw [if_pos c116_8] | rw [if_neg c116_8]); (try first | rw [if_pos c125_9] | rw [if_neg c125_9]); (try first | rw [if_pos c145_31] | rw [if_neg c145_31]); (try rfl); done) | (exfalso; omega)) dX5_wish_166
          · have c145_31 : ¬ (bitsN sx 46 2 = 2 - h) := fun h9 => c145_31 ((nI_eqG (a := bitsN sx 46 2) (b := 2 - h) (by omega) (by omega)).mpr h9)
            refine lv_aload_n hx hb dX5_wish_148 rfl (lv_at hl 5 rfl) ?_
            refine va_get (D := D) (ci := 5) (v := .ref (ad 5)) (C := RX5) (T := TX5) (N := 23) hx hb hU iX5 hown hK hP 0 rfl rfl 4 (by decide) (hU _ mU_79) (fun _ h9 => h9) rfl dX5_wish_149 ?_
            refine lv_iload hx hb dX5_wish_152 (lv_at hl 1 rfl) ?_
            refine n_iald hx hb hK hP 5 4 rfl rfl (i := (g 3) (4 * ((16 + (8 * h)) + (bitsN sx ((26 + (9 * h)) + 0) 3)))) (by omega) (by decide) dX5_wish_154 ?_
            have hb_33 := hg 5 (by decide) ((g 3) (4 * ((16 + (8 * h)) + (bitsN sx ((26 + (9 * h)) + 0) 3))))
            refine lv_iload hx hb dX5_wish_155 (lv_at hl 0 rfl) ?_
            refine lv_iand hx hb dX5_wish_157 ?_
            have hb_34 : ((g 5) ((g 3) (4 * ((16 + (8 * h)) + (bitsN sx ((26 + (9 * h)) + 0) 3))))) &&& 2 ≤ 2 := Nat.and_le_right
            refine lv_topE (nI (((g 5) ((g 3) (4 * ((16 + (8 * h)) + (bitsN sx ((26 + (9 * h)) + 0) 3))))) &&& 2)) (fa_and _ _) ?_
            refine lv_if_ne (tgt := 167) hx hb dX5_wish_158 (by decide) (fun c158_35 => ?_) (fun c158_35 => ?_)
            · have c158_35 : ¬ (((g 5) ((g 3) (4 * ((16 + (8 * h)) + (bitsN sx ((26 + (9 * h)) + 0) 3))))) &&& 2 = 0) := fun h9 => c158_35 ((nI_eqG (a := ((g 5) ((g 3) (4 * ((16 + (8 * h)) + (bitsN sx ((26 + (9 * h)) + 0) 3))))) &&& 2) (b := 0) (by omega) (by omega)).mpr h9)
              refine lv_lload_n hx hb dX5_wish_167 rfl (lv_at hl 6 rfl) ?_
              refine lv_bipush (v := nI 22) hx hb dX5_wish_168 (by decide) ?_
              refine lv_iconst (v := nI 2) hx hb dX5_wish_170 (by decide) ?_
              refine lv_iload_n hx hb dX5_wish_171 rfl (lv_at hl 7 rfl) ?_
              refine lv_imul hx hb dX5_wish_172 ?_
              refine lv_topE (nI (2 * h)) (pk_mul _ _) ?_
              refine lv_iadd hx hb dX5_wish_173 ?_
              refine lv_topE (nI (22 + (2 * h))) (nI_add _ _) ?_
              refine lv_iconst (v := nI 2) hx hb dX5_wish_174 (by decide) ?_
              refine lv_iload hx hb dX5_wish_175 (lv_at hl 4 rfl) ?_
              refine lv_iconst (v := nI 1) hx hb dX5_wish_177 (by decide) ?_
              refine lv_isub hx hb dX5_wish_178 ?_
              refine lv_topE (nI ((bitsN sx (22 + 2 * h) 2) - 1)) (pk_sub (by omega)) ?_
              refine cSl (As := [.long (lN sx), .int (nI (22 + (2 * h))), .int (nI 2), .int (nI ((bitsN sx (22 + 2 * h) 2) - 1))]) (rest := []) ⟨hx, hb, hml, hown, hts⟩ (c_X5_with l  sx (22 + (2 * h)) 2 ((bitsN sx (22 + 2 * h) 2) - 1) (by omega) (by omega) (by omega) (by omega)) (va_cwS 4 hts (gS mU_480 mU_481 mU_6 mU_482) rfl rfl rfl (by decide +kernel) ⟨Nat.le_of_ble_eq_true rfl, Nat.le_of_ble_eq_true rfl⟩) fbU (fun _ _ _ => trivial) rfl hl.1 rfl (Nat.le_of_ble_eq_true rfl) dX5_wish_179 ⟨Nat.zero_le _, Nat.zero_le _⟩ ?_
              have hf_36 : withN sx (22 + (2 * h)) 2 ((bitsN sx (22 + 2 * h) 2) - 1) < 2 ^ 48 := withN_lt (by omega) (by omega) (by omega)
              refine lv_lstore (lv' := [(10, .long (lN (withN sx (22 + (2 * h)) 2 ((bitsN sx (22 + 2 * h) 2) - 1)))), (9, .int (nI 2)), (8, .int (nI ((g 3) (4 * ((16 + (8 * h)) + (bitsN sx ((26 + (9 * h)) + 0) 3)))))), (7, .int (nI ((16 + (8 * h)) + (bitsN sx ((26 + (9 * h)) + 0) 3)))), (6, .int (nI (sortM g sx h 0))), (5, .int (nI (bitsN sx (22 + 2 * h) 2))), (0, .ref (ad 0)), (1, .long (lN sx)), (3, .int (nI h)), (4, .int (nI 0))]) hx hb dX5_wish_182 hl (by decide) rfl (fun ls hl => ?_)
              refine lv_iload hx hb dX5_wish_184 (lv_at hl 9 rfl) ?_
              refine lv_istore (lv' := [(12, .int (nI 0)), (10, .long (lN (withN sx (22 + (2 * h)) 2 ((bitsN sx (22 + 2 * h) 2) - 1)))), (9, .int (nI 2)), (8, .int (nI ((g 3) (4 * ((16 + (8 * h)) + (bitsN sx ((26 + (9 * h)) + 0) 3)))))), (7, .int (nI ((16 + (8 * h)) + (bitsN sx ((26 + (9 * h)) + 0) 3)))), (6, .int (nI (sortM g sx h 0))), (5, .int (nI (bitsN sx (22 + 2 * h) 2))), (0, .ref (ad 0)), (1, .long (lN sx)), (3, .int (nI h)), (4, .int (nI 0))]) hx hb dX5_wish_186 hl (by decide) rfl (fun ls hl => ?_)
              refine lv_iload hx hb dX5_wish_188 (lv_at hl 0 rfl) ?_
              refine lv_iconst (v := nI 3) hx hb dX5_wish_190 (by decide) ?_
              refine lv_icmp_ge (tgt := 249) hx hb dX5_wish_191 (by decide) (fun c191_37 => absurd c191_37 (by decide)) (fun c191_37 => ?_)
              refine lv_lload hx hb dX5_wish_194 (lv_at hl 1 rfl) ?_
              refine lv_bipush (v := nI 26) hx hb dX5_wish_196 (by decide) ?_
              refine lv_bipush (v := nI 9) hx hb dX5_wish_198 (by decide) ?_
              refine lv_iload_n hx hb dX5_wish_200 rfl (lv_at hl 9 rfl) ?_
              refine lv_imul hx hb dX5_wish_201 ?_
              refine lv_topE (nI (9 * h)) (pk_mul _ _) ?_
              refine lv_iadd hx hb dX5_wish_202 ?_
              refine lv_topE (nI (26 + (9 * h))) (nI_add _ _) ?_
              refine lv_iconst (v := nI 3) hx hb dX5_wish_203 (by decide) ?_
              refine lv_iload hx hb dX5_wish_204 (lv_at hl 0 rfl) ?_
              refine lv_imul hx hb dX5_wish_206 ?_
              refine lv_topE (nI 0) (pk_mul _ _) ?_
              refine lv_iadd hx hb dX5_wish_207 ?_
              refine lv_topE (nI ((26 + (9 * h)) + 0)) (nI_add _ _) ?_
              refine lv_iconst (v := nI 3) hx hb dX5_wish_208 (by decide) ?_
              refine lv_iload hx hb dX5_wish_209 (lv_at hl 0 rfl) ?_
              refine lv_iconst (v := nI 2) hx hb dX5_wish_211 (by decide) ?_
              refine lv_icmp_ge (tgt := 237) hx hb dX5_wish_212 (by decide) (fun c212_38 => absurd c212_38 (by decide)) (fun c212_38 => ?_)
              refine lv_lload_n hx hb dX5_wish_215 rfl (lv_at hl 8 rfl) ?_
              refine lv_bipush (v := nI 26) hx hb dX5_wish_216 (by decide) ?_
              refine lv_bipush (v := nI 9) hx hb dX5_wish_218 (by decide) ?_
              refine lv_iload_n hx hb dX5_wish_220 rfl (lv_at hl 9 rfl) ?_
              refine lv_imul hx hb dX5_wish_221 ?_
              refine lv_topE (nI (9 * h)) (pk_mul _ _) ?_
              refine lv_iadd hx hb dX5_wish_222 ?_
              refine lv_topE (nI (26 + (9 * h))) (nI_add _ _) ?_
              refine lv_iconst (v := nI 3) hx hb dX5_wish_223 (by decide) ?_
              refine lv_iload hx hb dX5_wish_224 (lv_at hl 0 rfl) ?_
              refine lv_imul hx hb dX5_wish_226 ?_
              refine lv_topE (nI 0) (pk_mul _ _) ?_
              refine lv_iadd hx hb dX5_wish_227 ?_
              refine lv_topE (nI ((26 + (9 * h)) + 0)) (nI_add _ _) ?_
              refine lv_iconst (v := nI 3) hx hb dX5_wish_228 (by decide) ?_
              refine lv_iadd hx hb dX5_wish_229 ?_
              refine lv_topE (nI (((26 + (9 * h)) + 0) + 3)) (nI_add _ _) ?_
              refine lv_iconst (v := nI 3) hx hb dX5_wish_230 (by decide) ?_
              refine cSi (As := [.long (lN sx), .int (nI (((26 + (9 * h)) + 0) + 3)), .int (nI 3)]) (rest := [.int (nI 3), .int (nI ((26 + (9 * h)) + 0)), .long (lN (withN sx (22 + (2 * h)) 2 ((bitsN sx (22 + 2 * h) 2) - 1)))]) ⟨hx, hb, hml, hown, hts⟩ (c_X5_bits l  sx (((26 + (9 * h)) + 0) + 3) 3 (by omega) (by omega) (by omega)) (va_cwS 3 hts (gS mU_503 mU_504 mU_6 mU_505) rfl rfl rfl (by decide +kernel) ⟨Nat.le_of_ble_eq_true rfl, Nat.le_of_ble_eq_true rfl⟩) fbU (fun _ _ _ => trivial) rfl hl.1 rfl (Nat.le_of_ble_eq_true rfl) dX5_wish_231 ⟨Nat.zero_le _, Nat.zero_le _⟩ ?_
              have hf_39 : bitsN sx (((26 + (9 * h)) + 0) + 3) 3 < 2 ^ 3 := bitsN_lt _ _ _
              refine lv_goto (tgt := 238) hx hb dX5_wish_234 (by decide) ?_
              refine cSl (As := [.long (lN (withN sx (22 + (2 * h)) 2 ((bitsN sx (22 + 2 * h) 2) - 1))), .int (nI ((26 + (9 * h)) + 0)), .int (nI 3), .int (nI (bitsN sx (((26 + (9 * h)) + 0) + 3) 3))]) (rest := []) ⟨hx, hb, hml, hown, hts⟩ (c_X5_with l  (withN sx (22 + (2 * h)) 2 ((bitsN sx (22 + 2 * h) 2) - 1)) ((26 + (9 * h)) + 0) 3 (bitsN sx (((26 + (9 * h)) + 0) + 3) 3) (by omega) (by omega) (by omega) (by omega)) (va_cwS 4 hts (gS mU_480 mU_481 mU_6 mU_482) rfl rfl rfl (by decide +kernel) ⟨Nat.le_of_ble_eq_true rfl, Nat.le_of_ble_eq_true rfl⟩) fbU (fun _ _ _ => trivial) rfl hl.1 rfl (Nat.le_of_ble_eq_true rfl) dX5_wish_238 ⟨Nat.zero_le _, Nat.zero_le _⟩ ?_
              have hf_40 : withN (withN sx (22 + (2 * h)) 2 ((bitsN sx (22 + 2 * h) 2) - 1)) ((26 + (9 * h)) + 0) 3 (bitsN sx (((26 + (9 * h)) + 0) + 3) 3) < 2 ^ 48 := withN_lt (by omega) (by omega) (by omega)
              refine lv_lstore (lv' := [(10, .long (lN (withN (withN sx (22 + (2 * h)) 2 ((bitsN sx (22 + 2 * h) 2) - 1)) ((26 + (9 * h)) + 0) 3 (bitsN sx (((26 + (9 * h)) + 0) + 3) 3)))), (12, .int (nI 0)), (9, .int (nI 2)), (8, .int (nI ((g 3) (4 * ((16 + (8 * h)) + (bitsN sx ((26 + (9 * h)) + 0) 3)))))), (7, .int (nI ((16 + (8 * h)) + (bitsN sx ((26 + (9 * h)) + 0) 3)))), (6, .int (nI (sortM g sx h 0))), (5, .int (nI (bitsN sx (22 + 2 * h) 2))), (0, .ref (ad 0)), (1, .long (lN sx)), (3, .int (nI h)), (4, .int (nI 0))]) hx hb dX5_wish_241 hl (by decide) rfl (fun ls hl => ?_)
              refine lv_iinc (v := nI 1) (lv' := [(12, .int (nI 1)), (10, .long (lN (withN (withN sx (22 + (2 * h)) 2 ((bitsN sx (22 + 2 * h) 2) - 1)) ((26 + (9 * h)) + 0) 3 (bitsN sx (((26 + (9 * h)) + 0) + 3) 3)))), (9, .int (nI 2)), (8, .int (nI ((g 3) (4 * ((16 + (8 * h)) + (bitsN sx ((26 + (9 * h)) + 0) 3)))))), (7, .int (nI ((16 + (8 * h)) + (bitsN sx ((26 + (9 * h)) + 0) 3)))), (6, .int (nI (sortM g sx h 0))), (5, .int (nI (bitsN sx (22 + 2 * h) 2))), (0, .ref (ad 0)), (1, .long (lN sx)), (3, .int (nI h)), (4, .int (nI 0))]) hx hb dX5_wish_243 hl (k := 1) rfl (by decide) (by decide) rfl (fun ls hl => ?_)
              refine lv_goto (tgt := 188) hx hb dX5_wish_246 (by decide) ?_
              refine lv_iload hx hb dX5_wish_188 (lv_at hl 0 rfl) ?_
              refine lv_iconst (v := nI 3) hx hb dX5_wish_190 (by decide) ?_
              refine lv_icmp_ge (tgt := 249) hx hb dX5_wish_191 (by decide) (fun c191_41 => absurd c191_41 (by decide)) (fun c191_41 => ?_)
              refine lv_lload hx hb dX5_wish_194 (lv_at hl 1 rfl) ?_
              refine lv_bipush (v := nI 26) hx hb dX5_wish_196 (by decide) ?_
              refine lv_bipush (v := nI 9) hx hb dX5_wish_198 (by decide) ?_
              refine lv_iload_n hx hb dX5_wish_200 rfl (lv_at hl 9 rfl) ?_
              refine lv_imul hx hb dX5_wish_201 ?_
              refine lv_topE (nI (9 * h)) (pk_mul _ _) ?_
              refine lv_iadd hx hb dX5_wish_202 ?_
              refine lv_topE (nI (26 + (9 * h))) (nI_add _ _) ?_
              refine lv_iconst (v := nI 3) hx hb dX5_wish_203 (by decide) ?_
              refine lv_iload hx hb dX5_wish_204 (lv_at hl 0 rfl) ?_
              refine lv_imul hx hb dX5_wish_206 ?_
              refine lv_topE (nI 3) (pk_mul _ _) ?_
              refine lv_iadd hx hb dX5_wish_207 ?_
              refine lv_topE (nI ((26 + (9 * h)) + 3)) (nI_add _ _) ?_
              refine lv_iconst (v := nI 3) hx hb dX5_wish_208 (by decide) ?_
              refine lv_iload hx hb dX5_wish_209 (lv_at hl 0 rfl) ?_
              refine lv_iconst (v := nI 2) hx hb dX5_wish_211 (by decide) ?_
              refine lv_icmp_ge (tgt := 237) hx hb dX5_wish_212 (by decide) (fun c212_42 => absurd c212_42 (by decide)) (fun c212_42 => ?_)
              refine lv_lload_n hx hb dX5_wish_215 rfl (lv_at hl 8 rfl) ?_
              refine lv_bipush (v := nI 26) hx hb dX5_wish_216 (by decide) ?_
              refine lv_bipush (v := nI 9) hx hb dX5_wish_218 (by decide) ?_
              refine lv_iload_n hx hb dX5_wish_220 rfl (lv_at hl 9 rfl) ?_
              refine lv_imul hx hb dX5_wish_221 ?_
              refine lv_topE (nI (9 * h)) (pk_mul _ _) ?_
              refine lv_iadd hx hb dX5_wish_222 ?_
              refine lv_topE (nI (26 + (9 * h))) (nI_add _ _) ?_
              refine lv_iconst (v := nI 3) hx hb dX5_wish_223 (by decide) ?_
              refine lv_iload hx hb dX5_wish_224 (lv_at hl 0 rfl) ?_
              refine lv_imul hx hb dX5_wish_226 ?_
              refine lv_topE (nI 3) (pk_mul _ _) ?_
              refine lv_iadd hx hb dX5_wish_227 ?_
              refine lv_topE (nI ((26 + (9 * h)) + 3)) (nI_add _ _) ?_
              refine lv_iconst (v := nI 3) hx hb dX5_wish_228 (by decide) ?_
              refine lv_iadd hx hb dX5_wish_229 ?_
              refine lv_topE (nI (((26 + (9 * h)) + 3) + 3)) (nI_add _ _) ?_
              refine lv_iconst (v := nI 3) hx hb dX5_wish_230 (by decide) ?_
              refine cSi (As := [.long (lN sx), .int (nI (((26 + (9 * h)) + 3) + 3)), .int (nI 3)]) (rest := [.int (nI 3), .int (nI ((26 + (9 * h)) + 3)), .long (lN (withN (withN sx (22 + (2 * h)) 2 ((bitsN sx (22 + 2 * h) 2) - 1)) ((26 + (9 * h)) + 0) 3 (bitsN sx (((26 + (9 * h)) + 0) + 3) 3)))]) ⟨hx, hb, hml, hown, hts⟩ (c_X5_bits l  sx (((26 + (9 * h)) + 3) + 3) 3 (by omega) (by omega) (by omega)) (va_cwS 3 hts (gS mU_503 mU_504 mU_6 mU_505) rfl rfl rfl (by decide +kernel) ⟨Nat.le_of_ble_eq_true rfl, Nat.le_of_ble_eq_true rfl⟩) fbU (fun _ _ _ => trivial) rfl hl.1 rfl (Nat.le_of_ble_eq_true rfl) dX5_wish_231 ⟨Nat.zero_le _, Nat.zero_le _⟩ ?_
              have hf_43 : bitsN sx (((26 + (9 * h)) + 3) + 3) 3 < 2 ^ 3 := bitsN_lt _ _ _
              refine lv_goto (tgt := 238) hx hb dX5_wish_234 (by decide) ?_
              refine cSl (As := [.long (lN (withN (withN sx (22 + (2 * h)) 2 ((bitsN sx (22 + 2 * h) 2) - 1)) ((26 + (9 * h)) + 0) 3 (bitsN sx (((26 + (9 * h)) + 0) + 3) 3))), .int (nI ((26 + (9 * h)) + 3)), .int (nI 3), .int (nI (bitsN sx (((26 + (9 * h)) + 3) + 3) 3))]) (rest := []) ⟨hx, hb, hml, hown, hts⟩ (c_X5_with l  (withN (withN sx (22 + (2 * h)) 2 ((bitsN sx (22 + 2 * h) 2) - 1)) ((26 + (9 * h)) + 0) 3 (bitsN sx (((26 + (9 * h)) + 0) + 3) 3)) ((26 + (9 * h)) + 3) 3 (bitsN sx (((26 + (9 * h)) + 3) + 3) 3) (by omega) (by omega) (by omega) (by omega)) (va_cwS 4 hts (gS mU_480 mU_481 mU_6 mU_482) rfl rfl rfl (by decide +kernel) ⟨Nat.le_of_ble_eq_true rfl, Nat.le_of_ble_eq_true rfl⟩) fbU (fun _ _ _ => trivial) rfl hl.1 rfl (Nat.le_of_ble_eq_true rfl) dX5_wish_238 ⟨Nat.zero_le _, Nat.zero_le _⟩ ?_
              have hf_44 : withN (withN (withN sx (22 + (2 * h)) 2 ((bitsN sx (22 + 2 * h) 2) - 1)) ((26 + (9 * h)) + 0) 3 (bitsN sx (((26 + (9 * h)) + 0) + 3) 3)) ((26 + (9 * h)) + 3) 3 (bitsN sx (((26 + (9 * h)) + 3) + 3) 3) < 2 ^ 48 := withN_lt (by omega) (by omega) (by omega)
              refine lv_lstore (lv' := [(10, .long (lN (withN (withN (withN sx (22 + (2 * h)) 2 ((bitsN sx (22 + 2 * h) 2) - 1)) ((26 + (9 * h)) + 0) 3 (bitsN sx (((26 + (9 * h)) + 0) + 3) 3)) ((26 + (9 * h)) + 3) 3 (bitsN sx (((26 + (9 * h)) + 3) + 3) 3)))), (12, .int (nI 1)), (9, .int (nI 2)), (8, .int (nI ((g 3) (4 * ((16 + (8 * h)) + (bitsN sx ((26 + (9 * h)) + 0) 3)))))), (7, .int (nI ((16 + (8 * h)) + (bitsN sx ((26 + (9 * h)) + 0) 3)))), (6, .int (nI (sortM g sx h 0))), (5, .int (nI (bitsN sx (22 + 2 * h) 2))), (0, .ref (ad 0)), (1, .long (lN sx)), (3, .int (nI h)), (4, .int (nI 0))]) hx hb dX5_wish_241 hl (by decide) rfl (fun ls hl => ?_)
              refine lv_iinc (v := nI 2) (lv' := [(12, .int (nI 2)), (10, .long (lN (withN (withN (withN sx (22 + (2 * h)) 2 ((bitsN sx (22 + 2 * h) 2) - 1)) ((26 + (9 * h)) + 0) 3 (bitsN sx (((26 + (9 * h)) + 0) + 3) 3)) ((26 + (9 * h)) + 3) 3 (bitsN sx (((26 + (9 * h)) + 3) + 3) 3)))), (9, .int (nI 2)), (8, .int (nI ((g 3) (4 * ((16 + (8 * h)) + (bitsN sx ((26 + (9 * h)) + 0) 3)))))), (7, .int (nI ((16 + (8 * h)) + (bitsN sx ((26 + (9 * h)) + 0) 3)))), (6, .int (nI (sortM g sx h 0))), (5, .int (nI (bitsN sx (22 + 2 * h) 2))), (0, .ref (ad 0)), (1, .long (lN sx)), (3, .int (nI h)), (4, .int (nI 0))]) hx hb dX5_wish_243 hl (k := 1) rfl (by decide) (by decide) rfl (fun ls hl => ?_)
              refine lv_goto (tgt := 188) hx hb dX5_wish_246 (by decide) ?_
              refine lv_iload hx hb dX5_wish_188 (lv_at hl 0 rfl) ?_
              refine lv_iconst (v := nI 3) hx hb dX5_wish_190 (by decide) ?_
              refine lv_icmp_ge (tgt := 249) hx hb dX5_wish_191 (by decide) (fun c191_45 => absurd c191_45 (by decide)) (fun c191_45 => ?_)
              refine lv_lload hx hb dX5_wish_194 (lv_at hl 1 rfl) ?_
              refine lv_bipush (v := nI 26) hx hb dX5_wish_196 (by decide) ?_
              refine lv_bipush (v := nI 9) hx hb dX5_wish_198 (by decide) ?_
              refine lv_iload_n hx hb dX5_wish_200 rfl (lv_at hl 9 rfl) ?_
              refine lv_imul hx hb dX5_wish_201 ?_
              refine lv_topE (nI (9 * h)) (pk_mul _ _) ?_
              refine lv_iadd hx hb dX5_wish_202 ?_
              refine lv_topE (nI (26 + (9 * h))) (nI_add _ _) ?_
              refine lv_iconst (v := nI 3) hx hb dX5_wish_203 (by decide) ?_
              refine lv_iload hx hb dX5_wish_204 (lv_at hl 0 rfl) ?_
              refine lv_imul hx hb dX5_wish_206 ?_
              refine lv_topE (nI 6) (pk_mul _ _) ?_
              refine lv_iadd hx hb dX5_wish_207 ?_
              refine lv_topE (nI ((26 + (9 * h)) + 6)) (nI_add _ _) ?_
              refine lv_iconst (v := nI 3) hx hb dX5_wish_208 (by decide) ?_
              refine lv_iload hx hb dX5_wish_209 (lv_at hl 0 rfl) ?_
              refine lv_iconst (v := nI 2) hx hb dX5_wish_211 (by decide) ?_
              refine lv_icmp_ge (tgt := 237) hx hb dX5_wish_212 (by decide) (fun c212_46 => ?_) (fun c212_46 => absurd (by decide) c212_46)
              refine lv_iconst (v := nI 0) hx hb dX5_wish_237 (by decide) ?_
              refine cSl (As := [.long (lN (withN (withN (withN sx (22 + (2 * h)) 2 ((bitsN sx (22 + 2 * h) 2) - 1)) ((26 + (9 * h)) + 0) 3 (bitsN sx (((26 + (9 * h)) + 0) + 3) 3)) ((26 + (9 * h)) + 3) 3 (bitsN sx (((26 + (9 * h)) + 3) + 3) 3))), .int (nI ((26 + (9 * h)) + 6)), .int (nI 3), .int (nI 0)]) (rest := []) ⟨hx, hb, hml, hown, hts⟩ (c_X5_with l  (withN (withN (withN sx (22 + (2 * h)) 2 ((bitsN sx (22 + 2 * h) 2) - 1)) ((26 + (9 * h)) + 0) 3 (bitsN sx (((26 + (9 * h)) + 0) + 3) 3)) ((26 + (9 * h)) + 3) 3 (bitsN sx (((26 + (9 * h)) + 3) + 3) 3)) ((26 + (9 * h)) + 6) 3 0 (by omega) (by omega) (by omega) (by omega)) (va_cwS 4 hts (gS mU_480 mU_481 mU_6 mU_482) rfl rfl rfl (by decide +kernel) ⟨Nat.le_of_ble_eq_true rfl, Nat.le_of_ble_eq_true rfl⟩) fbU (fun _ _ _ => trivial) rfl hl.1 rfl (Nat.le_of_ble_eq_true rfl) dX5_wish_238 ⟨Nat.zero_le _, Nat.zero_le _⟩ ?_
              have hf_47 : withN (withN (withN (withN sx (22 + (2 * h)) 2 ((bitsN sx (22 + 2 * h) 2) - 1)) ((26 + (9 * h)) + 0) 3 (bitsN sx (((26 + (9 * h)) + 0) + 3) 3)) ((26 + (9 * h)) + 3) 3 (bitsN sx (((26 + (9 * h)) + 3) + 3) 3)) ((26 + (9 * h)) + 6) 3 0 < 2 ^ 48 := withN_lt (by omega) (by omega) (by omega)
              refine lv_lstore (lv' := [(10, .long (lN (withN (withN (withN (withN sx (22 + (2 * h)) 2 ((bitsN sx (22 + 2 * h) 2) - 1)) ((26 + (9 * h)) + 0) 3 (bitsN sx (((26 + (9 * h)) + 0) + 3) 3)) ((26 + (9 * h)) + 3) 3 (bitsN sx (((26 + (9 * h)) + 3) + 3) 3)) ((26 + (9 * h)) + 6) 3 0))), (12, .int (nI 2)), (9, .int (nI 2)), (8, .int (nI ((g 3) (4 * ((16 + (8 * h)) + (bitsN sx ((26 + (9 * h)) + 0) 3)))))), (7, .int (nI ((16 + (8 * h)) + (bitsN sx ((26 + (9 * h)) + 0) 3)))), (6, .int (nI (sortM g sx h 0))), (5, .int (nI (bitsN sx (22 + 2 * h) 2))), (0, .ref (ad 0)), (1, .long (lN sx)), (3, .int (nI h)), (4, .int (nI 0))]) hx hb dX5_wish_241 hl (by decide) rfl (fun ls hl => ?_)
              refine lv_iinc (v := nI 3) (lv' := [(12, .int (nI 3)), (10, .long (lN (withN (withN (withN (withN sx (22 + (2 * h)) 2 ((bitsN sx (22 + 2 * h) 2) - 1)) ((26 + (9 * h)) + 0) 3 (bitsN sx (((26 + (9 * h)) + 0) + 3) 3)) ((26 + (9 * h)) + 3) 3 (bitsN sx (((26 + (9 * h)) + 3) + 3) 3)) ((26 + (9 * h)) + 6) 3 0))), (9, .int (nI 2)), (8, .int (nI ((g 3) (4 * ((16 + (8 * h)) + (bitsN sx ((26 + (9 * h)) + 0) 3)))))), (7, .int (nI ((16 + (8 * h)) + (bitsN sx ((26 + (9 * h)) + 0) 3)))), (6, .int (nI (sortM g sx h 0))), (5, .int (nI (bitsN sx (22 + 2 * h) 2))), (0, .ref (ad 0)), (1, .long (lN sx)), (3, .int (nI h)), (4, .int (nI 0))]) hx hb dX5_wish_243 hl (k := 1) rfl (by decide) (by decide) rfl (fun ls hl => ?_)
              refine lv_goto (tgt := 188) hx hb dX5_wish_246 (by decide) ?_
              refine lv_iload hx hb dX5_wish_188 (lv_at hl 0 rfl) ?_
              refine lv_iconst (v := nI 3) hx hb dX5_wish_190 (by decide) ?_
              refine lv_icmp_ge (tgt := 249) hx hb dX5_wish_191 (by decide) (fun c191_48 => ?_) (fun c191_48 => absurd (by decide) c191_48)
              refine lv_aload_n hx hb dX5_wish_249 rfl (lv_at hl 7 rfl) ?_
              refine lv_lload hx hb dX5_wish_250 (lv_at hl 1 rfl) ?_
              refine lv_iload_n hx hb dX5_wish_252 rfl (lv_at hl 9 rfl) ?_
              refine lv_iload hx hb dX5_wish_253 (lv_at hl 5 rfl) ?_
              refine lv_iload hx hb dX5_wish_255 (lv_at hl 4 rfl) ?_
              refine cVl (As := [.long (lN (withN (withN (withN (withN sx (22 + (2 * h)) 2 ((bitsN sx (22 + 2 * h) 2) - 1)) ((26 + (9 * h)) + 0) 3 (bitsN sx (((26 + (9 * h)) + 0) + 3) 3)) ((26 + (9 * h)) + 3) 3 (bitsN sx (((26 + (9 * h)) + 3) + 3) 3)) ((26 + (9 * h)) + 6) 3 0)), .int (nI h), .int (nI (sortM g sx h 0)), .int (nI ((16 + (8 * h)) + (bitsN sx ((26 + (9 * h)) + 0) 3)))]) (rest := []) ⟨hx, hb, hml, hown, hts⟩ (c_X5_act l D ad ka f g t (withN (withN (withN (withN sx (22 + (2 * h)) 2 ((bitsN sx (22 + 2 * h) 2) - 1)) ((26 + (9 * h)) + 0) 3 (bitsN sx (((26 + (9 * h)) + 0) + 3) 3)) ((26 + (9 * h)) + 3) 3 (bitsN sx (((26 + (9 * h)) + 3) + 3) 3)) ((26 + (9 * h)) + 6) 3 0) h (sortM g sx h 0) ((16 + (8 * h)) + (bitsN sx ((26 + (9 * h)) + 0) 3)) (hg) (by omega) (by omega) (by omega) (by omega) (hokq)) (cwV 4 hts (gV mU_524 mU_525 mU_526 mU_6 mU_527) rfl rfl rfl (by decide +kernel) ⟨Nat.le_of_ble_eq_true rfl, Nat.le_of_ble_eq_true rfl⟩) fbR (va_recv hK hP (ci := 5) (q0 := 0) rfl rfl) (PR.of hP hK) rfl hl.1 rfl (Nat.le_of_ble_eq_true rfl) dX5_wish_257 ⟨Nat.zero_le _, Nat.zero_le _⟩ ?_
              subst hQ
              exact rtl hx hb hr hlocks rfl (by first | (unfold wishM; unfold wishM0; unfold wishE; unfold needM; unfold shiftM; (try first | rw [if_pos c11_2] | rw [if_neg c11_2]); (try first | rw [if_pos c116_8] | rw [if_neg c116_8]); (try first | rw [if_pos c125_9] | rw [if_neg c125_9]); (try first | rw [if_pos c145_31] | rw [if_neg c145_31]); (try first | rw [if_pos c158_35] | rw [if_neg c158_35]); (try rfl); done) | (exfalso; omega)) dX5_wish_260
            · have c158_35 : ((g 5) ((g 3) (4 * ((16 + (8 * h)) + (bitsN sx ((26 + (9 * h)) + 0) 3))))) &&& 2 = 0 := (nI_eqG (a := ((g 5) ((g 3) (4 * ((16 + (8 * h)) + (bitsN sx ((26 + (9 * h)) + 0) 3))))) &&& 2) (b := 0) (by omega) (by omega)).mp c158_35
              refine lv_lload_n hx hb dX5_wish_161 rfl (lv_at hl 6 rfl) ?_
              refine lv_iload_n hx hb dX5_wish_162 rfl (lv_at hl 7 rfl) ?_
              refine cSl (As := [.long (lN sx), .int (nI h)]) (rest := []) ⟨hx, hb, hml, hown, hts⟩ (c_X5_broken l  sx h (by omega) (by omega)) (va_cwS 2 hts (gS mU_521 mU_522 mU_6 mU_523) rfl rfl rfl (by decide +kernel) ⟨Nat.le_of_ble_eq_true rfl, Nat.le_of_ble_eq_true rfl⟩) fbU (fun _ _ _ => trivial) rfl hl.1 rfl (Nat.le_of_ble_eq_true rfl) dX5_wish_163 ⟨Nat.zero_le _, Nat.zero_le _⟩ ?_
              have hf_49 : brokenM sx h < 2 ^ 48 := withN_lt (withN_lt (withN_lt (by omega) (by omega) (by omega)) (by omega) (by omega)) (by omega) (by omega)
              subst hQ
              exact rtl hx hb hr hlocks rfl (by first | (unfold wishM; unfold wishM0; unfold wishE; unfold needM; (try first | rw [if_pos c11_2] | rw [if_neg c11_2]); (try first | rw [if_pos c116_8] | rw [if_neg c116_8]); (try first | rw [if_pos c125_9] | rw [if_neg c125_9]); (try first | rw [if_pos c145_31] | rw [if_neg c145_31]); (try first | rw [if_pos c158_35] | rw [if_neg c158_35]); (try rfl); done) | (exfalso; omega)) dX5_wish_166
      · have c116_8 : sortM g sx h 0 = 1 := (nI_eqG (a := sortM g sx h 0) (b := 1) (by omega) (by omega)).mp c116_8
        refine lv_iconst (v := nI 1) hx hb dX5_wish_119 (by decide) ?_
        refine lv_goto (tgt := 133) hx hb dX5_wish_120 (by decide) ?_
        refine lv_istore (lv' := [(9, .int (nI 1)), (8, .int (nI ((g 3) (4 * ((16 + (8 * h)) + (bitsN sx ((26 + (9 * h)) + 0) 3)))))), (7, .int (nI ((16 + (8 * h)) + (bitsN sx ((26 + (9 * h)) + 0) 3)))), (6, .int (nI (sortM g sx h 0))), (5, .int (nI (bitsN sx (22 + 2 * h) 2))), (0, .ref (ad 0)), (1, .long (lN sx)), (3, .int (nI h)), (4, .int (nI 0))]) hx hb dX5_wish_133 hl (by decide) rfl (fun ls hl => ?_)
        refine lv_lload_n hx hb dX5_wish_135 rfl (lv_at hl 6 rfl) ?_
        refine lv_bipush (v := nI 46) hx hb dX5_wish_136 (by decide) ?_
        refine lv_iconst (v := nI 2) hx hb dX5_wish_138 (by decide) ?_
        refine cSi (As := [.long (lN sx), .int (nI 46), .int (nI 2)]) (rest := []) ⟨hx, hb, hml, hown, hts⟩ (c_X5_bits l  sx 46 2 (by omega) (by omega) (by omega)) (va_cwS 3 hts (gS mU_503 mU_504 mU_6 mU_505) rfl rfl rfl (by decide +kernel) ⟨Nat.le_of_ble_eq_true rfl, Nat.le_of_ble_eq_true rfl⟩) fbU (fun _ _ _ => trivial) rfl hl.1 rfl (Nat.le_of_ble_eq_true rfl) dX5_wish_139 ⟨Nat.zero_le _, Nat.zero_le _⟩ ?_
        have hf_50 : bitsN sx 46 2 < 2 ^ 2 := bitsN_lt _ _ _
        refine lv_iconst (v := nI 2) hx hb dX5_wish_142 (by decide) ?_
        refine lv_iload_n hx hb dX5_wish_143 rfl (lv_at hl 7 rfl) ?_
        refine lv_isub hx hb dX5_wish_144 ?_
        refine lv_topE (nI (2 - h)) (pk_sub (by omega)) ?_
        refine lv_icmp_eq (tgt := 161) hx hb dX5_wish_145 (by decide) (fun c145_51 => ?_) (fun c145_51 => ?_)
        · have c145_51 : bitsN sx 46 2 = 2 - h := (nI_eqG (a := bitsN sx 46 2) (b := 2 - h) (by omega) (by omega)).mp c145_51
          refine lv_lload_n hx hb dX5_wish_161 rfl (lv_at hl 6 rfl) ?_
          refine lv_iload_n hx hb dX5_wish_162 rfl (lv_at hl 7 rfl) ?_
          refine cSl (As := [.long (lN sx), .int (nI h)]) (rest := []) ⟨hx, hb, hml, hown, hts⟩ (c_X5_broken l  sx h (by omega) (by omega)) (va_cwS 2 hts (gS mU_521 mU_522 mU_6 mU_523) rfl rfl rfl (by decide +kernel) ⟨Nat.le_of_ble_eq_true rfl, Nat.le_of_ble_eq_true rfl⟩) fbU (fun _ _ _ => trivial) rfl hl.1 rfl (Nat.le_of_ble_eq_true rfl) dX5_wish_163 ⟨Nat.zero_le _, Nat.zero_le _⟩ ?_
          have hf_52 : brokenM sx h < 2 ^ 48 := withN_lt (withN_lt (withN_lt (by omega) (by omega) (by omega)) (by omega) (by omega)) (by omega) (by omega)
          subst hQ
          exact rtl hx hb hr hlocks rfl (by first | (unfold wishM; unfold wishM0; unfold wishE; unfold needM; (try first | rw [if_pos c11_2] | rw [if_neg c11_2]); (try first | rw [if_pos c116_8] | rw [if_neg c116_8]); (try first | rw [if_pos c145_51] | rw [if_neg c145_51]); (try rfl); done) | (exfalso; omega)) dX5_wish_166
        · have c145_51 : ¬ (bitsN sx 46 2 = 2 - h) := fun h9 => c145_51 ((nI_eqG (a := bitsN sx 46 2) (b := 2 - h) (by omega) (by omega)).mpr h9)
          refine lv_aload_n hx hb dX5_wish_148 rfl (lv_at hl 5 rfl) ?_
          refine va_get (D := D) (ci := 5) (v := .ref (ad 5)) (C := RX5) (T := TX5) (N := 23) hx hb hU iX5 hown hK hP 0 rfl rfl 4 (by decide) (hU _ mU_79) (fun _ h9 => h9) rfl dX5_wish_149 ?_
          refine lv_iload hx hb dX5_wish_152 (lv_at hl 1 rfl) ?_
          refine n_iald hx hb hK hP 5 4 rfl rfl (i := (g 3) (4 * ((16 + (8 * h)) + (bitsN sx ((26 + (9 * h)) + 0) 3)))) (by omega) (by decide) dX5_wish_154 ?_
          have hb_53 := hg 5 (by decide) ((g 3) (4 * ((16 + (8 * h)) + (bitsN sx ((26 + (9 * h)) + 0) 3))))
          refine lv_iload hx hb dX5_wish_155 (lv_at hl 0 rfl) ?_
          refine lv_iand hx hb dX5_wish_157 ?_
          have hb_54 : ((g 5) ((g 3) (4 * ((16 + (8 * h)) + (bitsN sx ((26 + (9 * h)) + 0) 3))))) &&& 1 ≤ 1 := Nat.and_le_right
          refine lv_topE (nI (((g 5) ((g 3) (4 * ((16 + (8 * h)) + (bitsN sx ((26 + (9 * h)) + 0) 3))))) &&& 1)) (fa_and _ _) ?_
          refine lv_if_ne (tgt := 167) hx hb dX5_wish_158 (by decide) (fun c158_55 => ?_) (fun c158_55 => ?_)
          · have c158_55 : ¬ (((g 5) ((g 3) (4 * ((16 + (8 * h)) + (bitsN sx ((26 + (9 * h)) + 0) 3))))) &&& 1 = 0) := fun h9 => c158_55 ((nI_eqG (a := ((g 5) ((g 3) (4 * ((16 + (8 * h)) + (bitsN sx ((26 + (9 * h)) + 0) 3))))) &&& 1) (b := 0) (by omega) (by omega)).mpr h9)
            refine lv_lload_n hx hb dX5_wish_167 rfl (lv_at hl 6 rfl) ?_
            refine lv_bipush (v := nI 22) hx hb dX5_wish_168 (by decide) ?_
            refine lv_iconst (v := nI 2) hx hb dX5_wish_170 (by decide) ?_
            refine lv_iload_n hx hb dX5_wish_171 rfl (lv_at hl 7 rfl) ?_
            refine lv_imul hx hb dX5_wish_172 ?_
            refine lv_topE (nI (2 * h)) (pk_mul _ _) ?_
            refine lv_iadd hx hb dX5_wish_173 ?_
            refine lv_topE (nI (22 + (2 * h))) (nI_add _ _) ?_
            refine lv_iconst (v := nI 2) hx hb dX5_wish_174 (by decide) ?_
            refine lv_iload hx hb dX5_wish_175 (lv_at hl 4 rfl) ?_
            refine lv_iconst (v := nI 1) hx hb dX5_wish_177 (by decide) ?_
            refine lv_isub hx hb dX5_wish_178 ?_
            refine lv_topE (nI ((bitsN sx (22 + 2 * h) 2) - 1)) (pk_sub (by omega)) ?_
            refine cSl (As := [.long (lN sx), .int (nI (22 + (2 * h))), .int (nI 2), .int (nI ((bitsN sx (22 + 2 * h) 2) - 1))]) (rest := []) ⟨hx, hb, hml, hown, hts⟩ (c_X5_with l  sx (22 + (2 * h)) 2 ((bitsN sx (22 + 2 * h) 2) - 1) (by omega) (by omega) (by omega) (by omega)) (va_cwS 4 hts (gS mU_480 mU_481 mU_6 mU_482) rfl rfl rfl (by decide +kernel) ⟨Nat.le_of_ble_eq_true rfl, Nat.le_of_ble_eq_true rfl⟩) fbU (fun _ _ _ => trivial) rfl hl.1 rfl (Nat.le_of_ble_eq_true rfl) dX5_wish_179 ⟨Nat.zero_le _, Nat.zero_le _⟩ ?_
            have hf_56 : withN sx (22 + (2 * h)) 2 ((bitsN sx (22 + 2 * h) 2) - 1) < 2 ^ 48 := withN_lt (by omega) (by omega) (by omega)
            refine lv_lstore (lv' := [(10, .long (lN (withN sx (22 + (2 * h)) 2 ((bitsN sx (22 + 2 * h) 2) - 1)))), (9, .int (nI 1)), (8, .int (nI ((g 3) (4 * ((16 + (8 * h)) + (bitsN sx ((26 + (9 * h)) + 0) 3)))))), (7, .int (nI ((16 + (8 * h)) + (bitsN sx ((26 + (9 * h)) + 0) 3)))), (6, .int (nI (sortM g sx h 0))), (5, .int (nI (bitsN sx (22 + 2 * h) 2))), (0, .ref (ad 0)), (1, .long (lN sx)), (3, .int (nI h)), (4, .int (nI 0))]) hx hb dX5_wish_182 hl (by decide) rfl (fun ls hl => ?_)
            refine lv_iload hx hb dX5_wish_184 (lv_at hl 9 rfl) ?_
            refine lv_istore (lv' := [(12, .int (nI 0)), (10, .long (lN (withN sx (22 + (2 * h)) 2 ((bitsN sx (22 + 2 * h) 2) - 1)))), (9, .int (nI 1)), (8, .int (nI ((g 3) (4 * ((16 + (8 * h)) + (bitsN sx ((26 + (9 * h)) + 0) 3)))))), (7, .int (nI ((16 + (8 * h)) + (bitsN sx ((26 + (9 * h)) + 0) 3)))), (6, .int (nI (sortM g sx h 0))), (5, .int (nI (bitsN sx (22 + 2 * h) 2))), (0, .ref (ad 0)), (1, .long (lN sx)), (3, .int (nI h)), (4, .int (nI 0))]) hx hb dX5_wish_186 hl (by decide) rfl (fun ls hl => ?_)
            refine lv_iload hx hb dX5_wish_188 (lv_at hl 0 rfl) ?_
            refine lv_iconst (v := nI 3) hx hb dX5_wish_190 (by decide) ?_
            refine lv_icmp_ge (tgt := 249) hx hb dX5_wish_191 (by decide) (fun c191_57 => absurd c191_57 (by decide)) (fun c191_57 => ?_)
            refine lv_lload hx hb dX5_wish_194 (lv_at hl 1 rfl) ?_
            refine lv_bipush (v := nI 26) hx hb dX5_wish_196 (by decide) ?_
            refine lv_bipush (v := nI 9) hx hb dX5_wish_198 (by decide) ?_
            refine lv_iload_n hx hb dX5_wish_200 rfl (lv_at hl 9 rfl) ?_
            refine lv_imul hx hb dX5_wish_201 ?_
            refine lv_topE (nI (9 * h)) (pk_mul _ _) ?_
            refine lv_iadd hx hb dX5_wish_202 ?_
            refine lv_topE (nI (26 + (9 * h))) (nI_add _ _) ?_
            refine lv_iconst (v := nI 3) hx hb dX5_wish_203 (by decide) ?_
            refine lv_iload hx hb dX5_wish_204 (lv_at hl 0 rfl) ?_
            refine lv_imul hx hb dX5_wish_206 ?_
            refine lv_topE (nI 0) (pk_mul _ _) ?_
            refine lv_iadd hx hb dX5_wish_207 ?_
            refine lv_topE (nI ((26 + (9 * h)) + 0)) (nI_add _ _) ?_
            refine lv_iconst (v := nI 3) hx hb dX5_wish_208 (by decide) ?_
            refine lv_iload hx hb dX5_wish_209 (lv_at hl 0 rfl) ?_
            refine lv_iconst (v := nI 2) hx hb dX5_wish_211 (by decide) ?_
            refine lv_icmp_ge (tgt := 237) hx hb dX5_wish_212 (by decide) (fun c212_58 => absurd c212_58 (by decide)) (fun c212_58 => ?_)
            refine lv_lload_n hx hb dX5_wish_215 rfl (lv_at hl 8 rfl) ?_
            refine lv_bipush (v := nI 26) hx hb dX5_wish_216 (by decide) ?_
            refine lv_bipush (v := nI 9) hx hb dX5_wish_218 (by decide) ?_
            refine lv_iload_n hx hb dX5_wish_220 rfl (lv_at hl 9 rfl) ?_
            refine lv_imul hx hb dX5_wish_221 ?_
            refine lv_topE (nI (9 * h)) (pk_mul _ _) ?_
            refine lv_iadd hx hb dX5_wish_222 ?_
            refine lv_topE (nI (26 + (9 * h))) (nI_add _ _) ?_
            refine lv_iconst (v := nI 3) hx hb dX5_wish_223 (by decide) ?_
            refine lv_iload hx hb dX5_wish_224 (lv_at hl 0 rfl) ?_
            refine lv_imul hx hb dX5_wish_226 ?_
            refine lv_topE (nI 0) (pk_mul _ _) ?_
            refine lv_iadd hx hb dX5_wish_227 ?_
            refine lv_topE (nI ((26 + (9 * h)) + 0)) (nI_add _ _) ?_
            refine lv_iconst (v := nI 3) hx hb dX5_wish_228 (by decide) ?_
            refine lv_iadd hx hb dX5_wish_229 ?_
            refine lv_topE (nI (((26 + (9 * h)) + 0) + 3)) (nI_add _ _) ?_
            refine lv_iconst (v := nI 3) hx hb dX5_wish_230 (by decide) ?_
            refine cSi (As := [.long (lN sx), .int (nI (((26 + (9 * h)) + 0) + 3)), .int (nI 3)]) (rest := [.int (nI 3), .int (nI ((26 + (9 * h)) + 0)), .long (lN (withN sx (22 + (2 * h)) 2 ((bitsN sx (22 + 2 * h) 2) - 1)))]) ⟨hx, hb, hml, hown, hts⟩ (c_X5_bits l  sx (((26 + (9 * h)) + 0) + 3) 3 (by omega) (by omega) (by omega)) (va_cwS 3 hts (gS mU_503 mU_504 mU_6 mU_505) rfl rfl rfl (by decide +kernel) ⟨Nat.le_of_ble_eq_true rfl, Nat.le_of_ble_eq_true rfl⟩) fbU (fun _ _ _ => trivial) rfl hl.1 rfl (Nat.le_of_ble_eq_true rfl) dX5_wish_231 ⟨Nat.zero_le _, Nat.zero_le _⟩ ?_
            have hf_59 : bitsN sx (((26 + (9 * h)) + 0) + 3) 3 < 2 ^ 3 := bitsN_lt _ _ _
            refine lv_goto (tgt := 238) hx hb dX5_wish_234 (by decide) ?_
            refine cSl (As := [.long (lN (withN sx (22 + (2 * h)) 2 ((bitsN sx (22 + 2 * h) 2) - 1))), .int (nI ((26 + (9 * h)) + 0)), .int (nI 3), .int (nI (bitsN sx (((26 + (9 * h)) + 0) + 3) 3))]) (rest := []) ⟨hx, hb, hml, hown, hts⟩ (c_X5_with l  (withN sx (22 + (2 * h)) 2 ((bitsN sx (22 + 2 * h) 2) - 1)) ((26 + (9 * h)) + 0) 3 (bitsN sx (((26 + (9 * h)) + 0) + 3) 3) (by omega) (by omega) (by omega) (by omega)) (va_cwS 4 hts (gS mU_480 mU_481 mU_6 mU_482) rfl rfl rfl (by decide +kernel) ⟨Nat.le_of_ble_eq_true rfl, Nat.le_of_ble_eq_true rfl⟩) fbU (fun _ _ _ => trivial) rfl hl.1 rfl (Nat.le_of_ble_eq_true rfl) dX5_wish_238 ⟨Nat.zero_le _, Nat.zero_le _⟩ ?_
            have hf_60 : withN (withN sx (22 + (2 * h)) 2 ((bitsN sx (22 + 2 * h) 2) - 1)) ((26 + (9 * h)) + 0) 3 (bitsN sx (((26 + (9 * h)) + 0) + 3) 3) < 2 ^ 48 := withN_lt (by omega) (by omega) (by omega)
            refine lv_lstore (lv' := [(10, .long (lN (withN (withN sx (22 + (2 * h)) 2 ((bitsN sx (22 + 2 * h) 2) - 1)) ((26 + (9 * h)) + 0) 3 (bitsN sx (((26 + (9 * h)) + 0) + 3) 3)))), (12, .int (nI 0)), (9, .int (nI 1)), (8, .int (nI ((g 3) (4 * ((16 + (8 * h)) + (bitsN sx ((26 + (9 * h)) + 0) 3)))))), (7, .int (nI ((16 + (8 * h)) + (bitsN sx ((26 + (9 * h)) + 0) 3)))), (6, .int (nI (sortM g sx h 0))), (5, .int (nI (bitsN sx (22 + 2 * h) 2))), (0, .ref (ad 0)), (1, .long (lN sx)), (3, .int (nI h)), (4, .int (nI 0))]) hx hb dX5_wish_241 hl (by decide) rfl (fun ls hl => ?_)
            refine lv_iinc (v := nI 1) (lv' := [(12, .int (nI 1)), (10, .long (lN (withN (withN sx (22 + (2 * h)) 2 ((bitsN sx (22 + 2 * h) 2) - 1)) ((26 + (9 * h)) + 0) 3 (bitsN sx (((26 + (9 * h)) + 0) + 3) 3)))), (9, .int (nI 1)), (8, .int (nI ((g 3) (4 * ((16 + (8 * h)) + (bitsN sx ((26 + (9 * h)) + 0) 3)))))), (7, .int (nI ((16 + (8 * h)) + (bitsN sx ((26 + (9 * h)) + 0) 3)))), (6, .int (nI (sortM g sx h 0))), (5, .int (nI (bitsN sx (22 + 2 * h) 2))), (0, .ref (ad 0)), (1, .long (lN sx)), (3, .int (nI h)), (4, .int (nI 0))]) hx hb dX5_wish_243 hl (k := 1) rfl (by decide) (by decide) rfl (fun ls hl => ?_)
            refine lv_goto (tgt := 188) hx hb dX5_wish_246 (by decide) ?_
            refine lv_iload hx hb dX5_wish_188 (lv_at hl 0 rfl) ?_
            refine lv_iconst (v := nI 3) hx hb dX5_wish_190 (by decide) ?_
            refine lv_icmp_ge (tgt := 249) hx hb dX5_wish_191 (by decide) (fun c191_61 => absurd c191_61 (by decide)) (fun c191_61 => ?_)
            refine lv_lload hx hb dX5_wish_194 (lv_at hl 1 rfl) ?_
            refine lv_bipush (v := nI 26) hx hb dX5_wish_196 (by decide) ?_
            refine lv_bipush (v := nI 9) hx hb dX5_wish_198 (by decide) ?_
            refine lv_iload_n hx hb dX5_wish_200 rfl (lv_at hl 9 rfl) ?_
            refine lv_imul hx hb dX5_wish_201 ?_
            refine lv_topE (nI (9 * h)) (pk_mul _ _) ?_
            refine lv_iadd hx hb dX5_wish_202 ?_
            refine lv_topE (nI (26 + (9 * h))) (nI_add _ _) ?_
            refine lv_iconst (v := nI 3) hx hb dX5_wish_203 (by decide) ?_
            refine lv_iload hx hb dX5_wish_204 (lv_at hl 0 rfl) ?_
            refine lv_imul hx hb dX5_wish_206 ?_
            refine lv_topE (nI 3) (pk_mul _ _) ?_
            refine lv_iadd hx hb dX5_wish_207 ?_
            refine lv_topE (nI ((26 + (9 * h)) + 3)) (nI_add _ _) ?_
            refine lv_iconst (v := nI 3) hx hb dX5_wish_208 (by decide) ?_
            refine lv_iload hx hb dX5_wish_209 (lv_at hl 0 rfl) ?_
            refine lv_iconst (v := nI 2) hx hb dX5_wish_211 (by decide) ?_
            refine lv_icmp_ge (tgt := 237) hx hb dX5_wish_212 (by decide) (fun c212_62 => absurd c212_62 (by decide)) (fun c212_62 => ?_)
            refine lv_lload_n hx hb dX5_wish_215 rfl (lv_at hl 8 rfl) ?_
            refine lv_bipush (v := nI 26) hx hb dX5_wish_216 (by decide) ?_
            refine lv_bipush (v := nI 9) hx hb dX5_wish_218 (by decide) ?_
            refine lv_iload_n hx hb dX5_wish_220 rfl (lv_at hl 9 rfl) ?_
            refine lv_imul hx hb dX5_wish_221 ?_
            refine lv_topE (nI (9 * h)) (pk_mul _ _) ?_
            refine lv_iadd hx hb dX5_wish_222 ?_
            refine lv_topE (nI (26 + (9 * h))) (nI_add _ _) ?_
            refine lv_iconst (v := nI 3) hx hb dX5_wish_223 (by decide) ?_
            refine lv_iload hx hb dX5_wish_224 (lv_at hl 0 rfl) ?_
            refine lv_imul hx hb dX5_wish_226 ?_
            refine lv_topE (nI 3) (pk_mul _ _) ?_
            refine lv_iadd hx hb dX5_wish_227 ?_
            refine lv_topE (nI ((26 + (9 * h)) + 3)) (nI_add _ _) ?_
            refine lv_iconst (v := nI 3) hx hb dX5_wish_228 (by decide) ?_
            refine lv_iadd hx hb dX5_wish_229 ?_
            refine lv_topE (nI (((26 + (9 * h)) + 3) + 3)) (nI_add _ _) ?_
            refine lv_iconst (v := nI 3) hx hb dX5_wish_230 (by decide) ?_
            refine cSi (As := [.long (lN sx), .int (nI (((26 + (9 * h)) + 3) + 3)), .int (nI 3)]) (rest := [.int (nI 3), .int (nI ((26 + (9 * h)) + 3)), .long (lN (withN (withN sx (22 + (2 * h)) 2 ((bitsN sx (22 + 2 * h) 2) - 1)) ((26 + (9 * h)) + 0) 3 (bitsN sx (((26 + (9 * h)) + 0) + 3) 3)))]) ⟨hx, hb, hml, hown, hts⟩ (c_X5_bits l  sx (((26 + (9 * h)) + 3) + 3) 3 (by omega) (by omega) (by omega)) (va_cwS 3 hts (gS mU_503 mU_504 mU_6 mU_505) rfl rfl rfl (by decide +kernel) ⟨Nat.le_of_ble_eq_true rfl, Nat.le_of_ble_eq_true rfl⟩) fbU (fun _ _ _ => trivial) rfl hl.1 rfl (Nat.le_of_ble_eq_true rfl) dX5_wish_231 ⟨Nat.zero_le _, Nat.zero_le _⟩ ?_
            have hf_63 : bitsN sx (((26 + (9 * h)) + 3) + 3) 3 < 2 ^ 3 := bitsN_lt _ _ _
            refine lv_goto (tgt := 238) hx hb dX5_wish_234 (by decide) ?_
            refine cSl (As := [.long (lN (withN (withN sx (22 + (2 * h)) 2 ((bitsN sx (22 + 2 * h) 2) - 1)) ((26 + (9 * h)) + 0) 3 (bitsN sx (((26 + (9 * h)) + 0) + 3) 3))), .int (nI ((26 + (9 * h)) + 3)), .int (nI 3), .int (nI (bitsN sx (((26 + (9 * h)) + 3) + 3) 3))]) (rest := []) ⟨hx, hb, hml, hown, hts⟩ (c_X5_with l  (withN (withN sx (22 + (2 * h)) 2 ((bitsN sx (22 + 2 * h) 2) - 1)) ((26 + (9 * h)) + 0) 3 (bitsN sx (((26 + (9 * h)) + 0) + 3) 3)) ((26 + (9 * h)) + 3) 3 (bitsN sx (((26 + (9 * h)) + 3) + 3) 3) (by omega) (by omega) (by omega) (by omega)) (va_cwS 4 hts (gS mU_480 mU_481 mU_6 mU_482) rfl rfl rfl (by decide +kernel) ⟨Nat.le_of_ble_eq_true rfl, Nat.le_of_ble_eq_true rfl⟩) fbU (fun _ _ _ => trivial) rfl hl.1 rfl (Nat.le_of_ble_eq_true rfl) dX5_wish_238 ⟨Nat.zero_le _, Nat.zero_le _⟩ ?_
            have hf_64 : withN (withN (withN sx (22 + (2 * h)) 2 ((bitsN sx (22 + 2 * h) 2) - 1)) ((26 + (9 * h)) + 0) 3 (bitsN sx (((26 + (9 * h)) + 0) + 3) 3)) ((26 + (9 * h)) + 3) 3 (bitsN sx (((26 + (9 * h)) + 3) + 3) 3) < 2 ^ 48 := withN_lt (by omega) (by omega) (by omega)
            refine lv_lstore (lv' := [(10, .long (lN (withN (withN (withN sx (22 + (2 * h)) 2 ((bitsN sx (22 + 2 * h) 2) - 1)) ((26 + (9 * h)) + 0) 3 (bitsN sx (((26 + (9 * h)) + 0) + 3) 3)) ((26 + (9 * h)) + 3) 3 (bitsN sx (((26 + (9 * h)) + 3) + 3) 3)))), (12, .int (nI 1)), (9, .int (nI 1)), (8, .int (nI ((g 3) (4 * ((16 + (8 * h)) + (bitsN sx ((26 + (9 * h)) + 0) 3)))))), (7, .int (nI ((16 + (8 * h)) + (bitsN sx ((26 + (9 * h)) + 0) 3)))), (6, .int (nI (sortM g sx h 0))), (5, .int (nI (bitsN sx (22 + 2 * h) 2))), (0, .ref (ad 0)), (1, .long (lN sx)), (3, .int (nI h)), (4, .int (nI 0))]) hx hb dX5_wish_241 hl (by decide) rfl (fun ls hl => ?_)
            refine lv_iinc (v := nI 2) (lv' := [(12, .int (nI 2)), (10, .long (lN (withN (withN (withN sx (22 + (2 * h)) 2 ((bitsN sx (22 + 2 * h) 2) - 1)) ((26 + (9 * h)) + 0) 3 (bitsN sx (((26 + (9 * h)) + 0) + 3) 3)) ((26 + (9 * h)) + 3) 3 (bitsN sx (((26 + (9 * h)) + 3) + 3) 3)))), (9, .int (nI 1)), (8, .int (nI ((g 3) (4 * ((16 + (8 * h)) + (bitsN sx ((26 + (9 * h)) + 0) 3)))))), (7, .int (nI ((16 + (8 * h)) + (bitsN sx ((26 + (9 * h)) + 0) 3)))), (6, .int (nI (sortM g sx h 0))), (5, .int (nI (bitsN sx (22 + 2 * h) 2))), (0, .ref (ad 0)), (1, .long (lN sx)), (3, .int (nI h)), (4, .int (nI 0))]) hx hb dX5_wish_243 hl (k := 1) rfl (by decide) (by decide) rfl (fun ls hl => ?_)
            refine lv_goto (tgt := 188) hx hb dX5_wish_246 (by decide) ?_
            refine lv_iload hx hb dX5_wish_188 (lv_at hl 0 rfl) ?_
            refine lv_iconst (v := nI 3) hx hb dX5_wish_190 (by decide) ?_
            refine lv_icmp_ge (tgt := 249) hx hb dX5_wish_191 (by decide) (fun c191_65 => absurd c191_65 (by decide)) (fun c191_65 => ?_)
            refine lv_lload hx hb dX5_wish_194 (lv_at hl 1 rfl) ?_
            refine lv_bipush (v := nI 26) hx hb dX5_wish_196 (by decide) ?_
            refine lv_bipush (v := nI 9) hx hb dX5_wish_198 (by decide) ?_
            refine lv_iload_n hx hb dX5_wish_200 rfl (lv_at hl 9 rfl) ?_
            refine lv_imul hx hb dX5_wish_201 ?_
            refine lv_topE (nI (9 * h)) (pk_mul _ _) ?_
            refine lv_iadd hx hb dX5_wish_202 ?_
            refine lv_topE (nI (26 + (9 * h))) (nI_add _ _) ?_
            refine lv_iconst (v := nI 3) hx hb dX5_wish_203 (by decide) ?_
            refine lv_iload hx hb dX5_wish_204 (lv_at hl 0 rfl) ?_
            refine lv_imul hx hb dX5_wish_206 ?_
            refine lv_topE (nI 6) (pk_mul _ _) ?_
            refine lv_iadd hx hb dX5_wish_207 ?_
            refine lv_topE (nI ((26 + (9 * h)) + 6)) (nI_add _ _) ?_
            refine lv_iconst (v := nI 3) hx hb dX5_wish_208 (by decide) ?_
            refine lv_iload hx hb dX5_wish_209 (lv_at hl 0 rfl) ?_
            refine lv_iconst (v := nI 2) hx hb dX5_wish_211 (by decide) ?_
            refine lv_icmp_ge (tgt := 237) hx hb dX5_wish_212 (by decide) (fun c212_66 => ?_) (fun c212_66 => absurd (by decide) c212_66)
            refine lv_iconst (v := nI 0) hx hb dX5_wish_237 (by decide) ?_
            refine cSl (As := [.long (lN (withN (withN (withN sx (22 + (2 * h)) 2 ((bitsN sx (22 + 2 * h) 2) - 1)) ((26 + (9 * h)) + 0) 3 (bitsN sx (((26 + (9 * h)) + 0) + 3) 3)) ((26 + (9 * h)) + 3) 3 (bitsN sx (((26 + (9 * h)) + 3) + 3) 3))), .int (nI ((26 + (9 * h)) + 6)), .int (nI 3), .int (nI 0)]) (rest := []) ⟨hx, hb, hml, hown, hts⟩ (c_X5_with l  (withN (withN (withN sx (22 + (2 * h)) 2 ((bitsN sx (22 + 2 * h) 2) - 1)) ((26 + (9 * h)) + 0) 3 (bitsN sx (((26 + (9 * h)) + 0) + 3) 3)) ((26 + (9 * h)) + 3) 3 (bitsN sx (((26 + (9 * h)) + 3) + 3) 3)) ((26 + (9 * h)) + 6) 3 0 (by omega) (by omega) (by omega) (by omega)) (va_cwS 4 hts (gS mU_480 mU_481 mU_6 mU_482) rfl rfl rfl (by decide +kernel) ⟨Nat.le_of_ble_eq_true rfl, Nat.le_of_ble_eq_true rfl⟩) fbU (fun _ _ _ => trivial) rfl hl.1 rfl (Nat.le_of_ble_eq_true rfl) dX5_wish_238 ⟨Nat.zero_le _, Nat.zero_le _⟩ ?_
            have hf_67 : withN (withN (withN (withN sx (22 + (2 * h)) 2 ((bitsN sx (22 + 2 * h) 2) - 1)) ((26 + (9 * h)) + 0) 3 (bitsN sx (((26 + (9 * h)) + 0) + 3) 3)) ((26 + (9 * h)) + 3) 3 (bitsN sx (((26 + (9 * h)) + 3) + 3) 3)) ((26 + (9 * h)) + 6) 3 0 < 2 ^ 48 := withN_lt (by omega) (by omega) (by omega)
            refine lv_lstore (lv' := [(10, .long (lN (withN (withN (withN (withN sx (22 + (2 * h)) 2 ((bitsN sx (22 + 2 * h) 2) - 1)) ((26 + (9 * h)) + 0) 3 (bitsN sx (((26 + (9 * h)) + 0) + 3) 3)) ((26 + (9 * h)) + 3) 3 (bitsN sx (((26 + (9 * h)) + 3) + 3) 3)) ((26 + (9 * h)) + 6) 3 0))), (12, .int (nI 2)), (9, .int (nI 1)), (8, .int (nI ((g 3) (4 * ((16 + (8 * h)) + (bitsN sx ((26 + (9 * h)) + 0) 3)))))), (7, .int (nI ((16 + (8 * h)) + (bitsN sx ((26 + (9 * h)) + 0) 3)))), (6, .int (nI (sortM g sx h 0))), (5, .int (nI (bitsN sx (22 + 2 * h) 2))), (0, .ref (ad 0)), (1, .long (lN sx)), (3, .int (nI h)), (4, .int (nI 0))]) hx hb dX5_wish_241 hl (by decide) rfl (fun ls hl => ?_)
            refine lv_iinc (v := nI 3) (lv' := [(12, .int (nI 3)), (10, .long (lN (withN (withN (withN (withN sx (22 + (2 * h)) 2 ((bitsN sx (22 + 2 * h) 2) - 1)) ((26 + (9 * h)) + 0) 3 (bitsN sx (((26 + (9 * h)) + 0) + 3) 3)) ((26 + (9 * h)) + 3) 3 (bitsN sx (((26 + (9 * h)) + 3) + 3) 3)) ((26 + (9 * h)) + 6) 3 0))), (9, .int (nI 1)), (8, .int (nI ((g 3) (4 * ((16 + (8 * h)) + (bitsN sx ((26 + (9 * h)) + 0) 3)))))), (7, .int (nI ((16 + (8 * h)) + (bitsN sx ((26 + (9 * h)) + 0) 3)))), (6, .int (nI (sortM g sx h 0))), (5, .int (nI (bitsN sx (22 + 2 * h) 2))), (0, .ref (ad 0)), (1, .long (lN sx)), (3, .int (nI h)), (4, .int (nI 0))]) hx hb dX5_wish_243 hl (k := 1) rfl (by decide) (by decide) rfl (fun ls hl => ?_)
            refine lv_goto (tgt := 188) hx hb dX5_wish_246 (by decide) ?_
            refine lv_iload hx hb dX5_wish_188 (lv_at hl 0 rfl) ?_
            refine lv_iconst (v := nI 3) hx hb dX5_wish_190 (by decide) ?_
            refine lv_icmp_ge (tgt := 249) hx hb dX5_wish_191 (by decide) (fun c191_68 => ?_) (fun c191_68 => absurd (by decide) c191_68)
            refine lv_aload_n hx hb dX5_wish_249 rfl (lv_at hl 7 rfl) ?_
            refine lv_lload hx hb dX5_wish_250 (lv_at hl 1 rfl) ?_
            refine lv_iload_n hx hb dX5_wish_252 rfl (lv_at hl 9 rfl) ?_
            refine lv_iload hx hb dX5_wish_253 (lv_at hl 5 rfl) ?_
            refine lv_iload hx hb dX5_wish_255 (lv_at hl 4 rfl) ?_
            refine cVl (As := [.long (lN (withN (withN (withN (withN sx (22 + (2 * h)) 2 ((bitsN sx (22 + 2 * h) 2) - 1)) ((26 + (9 * h)) + 0) 3 (bitsN sx (((26 + (9 * h)) + 0) + 3) 3)) ((26 + (9 * h)) + 3) 3 (bitsN sx (((26 + (9 * h)) + 3) + 3) 3)) ((26 + (9 * h)) + 6) 3 0)), .int (nI h), .int (nI (sortM g sx h 0)), .int (nI ((16 + (8 * h)) + (bitsN sx ((26 + (9 * h)) + 0) 3)))]) (rest := []) ⟨hx, hb, hml, hown, hts⟩ (c_X5_act l D ad ka f g t (withN (withN (withN (withN sx (22 + (2 * h)) 2 ((bitsN sx (22 + 2 * h) 2) - 1)) ((26 + (9 * h)) + 0) 3 (bitsN sx (((26 + (9 * h)) + 0) + 3) 3)) ((26 + (9 * h)) + 3) 3 (bitsN sx (((26 + (9 * h)) + 3) + 3) 3)) ((26 + (9 * h)) + 6) 3 0) h (sortM g sx h 0) ((16 + (8 * h)) + (bitsN sx ((26 + (9 * h)) + 0) 3)) (hg) (by omega) (by omega) (by omega) (by omega) (hokq)) (cwV 4 hts (gV mU_524 mU_525 mU_526 mU_6 mU_527) rfl rfl rfl (by decide +kernel) ⟨Nat.le_of_ble_eq_true rfl, Nat.le_of_ble_eq_true rfl⟩) fbR (va_recv hK hP (ci := 5) (q0 := 0) rfl rfl) (PR.of hP hK) rfl hl.1 rfl (Nat.le_of_ble_eq_true rfl) dX5_wish_257 ⟨Nat.zero_le _, Nat.zero_le _⟩ ?_
            subst hQ
            exact rtl hx hb hr hlocks rfl (by first | (unfold wishM; unfold wishM0; unfold wishE; unfold needM; unfold shiftM; (try first | rw [if_pos c11_2] | rw [if_neg c11_2]); (try first | rw [if_pos c116_8] | rw [if_neg c116_8]); (try first | rw [if_pos c145_51] | rw [if_neg c145_51]); (try first | rw [if_pos c158_55] | rw [if_neg c158_55]); (try rfl); done) | (exfalso; omega)) dX5_wish_260
          · have c158_55 : ((g 5) ((g 3) (4 * ((16 + (8 * h)) + (bitsN sx ((26 + (9 * h)) + 0) 3))))) &&& 1 = 0 := (nI_eqG (a := ((g 5) ((g 3) (4 * ((16 + (8 * h)) + (bitsN sx ((26 + (9 * h)) + 0) 3))))) &&& 1) (b := 0) (by omega) (by omega)).mp c158_55
            refine lv_lload_n hx hb dX5_wish_161 rfl (lv_at hl 6 rfl) ?_
            refine lv_iload_n hx hb dX5_wish_162 rfl (lv_at hl 7 rfl) ?_
            refine cSl (As := [.long (lN sx), .int (nI h)]) (rest := []) ⟨hx, hb, hml, hown, hts⟩ (c_X5_broken l  sx h (by omega) (by omega)) (va_cwS 2 hts (gS mU_521 mU_522 mU_6 mU_523) rfl rfl rfl (by decide +kernel) ⟨Nat.le_of_ble_eq_true rfl, Nat.le_of_ble_eq_true rfl⟩) fbU (fun _ _ _ => trivial) rfl hl.1 rfl (Nat.le_of_ble_eq_true rfl) dX5_wish_163 ⟨Nat.zero_le _, Nat.zero_le _⟩ ?_
            have hf_69 : brokenM sx h < 2 ^ 48 := withN_lt (withN_lt (withN_lt (by omega) (by omega) (by omega)) (by omega) (by omega)) (by omega) (by omega)
            subst hQ
            exact rtl hx hb hr hlocks rfl (by first | (unfold wishM; unfold wishM0; unfold wishE; unfold needM; (try first | rw [if_pos c11_2] | rw [if_neg c11_2]); (try first | rw [if_pos c116_8] | rw [if_neg c116_8]); (try first | rw [if_pos c145_51] | rw [if_neg c145_51]); (try first | rw [if_pos c158_55] | rw [if_neg c158_55]); (try rfl); done) | (exfalso; omega)) dX5_wish_166
    · have c11_2 : ¬ (0 < bitsN sx (22 + 2 * h) 2) := fun h9 => c11_2 ((nI_ltI (a := 0) (b := bitsN sx (22 + 2 * h) 2) (by omega) (by omega)).mpr h9)
      refine lv_ldc2 (v := (-1)) hx hb hown (hU _ mU_483) dX5_wish_14 ?_
      subst hQ
      exact rtl hx hb hr hlocks rfl (by first | (unfold wishM; unfold wishM0; (try first | rw [if_pos c11_2] | rw [if_neg c11_2]); (try rfl); done) | (exfalso; omega)) dX5_wish_17
  · have hl : lv_has ls 13 [(0, .ref (ad 0)), (1, .long (lN sx)), (3, .int (nI h)), (4, .int (nI 1))] := hl
    obtain ⟨hsx, hw0⟩ := hwf
    have hl7 := (hL h hh).1
    refine lv_lload_n hx hb dX5_wish_0 rfl (lv_at hl 1 rfl) ?_
    refine lv_iload_n hx hb dX5_wish_1 rfl (lv_at hl 2 rfl) ?_
    refine cSi (As := [.long (lN sx), .int (nI h)]) (rest := []) ⟨hx, hb, hml, hown, hts⟩ (c_X5_wishes l  sx h (by omega) (by omega)) (va_cwS 2 hts (gS mU_506 mU_507 mU_6 mU_508) rfl rfl rfl (by decide +kernel) ⟨Nat.le_of_ble_eq_true rfl, Nat.le_of_ble_eq_true rfl⟩) fbU (fun _ _ _ => trivial) rfl hl.1 rfl (Nat.le_of_ble_eq_true rfl) dX5_wish_2 ⟨Nat.zero_le _, Nat.zero_le _⟩ ?_
    have hf_70 : bitsN sx (22 + 2 * h) 2 < 4 := bitsN_lt _ _ _
    refine lv_istore (lv' := [(5, .int (nI (bitsN sx (22 + 2 * h) 2))), (0, .ref (ad 0)), (1, .long (lN sx)), (3, .int (nI h)), (4, .int (nI 1))]) hx hb dX5_wish_5 hl (by decide) rfl (fun ls hl => ?_)
    refine lv_iload hx hb dX5_wish_7 (lv_at hl 4 rfl) ?_
    refine lv_iload hx hb dX5_wish_9 (lv_at hl 0 rfl) ?_
    refine lv_icmp_lt (tgt := 18) hx hb dX5_wish_11 (by decide) (fun c11_71 => ?_) (fun c11_71 => ?_)
    · have c11_71 : 1 < bitsN sx (22 + 2 * h) 2 := (nI_ltI (a := 1) (b := bitsN sx (22 + 2 * h) 2) (by omega) (by omega)).mp c11_71
      have hwq : bitsN sx (26 + 9 * h + 3) 3 < g 1 (2 + h) ∧ sortM g sx h 1 < 4 := (hw0 h hh).2 1 (by omega)
      have hokq := (hL h hh).2 _ hwq.1
      have hka : g 3 (4 * (16 + 8 * h + bitsN sx (26 + 9 * h + 3) 3)) < 4 ∧ g 3 (4 * (16 + 8 * h + bitsN sx (26 + 9 * h + 3) 3) + 1) < 4 := okS_a hokq hwq.2
      refine lv_aload_n hx hb dX5_wish_18 rfl (lv_at hl 1 rfl) ?_
      refine lv_lload_n hx hb dX5_wish_19 rfl (lv_at hl 2 rfl) ?_
      refine lv_iload_n hx hb dX5_wish_20 rfl (lv_at hl 3 rfl) ?_
      refine lv_iload hx hb dX5_wish_21 (lv_at hl 4 rfl) ?_
      refine cVi (As := [.long (lN sx), .int (nI h), .int (nI 1)]) (rest := []) ⟨hx, hb, hml, hown, hts⟩ (c_X5_sortOf l D ad ka f g t sx h 1 (hg) (by omega) (by omega) (by omega)) (cwV 3 hts (gV mU_513 mU_514 mU_515 mU_6 mU_516) rfl rfl rfl (by decide +kernel) ⟨Nat.le_of_ble_eq_true rfl, Nat.le_of_ble_eq_true rfl⟩) fbR (va_recv hK hP (ci := 5) (q0 := 0) rfl rfl) (PR.of hP hK) rfl hl.1 rfl (Nat.le_of_ble_eq_true rfl) dX5_wish_23 ⟨Nat.zero_le _, Nat.zero_le _⟩ ?_
      have hf_72 : sortM g sx h 1 < 2147483648 := hg 2 (by decide) _
      refine lv_istore (lv' := [(6, .int (nI (sortM g sx h 1))), (5, .int (nI (bitsN sx (22 + 2 * h) 2))), (0, .ref (ad 0)), (1, .long (lN sx)), (3, .int (nI h)), (4, .int (nI 1))]) hx hb dX5_wish_26 hl (by decide) rfl (fun ls hl => ?_)
      refine lv_iload hx hb dX5_wish_28 (lv_at hl 5 rfl) ?_
      refine lv_if_le (tgt := 43) hx hb dX5_wish_30 (by decide) (fun c30_73 => absurd c30_73 (by decide)) (fun c30_73 => ?_)
      refine lv_iload hx hb dX5_wish_33 (lv_at hl 0 rfl) ?_
      refine lv_iconst (v := nI 1) hx hb dX5_wish_35 (by decide) ?_
      refine lv_icmp_ne (tgt := 43) hx hb dX5_wish_36 (by decide) (fun c36_74 => ?_) (fun c36_74 => ?_)
      · have c36_74 : ¬ (sortM g sx h 1 = 1) := fun h9 => c36_74 ((nI_eqG (a := sortM g sx h 1) (b := 1) (by omega) (by omega)).mpr h9)
        refine lv_iconst (v := nI 0) hx hb dX5_wish_43 (by decide) ?_
        refine lv_istore (lv' := [(7, .int (nI 0)), (6, .int (nI (sortM g sx h 1))), (5, .int (nI (bitsN sx (22 + 2 * h) 2))), (0, .ref (ad 0)), (1, .long (lN sx)), (3, .int (nI h)), (4, .int (nI 1))]) hx hb dX5_wish_44 hl (by decide) rfl (fun ls hl => ?_)
        refine lv_iload hx hb dX5_wish_46 (lv_at hl 0 rfl) ?_
        refine lv_iload hx hb dX5_wish_48 (lv_at hl 6 rfl) ?_
        refine lv_icmp_ge (tgt := 75) hx hb dX5_wish_50 (by decide) (fun c50_75 => absurd c50_75 (by decide)) (fun c50_75 => ?_)
        refine lv_aload_n hx hb dX5_wish_53 rfl (lv_at hl 3 rfl) ?_
        refine lv_lload_n hx hb dX5_wish_54 rfl (lv_at hl 4 rfl) ?_
        refine lv_iload_n hx hb dX5_wish_55 rfl (lv_at hl 5 rfl) ?_
        refine lv_iload hx hb dX5_wish_56 (lv_at hl 0 rfl) ?_
        refine cVi (As := [.long (lN sx), .int (nI h), .int (nI 0)]) (rest := []) ⟨hx, hb, hml, hown, hts⟩ (c_X5_sortOf l D ad ka f g t sx h 0 (hg) (by omega) (by omega) (by omega)) (cwV 3 hts (gV mU_513 mU_514 mU_515 mU_6 mU_516) rfl rfl rfl (by decide +kernel) ⟨Nat.le_of_ble_eq_true rfl, Nat.le_of_ble_eq_true rfl⟩) fbR (va_recv hK hP (ci := 5) (q0 := 0) rfl rfl) (PR.of hP hK) rfl hl.1 rfl (Nat.le_of_ble_eq_true rfl) dX5_wish_58 ⟨Nat.zero_le _, Nat.zero_le _⟩ ?_
        have hf_76 : sortM g sx h 0 < 2147483648 := hg 2 (by decide) _
        refine lv_iconst (v := nI 1) hx hb dX5_wish_61 (by decide) ?_
        refine lv_icmp_eq (tgt := 69) hx hb dX5_wish_62 (by decide) (fun c62_77 => ?_) (fun c62_77 => ?_)
        · have c62_77 : sortM g sx h 0 = 1 := (nI_eqG (a := sortM g sx h 0) (b := 1) (by omega) (by omega)).mp c62_77
          refine lv_iinc (v := nI 1) (lv' := [(7, .int (nI 1)), (6, .int (nI (sortM g sx h 1))), (5, .int (nI (bitsN sx (22 + 2 * h) 2))), (0, .ref (ad 0)), (1, .long (lN sx)), (3, .int (nI h)), (4, .int (nI 1))]) hx hb dX5_wish_69 hl (k := 0) rfl (by decide) (by decide) rfl (fun ls hl => ?_)
          refine lv_goto (tgt := 46) hx hb dX5_wish_72 (by decide) ?_
          refine lv_iload hx hb dX5_wish_46 (lv_at hl 0 rfl) ?_
          refine lv_iload hx hb dX5_wish_48 (lv_at hl 6 rfl) ?_
          refine lv_icmp_ge (tgt := 75) hx hb dX5_wish_50 (by decide) (fun c50_78 => ?_) (fun c50_78 => absurd (by decide) c50_78)
          refine lv_bipush (v := nI 16) hx hb dX5_wish_75 (by decide) ?_
          refine lv_bipush (v := nI 8) hx hb dX5_wish_77 (by decide) ?_
          refine lv_iload_n hx hb dX5_wish_79 rfl (lv_at hl 5 rfl) ?_
          refine lv_imul hx hb dX5_wish_80 ?_
          refine lv_topE (nI (8 * h)) (pk_mul _ _) ?_
          refine lv_iadd hx hb dX5_wish_81 ?_
          refine lv_topE (nI (16 + (8 * h))) (nI_add _ _) ?_
          refine lv_lload_n hx hb dX5_wish_82 rfl (lv_at hl 4 rfl) ?_
          refine lv_bipush (v := nI 26) hx hb dX5_wish_83 (by decide) ?_
          refine lv_bipush (v := nI 9) hx hb dX5_wish_85 (by decide) ?_
          refine lv_iload_n hx hb dX5_wish_87 rfl (lv_at hl 5 rfl) ?_
          refine lv_imul hx hb dX5_wish_88 ?_
          refine lv_topE (nI (9 * h)) (pk_mul _ _) ?_
          refine lv_iadd hx hb dX5_wish_89 ?_
          refine lv_topE (nI (26 + (9 * h))) (nI_add _ _) ?_
          refine lv_iconst (v := nI 3) hx hb dX5_wish_90 (by decide) ?_
          refine lv_iload hx hb dX5_wish_91 (lv_at hl 6 rfl) ?_
          refine lv_imul hx hb dX5_wish_93 ?_
          refine lv_topE (nI 3) (pk_mul _ _) ?_
          refine lv_iadd hx hb dX5_wish_94 ?_
          refine lv_topE (nI ((26 + (9 * h)) + 3)) (nI_add _ _) ?_
          refine lv_iconst (v := nI 3) hx hb dX5_wish_95 (by decide) ?_
          refine cSi (As := [.long (lN sx), .int (nI ((26 + (9 * h)) + 3)), .int (nI 3)]) (rest := [.int (nI (16 + (8 * h)))]) ⟨hx, hb, hml, hown, hts⟩ (c_X5_bits l  sx ((26 + (9 * h)) + 3) 3 (by omega) (by omega) (by omega)) (va_cwS 3 hts (gS mU_503 mU_504 mU_6 mU_505) rfl rfl rfl (by decide +kernel) ⟨Nat.le_of_ble_eq_true rfl, Nat.le_of_ble_eq_true rfl⟩) fbU (fun _ _ _ => trivial) rfl hl.1 rfl (Nat.le_of_ble_eq_true rfl) dX5_wish_96 ⟨Nat.zero_le _, Nat.zero_le _⟩ ?_
          have hf_79 : bitsN sx ((26 + (9 * h)) + 3) 3 < 2 ^ 3 := bitsN_lt _ _ _
          refine lv_iadd hx hb dX5_wish_99 ?_
          refine lv_topE (nI ((16 + (8 * h)) + (bitsN sx ((26 + (9 * h)) + 3) 3))) (nI_add _ _) ?_
          refine lv_istore (lv' := [(7, .int (nI ((16 + (8 * h)) + (bitsN sx ((26 + (9 * h)) + 3) 3)))), (6, .int (nI (sortM g sx h 1))), (5, .int (nI (bitsN sx (22 + 2 * h) 2))), (0, .ref (ad 0)), (1, .long (lN sx)), (3, .int (nI h)), (4, .int (nI 1))]) hx hb dX5_wish_100 hl (by decide) rfl (fun ls hl => ?_)
          refine lv_aload_n hx hb dX5_wish_102 rfl (lv_at hl 3 rfl) ?_
          refine va_get (D := D) (ci := 5) (v := .ref (ad 3)) (C := RX5) (T := TX5) (N := 23) hx hb hU iX5 hown hK hP 0 rfl rfl 2 (by decide) (hU _ mU_77) (fun _ h9 => h9) rfl dX5_wish_103 ?_
          refine lv_iconst (v := nI 4) hx hb dX5_wish_106 (by decide) ?_
          refine lv_iload hx hb dX5_wish_107 (lv_at hl 0 rfl) ?_
          refine lv_imul hx hb dX5_wish_109 ?_
          refine lv_topE (nI (4 * ((16 + (8 * h)) + (bitsN sx ((26 + (9 * h)) + 3) 3)))) (pk_mul _ _) ?_
          refine n_iald hx hb hK hP 3 2 rfl rfl (i := 4 * ((16 + (8 * h)) + (bitsN sx ((26 + (9 * h)) + 3) 3))) (by omega) (by decide) dX5_wish_110 ?_
          have hb_80 := hg 3 (by decide) (4 * ((16 + (8 * h)) + (bitsN sx ((26 + (9 * h)) + 3) 3)))
          refine lv_istore (lv' := [(8, .int (nI ((g 3) (4 * ((16 + (8 * h)) + (bitsN sx ((26 + (9 * h)) + 3) 3)))))), (7, .int (nI ((16 + (8 * h)) + (bitsN sx ((26 + (9 * h)) + 3) 3)))), (6, .int (nI (sortM g sx h 1))), (5, .int (nI (bitsN sx (22 + 2 * h) 2))), (0, .ref (ad 0)), (1, .long (lN sx)), (3, .int (nI h)), (4, .int (nI 1))]) hx hb dX5_wish_111 hl (by decide) rfl (fun ls hl => ?_)
          refine lv_iload hx hb dX5_wish_113 (lv_at hl 2 rfl) ?_
          refine lv_iconst (v := nI 1) hx hb dX5_wish_115 (by decide) ?_
          refine lv_icmp_ne (tgt := 123) hx hb dX5_wish_116 (by decide) (fun c116_81 => ?_) (fun c116_81 => ?_)
          · have c116_81 : ¬ (sortM g sx h 1 = 1) := fun h9 => c116_81 ((nI_eqG (a := sortM g sx h 1) (b := 1) (by omega) (by omega)).mpr h9)
            refine lv_iload hx hb dX5_wish_123 (lv_at hl 2 rfl) ?_
            refine lv_if_ne (tgt := 132) hx hb dX5_wish_125 (by decide) (fun c125_82 => ?_) (fun c125_82 => ?_)
            · have c125_82 : ¬ (sortM g sx h 1 = 0) := fun h9 => c125_82 ((nI_eqG (a := sortM g sx h 1) (b := 0) (by omega) (by omega)).mpr h9)
              refine lv_iconst (v := nI 4) hx hb dX5_wish_132 (by decide) ?_
              refine lv_istore (lv' := [(9, .int (nI 4)), (8, .int (nI ((g 3) (4 * ((16 + (8 * h)) + (bitsN sx ((26 + (9 * h)) + 3) 3)))))), (7, .int (nI ((16 + (8 * h)) + (bitsN sx ((26 + (9 * h)) + 3) 3)))), (6, .int (nI (sortM g sx h 1))), (5, .int (nI (bitsN sx (22 + 2 * h) 2))), (0, .ref (ad 0)), (1, .long (lN sx)), (3, .int (nI h)), (4, .int (nI 1))]) hx hb dX5_wish_133 hl (by decide) rfl (fun ls hl => ?_)
              refine lv_lload_n hx hb dX5_wish_135 rfl (lv_at hl 6 rfl) ?_
              refine lv_bipush (v := nI 46) hx hb dX5_wish_136 (by decide) ?_
              refine lv_iconst (v := nI 2) hx hb dX5_wish_138 (by decide) ?_
              refine cSi (As := [.long (lN sx), .int (nI 46), .int (nI 2)]) (rest := []) ⟨hx, hb, hml, hown, hts⟩ (c_X5_bits l  sx 46 2 (by omega) (by omega) (by omega)) (va_cwS 3 hts (gS mU_503 mU_504 mU_6 mU_505) rfl rfl rfl (by decide +kernel) ⟨Nat.le_of_ble_eq_true rfl, Nat.le_of_ble_eq_true rfl⟩) fbU (fun _ _ _ => trivial) rfl hl.1 rfl (Nat.le_of_ble_eq_true rfl) dX5_wish_139 ⟨Nat.zero_le _, Nat.zero_le _⟩ ?_
              have hf_83 : bitsN sx 46 2 < 2 ^ 2 := bitsN_lt _ _ _
              refine lv_iconst (v := nI 2) hx hb dX5_wish_142 (by decide) ?_
              refine lv_iload_n hx hb dX5_wish_143 rfl (lv_at hl 7 rfl) ?_
              refine lv_isub hx hb dX5_wish_144 ?_
              refine lv_topE (nI (2 - h)) (pk_sub (by omega)) ?_
              refine lv_icmp_eq (tgt := 161) hx hb dX5_wish_145 (by decide) (fun c145_84 => ?_) (fun c145_84 => ?_)
              · have c145_84 : bitsN sx 46 2 = 2 - h := (nI_eqG (a := bitsN sx 46 2) (b := 2 - h) (by omega) (by omega)).mp c145_84
                refine lv_lload_n hx hb dX5_wish_161 rfl (lv_at hl 6 rfl) ?_
                refine lv_iload_n hx hb dX5_wish_162 rfl (lv_at hl 7 rfl) ?_
                refine cSl (As := [.long (lN sx), .int (nI h)]) (rest := []) ⟨hx, hb, hml, hown, hts⟩ (c_X5_broken l  sx h (by omega) (by omega)) (va_cwS 2 hts (gS mU_521 mU_522 mU_6 mU_523) rfl rfl rfl (by decide +kernel) ⟨Nat.le_of_ble_eq_true rfl, Nat.le_of_ble_eq_true rfl⟩) fbU (fun _ _ _ => trivial) rfl hl.1 rfl (Nat.le_of_ble_eq_true rfl) dX5_wish_163 ⟨Nat.zero_le _, Nat.zero_le _⟩ ?_
                have hf_85 : brokenM sx h < 2 ^ 48 := withN_lt (withN_lt (withN_lt (by omega) (by omega) (by omega)) (by omega) (by omega)) (by omega) (by omega)
                subst hQ
                exact rtl hx hb hr hlocks rfl (by first | (unfold wishM; unfold wishM1; unfold wishE; unfold needM; (try first | rw [if_pos c11_71] | rw [if_neg c11_71]); (try first | rw [if_pos c36_74] | rw [if_neg c36_74]); (try first | rw [if_pos c62_77] | rw [if_neg c62_77]); (try first | rw [if_pos c116_81] | rw [if_neg c116_81]); (try first | rw [if_pos c125_82] | rw [if_neg c125_82]); (try first | rw [if_pos c145_84] | rw [if_neg c145_84]); (try rfl); done) | (exfalso; omega)) dX5_wish_166
              · have c145_84 : ¬ (bitsN sx 46 2 = 2 - h) := fun h9 => c145_84 ((nI_eqG (a := bitsN sx 46 2) (b := 2 - h) (by omega) (by omega)).mpr h9)
                refine lv_aload_n hx hb dX5_wish_148 rfl (lv_at hl 5 rfl) ?_
                refine va_get (D := D) (ci := 5) (v := .ref (ad 5)) (C := RX5) (T := TX5) (N := 23) hx hb hU iX5 hown hK hP 0 rfl rfl 4 (by decide) (hU _ mU_79) (fun _ h9 => h9) rfl dX5_wish_149 ?_
                refine lv_iload hx hb dX5_wish_152 (lv_at hl 1 rfl) ?_
                refine n_iald hx hb hK hP 5 4 rfl rfl (i := (g 3) (4 * ((16 + (8 * h)) + (bitsN sx ((26 + (9 * h)) + 3) 3)))) (by omega) (by decide) dX5_wish_154 ?_
                have hb_86 := hg 5 (by decide) ((g 3) (4 * ((16 + (8 * h)) + (bitsN sx ((26 + (9 * h)) + 3) 3))))
                refine lv_iload hx hb dX5_wish_155 (lv_at hl 0 rfl) ?_
                refine lv_iand hx hb dX5_wish_157 ?_
                have hb_87 : ((g 5) ((g 3) (4 * ((16 + (8 * h)) + (bitsN sx ((26 + (9 * h)) + 3) 3))))) &&& 4 ≤ 4 := Nat.and_le_right
                refine lv_topE (nI (((g 5) ((g 3) (4 * ((16 + (8 * h)) + (bitsN sx ((26 + (9 * h)) + 3) 3))))) &&& 4)) (fa_and _ _) ?_
                refine lv_if_ne (tgt := 167) hx hb dX5_wish_158 (by decide) (fun c158_88 => ?_) (fun c158_88 => ?_)
                · have c158_88 : ¬ (((g 5) ((g 3) (4 * ((16 + (8 * h)) + (bitsN sx ((26 + (9 * h)) + 3) 3))))) &&& 4 = 0) := fun h9 => c158_88 ((nI_eqG (a := ((g 5) ((g 3) (4 * ((16 + (8 * h)) + (bitsN sx ((26 + (9 * h)) + 3) 3))))) &&& 4) (b := 0) (by omega) (by omega)).mpr h9)
                  refine lv_lload_n hx hb dX5_wish_167 rfl (lv_at hl 6 rfl) ?_
                  refine lv_bipush (v := nI 22) hx hb dX5_wish_168 (by decide) ?_
                  refine lv_iconst (v := nI 2) hx hb dX5_wish_170 (by decide) ?_
                  refine lv_iload_n hx hb dX5_wish_171 rfl (lv_at hl 7 rfl) ?_
                  refine lv_imul hx hb dX5_wish_172 ?_
                  refine lv_topE (nI (2 * h)) (pk_mul _ _) ?_
                  refine lv_iadd hx hb dX5_wish_173 ?_
                  refine lv_topE (nI (22 + (2 * h))) (nI_add _ _) ?_
                  refine lv_iconst (v := nI 2) hx hb dX5_wish_174 (by decide) ?_
                  refine lv_iload hx hb dX5_wish_175 (lv_at hl 4 rfl) ?_
                  refine lv_iconst (v := nI 1) hx hb dX5_wish_177 (by decide) ?_
                  refine lv_isub hx hb dX5_wish_178 ?_
                  refine lv_topE (nI ((bitsN sx (22 + 2 * h) 2) - 1)) (pk_sub (by omega)) ?_
                  refine cSl (As := [.long (lN sx), .int (nI (22 + (2 * h))), .int (nI 2), .int (nI ((bitsN sx (22 + 2 * h) 2) - 1))]) (rest := []) ⟨hx, hb, hml, hown, hts⟩ (c_X5_with l  sx (22 + (2 * h)) 2 ((bitsN sx (22 + 2 * h) 2) - 1) (by omega) (by omega) (by omega) (by omega)) (va_cwS 4 hts (gS mU_480 mU_481 mU_6 mU_482) rfl rfl rfl (by decide +kernel) ⟨Nat.le_of_ble_eq_true rfl, Nat.le_of_ble_eq_true rfl⟩) fbU (fun _ _ _ => trivial) rfl hl.1 rfl (Nat.le_of_ble_eq_true rfl) dX5_wish_179 ⟨Nat.zero_le _, Nat.zero_le _⟩ ?_
                  have hf_89 : withN sx (22 + (2 * h)) 2 ((bitsN sx (22 + 2 * h) 2) - 1) < 2 ^ 48 := withN_lt (by omega) (by omega) (by omega)
                  refine lv_lstore (lv' := [(10, .long (lN (withN sx (22 + (2 * h)) 2 ((bitsN sx (22 + 2 * h) 2) - 1)))), (9, .int (nI 4)), (8, .int (nI ((g 3) (4 * ((16 + (8 * h)) + (bitsN sx ((26 + (9 * h)) + 3) 3)))))), (7, .int (nI ((16 + (8 * h)) + (bitsN sx ((26 + (9 * h)) + 3) 3)))), (6, .int (nI (sortM g sx h 1))), (5, .int (nI (bitsN sx (22 + 2 * h) 2))), (0, .ref (ad 0)), (1, .long (lN sx)), (3, .int (nI h)), (4, .int (nI 1))]) hx hb dX5_wish_182 hl (by decide) rfl (fun ls hl => ?_)
                  refine lv_iload hx hb dX5_wish_184 (lv_at hl 9 rfl) ?_
                  refine lv_istore (lv' := [(12, .int (nI 1)), (10, .long (lN (withN sx (22 + (2 * h)) 2 ((bitsN sx (22 + 2 * h) 2) - 1)))), (9, .int (nI 4)), (8, .int (nI ((g 3) (4 * ((16 + (8 * h)) + (bitsN sx ((26 + (9 * h)) + 3) 3)))))), (7, .int (nI ((16 + (8 * h)) + (bitsN sx ((26 + (9 * h)) + 3) 3)))), (6, .int (nI (sortM g sx h 1))), (5, .int (nI (bitsN sx (22 + 2 * h) 2))), (0, .ref (ad 0)), (1, .long (lN sx)), (3, .int (nI h)), (4, .int (nI 1))]) hx hb dX5_wish_186 hl (by decide) rfl (fun ls hl => ?_)
                  refine lv_iload hx hb dX5_wish_188 (lv_at hl 0 rfl) ?_
                  refine lv_iconst (v := nI 3) hx hb dX5_wish_190 (by decide) ?_
                  refine lv_icmp_ge (tgt := 249) hx hb dX5_wish_191 (by decide) (fun c191_90 => absurd c191_90 (by decide)) (fun c191_90 => ?_)
                  refine lv_lload hx hb dX5_wish_194 (lv_at hl 1 rfl) ?_
                  refine lv_bipush (v := nI 26) hx hb dX5_wish_196 (by decide) ?_
                  refine lv_bipush (v := nI 9) hx hb dX5_wish_198 (by decide) ?_
                  refine lv_iload_n hx hb dX5_wish_200 rfl (lv_at hl 9 rfl) ?_
                  refine lv_imul hx hb dX5_wish_201 ?_
                  refine lv_topE (nI (9 * h)) (pk_mul _ _) ?_
                  refine lv_iadd hx hb dX5_wish_202 ?_
                  refine lv_topE (nI (26 + (9 * h))) (nI_add _ _) ?_
                  refine lv_iconst (v := nI 3) hx hb dX5_wish_203 (by decide) ?_
                  refine lv_iload hx hb dX5_wish_204 (lv_at hl 0 rfl) ?_
                  refine lv_imul hx hb dX5_wish_206 ?_
                  refine lv_topE (nI 3) (pk_mul _ _) ?_
                  refine lv_iadd hx hb dX5_wish_207 ?_
                  refine lv_topE (nI ((26 + (9 * h)) + 3)) (nI_add _ _) ?_
                  refine lv_iconst (v := nI 3) hx hb dX5_wish_208 (by decide) ?_
                  refine lv_iload hx hb dX5_wish_209 (lv_at hl 0 rfl) ?_
                  refine lv_iconst (v := nI 2) hx hb dX5_wish_211 (by decide) ?_
                  refine lv_icmp_ge (tgt := 237) hx hb dX5_wish_212 (by decide) (fun c212_91 => absurd c212_91 (by decide)) (fun c212_91 => ?_)
                  refine lv_lload_n hx hb dX5_wish_215 rfl (lv_at hl 8 rfl) ?_
                  refine lv_bipush (v := nI 26) hx hb dX5_wish_216 (by decide) ?_
                  refine lv_bipush (v := nI 9) hx hb dX5_wish_218 (by decide) ?_
                  refine lv_iload_n hx hb dX5_wish_220 rfl (lv_at hl 9 rfl) ?_
                  refine lv_imul hx hb dX5_wish_221 ?_
                  refine lv_topE (nI (9 * h)) (pk_mul _ _) ?_
                  refine lv_iadd hx hb dX5_wish_222 ?_
                  refine lv_topE (nI (26 + (9 * h))) (nI_add _ _) ?_
                  refine lv_iconst (v := nI 3) hx hb dX5_wish_223 (by decide) ?_
                  refine lv_iload hx hb dX5_wish_224 (lv_at hl 0 rfl) ?_
                  refine lv_imul hx hb dX5_wish_226 ?_
                  refine lv_topE (nI 3) (pk_mul _ _) ?_
                  refine lv_iadd hx hb dX5_wish_227 ?_
                  refine lv_topE (nI ((26 + (9 * h)) + 3)) (nI_add _ _) ?_
                  refine lv_iconst (v := nI 3) hx hb dX5_wish_228 (by decide) ?_
                  refine lv_iadd hx hb dX5_wish_229 ?_
                  refine lv_topE (nI (((26 + (9 * h)) + 3) + 3)) (nI_add _ _) ?_
                  refine lv_iconst (v := nI 3) hx hb dX5_wish_230 (by decide) ?_
                  refine cSi (As := [.long (lN sx), .int (nI (((26 + (9 * h)) + 3) + 3)), .int (nI 3)]) (rest := [.int (nI 3), .int (nI ((26 + (9 * h)) + 3)), .long (lN (withN sx (22 + (2 * h)) 2 ((bitsN sx (22 + 2 * h) 2) - 1)))]) ⟨hx, hb, hml, hown, hts⟩ (c_X5_bits l  sx (((26 + (9 * h)) + 3) + 3) 3 (by omega) (by omega) (by omega)) (va_cwS 3 hts (gS mU_503 mU_504 mU_6 mU_505) rfl rfl rfl (by decide +kernel) ⟨Nat.le_of_ble_eq_true rfl, Nat.le_of_ble_eq_true rfl⟩) fbU (fun _ _ _ => trivial) rfl hl.1 rfl (Nat.le_of_ble_eq_true rfl) dX5_wish_231 ⟨Nat.zero_le _, Nat.zero_le _⟩ ?_
                  have hf_92 : bitsN sx (((26 + (9 * h)) + 3) + 3) 3 < 2 ^ 3 := bitsN_lt _ _ _
                  refine lv_goto (tgt := 238) hx hb dX5_wish_234 (by decide) ?_
                  refine cSl (As := [.long (lN (withN sx (22 + (2 * h)) 2 ((bitsN sx (22 + 2 * h) 2) - 1))), .int (nI ((26 + (9 * h)) + 3)), .int (nI 3), .int (nI (bitsN sx (((26 + (9 * h)) + 3) + 3) 3))]) (rest := []) ⟨hx, hb, hml, hown, hts⟩ (c_X5_with l  (withN sx (22 + (2 * h)) 2 ((bitsN sx (22 + 2 * h) 2) - 1)) ((26 + (9 * h)) + 3) 3 (bitsN sx (((26 + (9 * h)) + 3) + 3) 3) (by omega) (by omega) (by omega) (by omega)) (va_cwS 4 hts (gS mU_480 mU_481 mU_6 mU_482) rfl rfl rfl (by decide +kernel) ⟨Nat.le_of_ble_eq_true rfl, Nat.le_of_ble_eq_true rfl⟩) fbU (fun _ _ _ => trivial) rfl hl.1 rfl (Nat.le_of_ble_eq_true rfl) dX5_wish_238 ⟨Nat.zero_le _, Nat.zero_le _⟩ ?_
                  have hf_93 : withN (withN sx (22 + (2 * h)) 2 ((bitsN sx (22 + 2 * h) 2) - 1)) ((26 + (9 * h)) + 3) 3 (bitsN sx (((26 + (9 * h)) + 3) + 3) 3) < 2 ^ 48 := withN_lt (by omega) (by omega) (by omega)
                  refine lv_lstore (lv' := [(10, .long (lN (withN (withN sx (22 + (2 * h)) 2 ((bitsN sx (22 + 2 * h) 2) - 1)) ((26 + (9 * h)) + 3) 3 (bitsN sx (((26 + (9 * h)) + 3) + 3) 3)))), (12, .int (nI 1)), (9, .int (nI 4)), (8, .int (nI ((g 3) (4 * ((16 + (8 * h)) + (bitsN sx ((26 + (9 * h)) + 3) 3)))))), (7, .int (nI ((16 + (8 * h)) + (bitsN sx ((26 + (9 * h)) + 3) 3)))), (6, .int (nI (sortM g sx h 1))), (5, .int (nI (bitsN sx (22 + 2 * h) 2))), (0, .ref (ad 0)), (1, .long (lN sx)), (3, .int (nI h)), (4, .int (nI 1))]) hx hb dX5_wish_241 hl (by decide) rfl (fun ls hl => ?_)
                  refine lv_iinc (v := nI 2) (lv' := [(12, .int (nI 2)), (10, .long (lN (withN (withN sx (22 + (2 * h)) 2 ((bitsN sx (22 + 2 * h) 2) - 1)) ((26 + (9 * h)) + 3) 3 (bitsN sx (((26 + (9 * h)) + 3) + 3) 3)))), (9, .int (nI 4)), (8, .int (nI ((g 3) (4 * ((16 + (8 * h)) + (bitsN sx ((26 + (9 * h)) + 3) 3)))))), (7, .int (nI ((16 + (8 * h)) + (bitsN sx ((26 + (9 * h)) + 3) 3)))), (6, .int (nI (sortM g sx h 1))), (5, .int (nI (bitsN sx (22 + 2 * h) 2))), (0, .ref (ad 0)), (1, .long (lN sx)), (3, .int (nI h)), (4, .int (nI 1))]) hx hb dX5_wish_243 hl (k := 1) rfl (by decide) (by decide) rfl (fun ls hl => ?_)
                  refine lv_goto (tgt := 188) hx hb dX5_wish_246 (by decide) ?_
                  refine lv_iload hx hb dX5_wish_188 (lv_at hl 0 rfl) ?_
                  refine lv_iconst (v := nI 3) hx hb dX5_wish_190 (by decide) ?_
                  refine lv_icmp_ge (tgt := 249) hx hb dX5_wish_191 (by decide) (fun c191_94 => absurd c191_94 (by decide)) (fun c191_94 => ?_)
                  refine lv_lload hx hb dX5_wish_194 (lv_at hl 1 rfl) ?_
                  refine lv_bipush (v := nI 26) hx hb dX5_wish_196 (by decide) ?_
                  refine lv_bipush (v := nI 9) hx hb dX5_wish_198 (by decide) ?_
                  refine lv_iload_n hx hb dX5_wish_200 rfl (lv_at hl 9 rfl) ?_
                  refine lv_imul hx hb dX5_wish_201 ?_
                  refine lv_topE (nI (9 * h)) (pk_mul _ _) ?_
                  refine lv_iadd hx hb dX5_wish_202 ?_
                  refine lv_topE (nI (26 + (9 * h))) (nI_add _ _) ?_
                  refine lv_iconst (v := nI 3) hx hb dX5_wish_203 (by decide) ?_
                  refine lv_iload hx hb dX5_wish_204 (lv_at hl 0 rfl) ?_
                  refine lv_imul hx hb dX5_wish_206 ?_
                  refine lv_topE (nI 6) (pk_mul _ _) ?_
                  refine lv_iadd hx hb dX5_wish_207 ?_
                  refine lv_topE (nI ((26 + (9 * h)) + 6)) (nI_add _ _) ?_
                  refine lv_iconst (v := nI 3) hx hb dX5_wish_208 (by decide) ?_
                  refine lv_iload hx hb dX5_wish_209 (lv_at hl 0 rfl) ?_
                  refine lv_iconst (v := nI 2) hx hb dX5_wish_211 (by decide) ?_
                  refine lv_icmp_ge (tgt := 237) hx hb dX5_wish_212 (by decide) (fun c212_95 => ?_) (fun c212_95 => absurd (by decide) c212_95)
                  refine lv_iconst (v := nI 0) hx hb dX5_wish_237 (by decide) ?_
                  refine cSl (As := [.long (lN (withN (withN sx (22 + (2 * h)) 2 ((bitsN sx (22 + 2 * h) 2) - 1)) ((26 + (9 * h)) + 3) 3 (bitsN sx (((26 + (9 * h)) + 3) + 3) 3))), .int (nI ((26 + (9 * h)) + 6)), .int (nI 3), .int (nI 0)]) (rest := []) ⟨hx, hb, hml, hown, hts⟩ (c_X5_with l  (withN (withN sx (22 + (2 * h)) 2 ((bitsN sx (22 + 2 * h) 2) - 1)) ((26 + (9 * h)) + 3) 3 (bitsN sx (((26 + (9 * h)) + 3) + 3) 3)) ((26 + (9 * h)) + 6) 3 0 (by omega) (by omega) (by omega) (by omega)) (va_cwS 4 hts (gS mU_480 mU_481 mU_6 mU_482) rfl rfl rfl (by decide +kernel) ⟨Nat.le_of_ble_eq_true rfl, Nat.le_of_ble_eq_true rfl⟩) fbU (fun _ _ _ => trivial) rfl hl.1 rfl (Nat.le_of_ble_eq_true rfl) dX5_wish_238 ⟨Nat.zero_le _, Nat.zero_le _⟩ ?_
                  have hf_96 : withN (withN (withN sx (22 + (2 * h)) 2 ((bitsN sx (22 + 2 * h) 2) - 1)) ((26 + (9 * h)) + 3) 3 (bitsN sx (((26 + (9 * h)) + 3) + 3) 3)) ((26 + (9 * h)) + 6) 3 0 < 2 ^ 48 := withN_lt (by omega) (by omega) (by omega)
                  refine lv_lstore (lv' := [(10, .long (lN (withN (withN (withN sx (22 + (2 * h)) 2 ((bitsN sx (22 + 2 * h) 2) - 1)) ((26 + (9 * h)) + 3) 3 (bitsN sx (((26 + (9 * h)) + 3) + 3) 3)) ((26 + (9 * h)) + 6) 3 0))), (12, .int (nI 2)), (9, .int (nI 4)), (8, .int (nI ((g 3) (4 * ((16 + (8 * h)) + (bitsN sx ((26 + (9 * h)) + 3) 3)))))), (7, .int (nI ((16 + (8 * h)) + (bitsN sx ((26 + (9 * h)) + 3) 3)))), (6, .int (nI (sortM g sx h 1))), (5, .int (nI (bitsN sx (22 + 2 * h) 2))), (0, .ref (ad 0)), (1, .long (lN sx)), (3, .int (nI h)), (4, .int (nI 1))]) hx hb dX5_wish_241 hl (by decide) rfl (fun ls hl => ?_)
                  refine lv_iinc (v := nI 3) (lv' := [(12, .int (nI 3)), (10, .long (lN (withN (withN (withN sx (22 + (2 * h)) 2 ((bitsN sx (22 + 2 * h) 2) - 1)) ((26 + (9 * h)) + 3) 3 (bitsN sx (((26 + (9 * h)) + 3) + 3) 3)) ((26 + (9 * h)) + 6) 3 0))), (9, .int (nI 4)), (8, .int (nI ((g 3) (4 * ((16 + (8 * h)) + (bitsN sx ((26 + (9 * h)) + 3) 3)))))), (7, .int (nI ((16 + (8 * h)) + (bitsN sx ((26 + (9 * h)) + 3) 3)))), (6, .int (nI (sortM g sx h 1))), (5, .int (nI (bitsN sx (22 + 2 * h) 2))), (0, .ref (ad 0)), (1, .long (lN sx)), (3, .int (nI h)), (4, .int (nI 1))]) hx hb dX5_wish_243 hl (k := 1) rfl (by decide) (by decide) rfl (fun ls hl => ?_)
                  refine lv_goto (tgt := 188) hx hb dX5_wish_246 (by decide) ?_
                  refine lv_iload hx hb dX5_wish_188 (lv_at hl 0 rfl) ?_
                  refine lv_iconst (v := nI 3) hx hb dX5_wish_190 (by decide) ?_
                  refine lv_icmp_ge (tgt := 249) hx hb dX5_wish_191 (by decide) (fun c191_97 => ?_) (fun c191_97 => absurd (by decide) c191_97)
                  refine lv_aload_n hx hb dX5_wish_249 rfl (lv_at hl 7 rfl) ?_
                  refine lv_lload hx hb dX5_wish_250 (lv_at hl 1 rfl) ?_
                  refine lv_iload_n hx hb dX5_wish_252 rfl (lv_at hl 9 rfl) ?_
                  refine lv_iload hx hb dX5_wish_253 (lv_at hl 5 rfl) ?_
                  refine lv_iload hx hb dX5_wish_255 (lv_at hl 4 rfl) ?_
                  refine cVl (As := [.long (lN (withN (withN (withN sx (22 + (2 * h)) 2 ((bitsN sx (22 + 2 * h) 2) - 1)) ((26 + (9 * h)) + 3) 3 (bitsN sx (((26 + (9 * h)) + 3) + 3) 3)) ((26 + (9 * h)) + 6) 3 0)), .int (nI h), .int (nI (sortM g sx h 1)), .int (nI ((16 + (8 * h)) + (bitsN sx ((26 + (9 * h)) + 3) 3)))]) (rest := []) ⟨hx, hb, hml, hown, hts⟩ (c_X5_act l D ad ka f g t (withN (withN (withN sx (22 + (2 * h)) 2 ((bitsN sx (22 + 2 * h) 2) - 1)) ((26 + (9 * h)) + 3) 3 (bitsN sx (((26 + (9 * h)) + 3) + 3) 3)) ((26 + (9 * h)) + 6) 3 0) h (sortM g sx h 1) ((16 + (8 * h)) + (bitsN sx ((26 + (9 * h)) + 3) 3)) (hg) (by omega) (by omega) (by omega) (by omega) (hokq)) (cwV 4 hts (gV mU_524 mU_525 mU_526 mU_6 mU_527) rfl rfl rfl (by decide +kernel) ⟨Nat.le_of_ble_eq_true rfl, Nat.le_of_ble_eq_true rfl⟩) fbR (va_recv hK hP (ci := 5) (q0 := 0) rfl rfl) (PR.of hP hK) rfl hl.1 rfl (Nat.le_of_ble_eq_true rfl) dX5_wish_257 ⟨Nat.zero_le _, Nat.zero_le _⟩ ?_
                  subst hQ
                  exact rtl hx hb hr hlocks rfl (by first | (unfold wishM; unfold wishM1; unfold wishE; unfold needM; unfold shiftM; (try first | rw [if_pos c11_71] | rw [if_neg c11_71]); (try first | rw [if_pos c36_74] | rw [if_neg c36_74]); (try first | rw [if_pos c62_77] | rw [if_neg c62_77]); (try first | rw [if_pos c116_81] | rw [if_neg c116_81]); (try first | rw [if_pos c125_82] | rw [if_neg c125_82]); (try first | rw [if_pos c145_84] | rw [if_neg c145_84]); (try first | rw [if_pos c158_88] | rw [if_neg c158_88]); (try rfl); done) | (exfalso; omega)) dX5_wish_260
                · have c158_88 : ((g 5) ((g 3) (4 * ((16 + (8 * h)) + (bitsN sx ((26 + (9 * h)) + 3) 3))))) &&& 4 = 0 := (nI_eqG (a := ((g 5) ((g 3) (4 * ((16 + (8 * h)) + (bitsN sx ((26 + (9 * h)) + 3) 3))))) &&& 4) (b := 0) (by omega) (by omega)).mp c158_88
                  refine lv_lload_n hx hb dX5_wish_161 rfl (lv_at hl 6 rfl) ?_
                  refine lv_iload_n hx hb dX5_wish_162 rfl (lv_at hl 7 rfl) ?_
                  refine cSl (As := [.long (lN sx), .int (nI h)]) (rest := []) ⟨hx, hb, hml, hown, hts⟩ (c_X5_broken l  sx h (by omega) (by omega)) (va_cwS 2 hts (gS mU_521 mU_522 mU_6 mU_523) rfl rfl rfl (by decide +kernel) ⟨Nat.le_of_ble_eq_true rfl, Nat.le_of_ble_eq_true rfl⟩) fbU (fun _ _ _ => trivial) rfl hl.1 rfl (Nat.le_of_ble_eq_true rfl) dX5_wish_163 ⟨Nat.zero_le _, Nat.zero_le _⟩ ?_
                  have hf_98 : brokenM sx h < 2 ^ 48 := withN_lt (withN_lt (withN_lt (by omega) (by omega) (by omega)) (by omega) (by omega)) (by omega) (by omega)
                  subst hQ
                  exact rtl hx hb hr hlocks rfl (by first | (unfold wishM; unfold wishM1; unfold wishE; unfold needM; (try first | rw [if_pos c11_71] | rw [if_neg c11_71]); (try first | rw [if_pos c36_74] | rw [if_neg c36_74]); (try first | rw [if_pos c62_77] | rw [if_neg c62_77]); (try first | rw [if_pos c116_81] | rw [if_neg c116_81]); (try first | rw [if_pos c125_82] | rw [if_neg c125_82]); (try first | rw [if_pos c145_84] | rw [if_neg c145_84]); (try first | rw [if_pos c158_88] | rw [if_neg c158_88]); (try rfl); done) | (exfalso; omega)) dX5_wish_166
            · have c125_82 : sortM g sx h 1 = 0 := (nI_eqG (a := sortM g sx h 1) (b := 0) (by omega) (by omega)).mp c125_82
              refine lv_iconst (v := nI 2) hx hb dX5_wish_128 (by decide) ?_
              refine lv_goto (tgt := 133) hx hb dX5_wish_129 (by decide) ?_
              refine lv_istore (lv' := [(9, .int (nI 2)), (8, .int (nI ((g 3) (4 * ((16 + (8 * h)) + (bitsN sx ((26 + (9 * h)) + 3) 3)))))), (7, .int (nI ((16 + (8 * h)) + (bitsN sx ((26 + (9 * h)) + 3) 3)))), (6, .int (nI (sortM g sx h 1))), (5, .int (nI (bitsN sx (22 + 2 * h) 2))), (0, .ref (ad 0)), (1, .long (lN sx)), (3, .int (nI h)), (4, .int (nI 1))]) hx hb dX5_wish_133 hl (by decide) rfl (fun ls hl => ?_)
              refine lv_lload_n hx hb dX5_wish_135 rfl (lv_at hl 6 rfl) ?_
              refine lv_bipush (v := nI 46) hx hb dX5_wish_136 (by decide) ?_
              refine lv_iconst (v := nI 2) hx hb dX5_wish_138 (by decide) ?_
              refine cSi (As := [.long (lN sx), .int (nI 46), .int (nI 2)]) (rest := []) ⟨hx, hb, hml, hown, hts⟩ (c_X5_bits l  sx 46 2 (by omega) (by omega) (by omega)) (va_cwS 3 hts (gS mU_503 mU_504 mU_6 mU_505) rfl rfl rfl (by decide +kernel) ⟨Nat.le_of_ble_eq_true rfl, Nat.le_of_ble_eq_true rfl⟩) fbU (fun _ _ _ => trivial) rfl hl.1 rfl (Nat.le_of_ble_eq_true rfl) dX5_wish_139 ⟨Nat.zero_le _, Nat.zero_le _⟩ ?_
              have hf_99 : bitsN sx 46 2 < 2 ^ 2 := bitsN_lt _ _ _
              refine lv_iconst (v := nI 2) hx hb dX5_wish_142 (by decide) ?_
              refine lv_iload_n hx hb dX5_wish_143 rfl (lv_at hl 7 rfl) ?_
              refine lv_isub hx hb dX5_wish_144 ?_
              refine lv_topE (nI (2 - h)) (pk_sub (by omega)) ?_
              refine lv_icmp_eq (tgt := 161) hx hb dX5_wish_145 (by decide) (fun c145_100 => ?_) (fun c145_100 => ?_)
              · have c145_100 : bitsN sx 46 2 = 2 - h := (nI_eqG (a := bitsN sx 46 2) (b := 2 - h) (by omega) (by omega)).mp c145_100
                refine lv_lload_n hx hb dX5_wish_161 rfl (lv_at hl 6 rfl) ?_
                refine lv_iload_n hx hb dX5_wish_162 rfl (lv_at hl 7 rfl) ?_
                refine cSl (As := [.long (lN sx), .int (nI h)]) (rest := []) ⟨hx, hb, hml, hown, hts⟩ (c_X5_broken l  sx h (by omega) (by omega)) (va_cwS 2 hts (gS mU_521 mU_522 mU_6 mU_523) rfl rfl rfl (by decide +kernel) ⟨Nat.le_of_ble_eq_true rfl, Nat.le_of_ble_eq_true rfl⟩) fbU (fun _ _ _ => trivial) rfl hl.1 rfl (Nat.le_of_ble_eq_true rfl) dX5_wish_163 ⟨Nat.zero_le _, Nat.zero_le _⟩ ?_
                have hf_101 : brokenM sx h < 2 ^ 48 := withN_lt (withN_lt (withN_lt (by omega) (by omega) (by omega)) (by omega) (by omega)) (by omega) (by omega)
                subst hQ
                exact rtl hx hb hr hlocks rfl (by first | (unfold wishM; unfold wishM1; unfold wishE; unfold needM; (try first | rw [if_pos c11_71] | rw [if_neg c11_71]); (try first | rw [if_pos c36_74] | rw [if_neg c36_74]); (try first | rw [if_pos c62_77] | rw [if_neg c62_77]); (try first | rw [if_pos c116_81] | rw [if_neg c116_81]); (try first | rw [if_pos c125_82] | rw [if_neg c125_82]); (try first | rw [if_pos c145_100] | rw [if_neg c145_100]); (try rfl); done) | (exfalso; omega)) dX5_wish_166
              · have c145_100 : ¬ (bitsN sx 46 2 = 2 - h) := fun h9 => c145_100 ((nI_eqG (a := bitsN sx 46 2) (b := 2 - h) (by omega) (by omega)).mpr h9)
                refine lv_aload_n hx hb dX5_wish_148 rfl (lv_at hl 5 rfl) ?_
                refine va_get (D := D) (ci := 5) (v := .ref (ad 5)) (C := RX5) (T := TX5) (N := 23) hx hb hU iX5 hown hK hP 0 rfl rfl 4 (by decide) (hU _ mU_79) (fun _ h9 => h9) rfl dX5_wish_149 ?_
                refine lv_iload hx hb dX5_wish_152 (lv_at hl 1 rfl) ?_
                refine n_iald hx hb hK hP 5 4 rfl rfl (i := (g 3) (4 * ((16 + (8 * h)) + (bitsN sx ((26 + (9 * h)) + 3) 3)))) (by omega) (by decide) dX5_wish_154 ?_
                have hb_102 := hg 5 (by decide) ((g 3) (4 * ((16 + (8 * h)) + (bitsN sx ((26 + (9 * h)) + 3) 3))))
                refine lv_iload hx hb dX5_wish_155 (lv_at hl 0 rfl) ?_
                refine lv_iand hx hb dX5_wish_157 ?_
                have hb_103 : ((g 5) ((g 3) (4 * ((16 + (8 * h)) + (bitsN sx ((26 + (9 * h)) + 3) 3))))) &&& 2 ≤ 2 := Nat.and_le_right
                refine lv_topE (nI (((g 5) ((g 3) (4 * ((16 + (8 * h)) + (bitsN sx ((26 + (9 * h)) + 3) 3))))) &&& 2)) (fa_and _ _) ?_
                refine lv_if_ne (tgt := 167) hx hb dX5_wish_158 (by decide) (fun c158_104 => ?_) (fun c158_104 => ?_)
                · have c158_104 : ¬ (((g 5) ((g 3) (4 * ((16 + (8 * h)) + (bitsN sx ((26 + (9 * h)) + 3) 3))))) &&& 2 = 0) := fun h9 => c158_104 ((nI_eqG (a := ((g 5) ((g 3) (4 * ((16 + (8 * h)) + (bitsN sx ((26 + (9 * h)) + 3) 3))))) &&& 2) (b := 0) (by omega) (by omega)).mpr h9)
                  refine lv_lload_n hx hb dX5_wish_167 rfl (lv_at hl 6 rfl) ?_
                  refine lv_bipush (v := nI 22) hx hb dX5_wish_168 (by decide) ?_
                  refine lv_iconst (v := nI 2) hx hb dX5_wish_170 (by decide) ?_
                  refine lv_iload_n hx hb dX5_wish_171 rfl (lv_at hl 7 rfl) ?_
                  refine lv_imul hx hb dX5_wish_172 ?_
                  refine lv_topE (nI (2 * h)) (pk_mul _ _) ?_
                  refine lv_iadd hx hb dX5_wish_173 ?_
                  refine lv_topE (nI (22 + (2 * h))) (nI_add _ _) ?_
                  refine lv_iconst (v := nI 2) hx hb dX5_wish_174 (by decide) ?_
                  refine lv_iload hx hb dX5_wish_175 (lv_at hl 4 rfl) ?_
                  refine lv_iconst (v := nI 1) hx hb dX5_wish_177 (by decide) ?_
                  refine lv_isub hx hb dX5_wish_178 ?_
                  refine lv_topE (nI ((bitsN sx (22 + 2 * h) 2) - 1)) (pk_sub (by omega)) ?_
                  refine cSl (As := [.long (lN sx), .int (nI (22 + (2 * h))), .int (nI 2), .int (nI ((bitsN sx (22 + 2 * h) 2) - 1))]) (rest := []) ⟨hx, hb, hml, hown, hts⟩ (c_X5_with l  sx (22 + (2 * h)) 2 ((bitsN sx (22 + 2 * h) 2) - 1) (by omega) (by omega) (by omega) (by omega)) (va_cwS 4 hts (gS mU_480 mU_481 mU_6 mU_482) rfl rfl rfl (by decide +kernel) ⟨Nat.le_of_ble_eq_true rfl, Nat.le_of_ble_eq_true rfl⟩) fbU (fun _ _ _ => trivial) rfl hl.1 rfl (Nat.le_of_ble_eq_true rfl) dX5_wish_179 ⟨Nat.zero_le _, Nat.zero_le _⟩ ?_
                  have hf_105 : withN sx (22 + (2 * h)) 2 ((bitsN sx (22 + 2 * h) 2) - 1) < 2 ^ 48 := withN_lt (by omega) (by omega) (by omega)
                  refine lv_lstore (lv' := [(10, .long (lN (withN sx (22 + (2 * h)) 2 ((bitsN sx (22 + 2 * h) 2) - 1)))), (9, .int (nI 2)), (8, .int (nI ((g 3) (4 * ((16 + (8 * h)) + (bitsN sx ((26 + (9 * h)) + 3) 3)))))), (7, .int (nI ((16 + (8 * h)) + (bitsN sx ((26 + (9 * h)) + 3) 3)))), (6, .int (nI (sortM g sx h 1))), (5, .int (nI (bitsN sx (22 + 2 * h) 2))), (0, .ref (ad 0)), (1, .long (lN sx)), (3, .int (nI h)), (4, .int (nI 1))]) hx hb dX5_wish_182 hl (by decide) rfl (fun ls hl => ?_)
                  refine lv_iload hx hb dX5_wish_184 (lv_at hl 9 rfl) ?_
                  refine lv_istore (lv' := [(12, .int (nI 1)), (10, .long (lN (withN sx (22 + (2 * h)) 2 ((bitsN sx (22 + 2 * h) 2) - 1)))), (9, .int (nI 2)), (8, .int (nI ((g 3) (4 * ((16 + (8 * h)) + (bitsN sx ((26 + (9 * h)) + 3) 3)))))), (7, .int (nI ((16 + (8 * h)) + (bitsN sx ((26 + (9 * h)) + 3) 3)))), (6, .int (nI (sortM g sx h 1))), (5, .int (nI (bitsN sx (22 + 2 * h) 2))), (0, .ref (ad 0)), (1, .long (lN sx)), (3, .int (nI h)), (4, .int (nI 1))]) hx hb dX5_wish_186 hl (by decide) rfl (fun ls hl => ?_)
                  refine lv_iload hx hb dX5_wish_188 (lv_at hl 0 rfl) ?_
                  refine lv_iconst (v := nI 3) hx hb dX5_wish_190 (by decide) ?_
                  refine lv_icmp_ge (tgt := 249) hx hb dX5_wish_191 (by decide) (fun c191_106 => absurd c191_106 (by decide)) (fun c191_106 => ?_)
                  refine lv_lload hx hb dX5_wish_194 (lv_at hl 1 rfl) ?_
                  refine lv_bipush (v := nI 26) hx hb dX5_wish_196 (by decide) ?_
                  refine lv_bipush (v := nI 9) hx hb dX5_wish_198 (by decide) ?_
                  refine lv_iload_n hx hb dX5_wish_200 rfl (lv_at hl 9 rfl) ?_
                  refine lv_imul hx hb dX5_wish_201 ?_
                  refine lv_topE (nI (9 * h)) (pk_mul _ _) ?_
                  refine lv_iadd hx hb dX5_wish_202 ?_
                  refine lv_topE (nI (26 + (9 * h))) (nI_add _ _) ?_
                  refine lv_iconst (v := nI 3) hx hb dX5_wish_203 (by decide) ?_
                  refine lv_iload hx hb dX5_wish_204 (lv_at hl 0 rfl) ?_
                  refine lv_imul hx hb dX5_wish_206 ?_
                  refine lv_topE (nI 3) (pk_mul _ _) ?_
                  refine lv_iadd hx hb dX5_wish_207 ?_
                  refine lv_topE (nI ((26 + (9 * h)) + 3)) (nI_add _ _) ?_
                  refine lv_iconst (v := nI 3) hx hb dX5_wish_208 (by decide) ?_
                  refine lv_iload hx hb dX5_wish_209 (lv_at hl 0 rfl) ?_
                  refine lv_iconst (v := nI 2) hx hb dX5_wish_211 (by decide) ?_
                  refine lv_icmp_ge (tgt := 237) hx hb dX5_wish_212 (by decide) (fun c212_107 => absurd c212_107 (by decide)) (fun c212_107 => ?_)
                  refine lv_lload_n hx hb dX5_wish_215 rfl (lv_at hl 8 rfl) ?_
                  refine lv_bipush (v := nI 26) hx hb dX5_wish_216 (by decide) ?_
                  refine lv_bipush (v := nI 9) hx hb dX5_wish_218 (by decide) ?_
                  refine lv_iload_n hx hb dX5_wish_220 rfl (lv_at hl 9 rfl) ?_
                  refine lv_imul hx hb dX5_wish_221 ?_
                  refine lv_topE (nI (9 * h)) (pk_mul _ _) ?_
                  refine lv_iadd hx hb dX5_wish_222 ?_
                  refine lv_topE (nI (26 + (9 * h))) (nI_add _ _) ?_
                  refine lv_iconst (v := nI 3) hx hb dX5_wish_223 (by decide) ?_
                  refine lv_iload hx hb dX5_wish_224 (lv_at hl 0 rfl) ?_
                  refine lv_imul hx hb dX5_wish_226 ?_
                  refine lv_topE (nI 3) (pk_mul _ _) ?_
                  refine lv_iadd hx hb dX5_wish_227 ?_
                  refine lv_topE (nI ((26 + (9 * h)) + 3)) (nI_add _ _) ?_
                  refine lv_iconst (v := nI 3) hx hb dX5_wish_228 (by decide) ?_
                  refine lv_iadd hx hb dX5_wish_229 ?_
                  refine lv_topE (nI (((26 + (9 * h)) + 3) + 3)) (nI_add _ _) ?_
                  refine lv_iconst (v := nI 3) hx hb dX5_wish_230 (by decide) ?_
                  refine cSi (As := [.long (lN sx), .int (nI (((26 + (9 * h)) + 3) + 3)), .int (nI 3)]) (rest := [.int (nI 3), .int (nI ((26 + (9 * h)) + 3)), .long (lN (withN sx (22 + (2 * h)) 2 ((bitsN sx (22 + 2 * h) 2) - 1)))]) ⟨hx, hb, hml, hown, hts⟩ (c_X5_bits l  sx (((26 + (9 * h)) + 3) + 3) 3 (by omega) (by omega) (by omega)) (va_cwS 3 hts (gS mU_503 mU_504 mU_6 mU_505) rfl rfl rfl (by decide +kernel) ⟨Nat.le_of_ble_eq_true rfl, Nat.le_of_ble_eq_true rfl⟩) fbU (fun _ _ _ => trivial) rfl hl.1 rfl (Nat.le_of_ble_eq_true rfl) dX5_wish_231 ⟨Nat.zero_le _, Nat.zero_le _⟩ ?_
                  have hf_108 : bitsN sx (((26 + (9 * h)) + 3) + 3) 3 < 2 ^ 3 := bitsN_lt _ _ _
                  refine lv_goto (tgt := 238) hx hb dX5_wish_234 (by decide) ?_
                  refine cSl (As := [.long (lN (withN sx (22 + (2 * h)) 2 ((bitsN sx (22 + 2 * h) 2) - 1))), .int (nI ((26 + (9 * h)) + 3)), .int (nI 3), .int (nI (bitsN sx (((26 + (9 * h)) + 3) + 3) 3))]) (rest := []) ⟨hx, hb, hml, hown, hts⟩ (c_X5_with l  (withN sx (22 + (2 * h)) 2 ((bitsN sx (22 + 2 * h) 2) - 1)) ((26 + (9 * h)) + 3) 3 (bitsN sx (((26 + (9 * h)) + 3) + 3) 3) (by omega) (by omega) (by omega) (by omega)) (va_cwS 4 hts (gS mU_480 mU_481 mU_6 mU_482) rfl rfl rfl (by decide +kernel) ⟨Nat.le_of_ble_eq_true rfl, Nat.le_of_ble_eq_true rfl⟩) fbU (fun _ _ _ => trivial) rfl hl.1 rfl (Nat.le_of_ble_eq_true rfl) dX5_wish_238 ⟨Nat.zero_le _, Nat.zero_le _⟩ ?_
                  have hf_109 : withN (withN sx (22 + (2 * h)) 2 ((bitsN sx (22 + 2 * h) 2) - 1)) ((26 + (9 * h)) + 3) 3 (bitsN sx (((26 + (9 * h)) + 3) + 3) 3) < 2 ^ 48 := withN_lt (by omega) (by omega) (by omega)
                  refine lv_lstore (lv' := [(10, .long (lN (withN (withN sx (22 + (2 * h)) 2 ((bitsN sx (22 + 2 * h) 2) - 1)) ((26 + (9 * h)) + 3) 3 (bitsN sx (((26 + (9 * h)) + 3) + 3) 3)))), (12, .int (nI 1)), (9, .int (nI 2)), (8, .int (nI ((g 3) (4 * ((16 + (8 * h)) + (bitsN sx ((26 + (9 * h)) + 3) 3)))))), (7, .int (nI ((16 + (8 * h)) + (bitsN sx ((26 + (9 * h)) + 3) 3)))), (6, .int (nI (sortM g sx h 1))), (5, .int (nI (bitsN sx (22 + 2 * h) 2))), (0, .ref (ad 0)), (1, .long (lN sx)), (3, .int (nI h)), (4, .int (nI 1))]) hx hb dX5_wish_241 hl (by decide) rfl (fun ls hl => ?_)
                  refine lv_iinc (v := nI 2) (lv' := [(12, .int (nI 2)), (10, .long (lN (withN (withN sx (22 + (2 * h)) 2 ((bitsN sx (22 + 2 * h) 2) - 1)) ((26 + (9 * h)) + 3) 3 (bitsN sx (((26 + (9 * h)) + 3) + 3) 3)))), (9, .int (nI 2)), (8, .int (nI ((g 3) (4 * ((16 + (8 * h)) + (bitsN sx ((26 + (9 * h)) + 3) 3)))))), (7, .int (nI ((16 + (8 * h)) + (bitsN sx ((26 + (9 * h)) + 3) 3)))), (6, .int (nI (sortM g sx h 1))), (5, .int (nI (bitsN sx (22 + 2 * h) 2))), (0, .ref (ad 0)), (1, .long (lN sx)), (3, .int (nI h)), (4, .int (nI 1))]) hx hb dX5_wish_243 hl (k := 1) rfl (by decide) (by decide) rfl (fun ls hl => ?_)
                  refine lv_goto (tgt := 188) hx hb dX5_wish_246 (by decide) ?_
                  refine lv_iload hx hb dX5_wish_188 (lv_at hl 0 rfl) ?_
                  refine lv_iconst (v := nI 3) hx hb dX5_wish_190 (by decide) ?_
                  refine lv_icmp_ge (tgt := 249) hx hb dX5_wish_191 (by decide) (fun c191_110 => absurd c191_110 (by decide)) (fun c191_110 => ?_)
                  refine lv_lload hx hb dX5_wish_194 (lv_at hl 1 rfl) ?_
                  refine lv_bipush (v := nI 26) hx hb dX5_wish_196 (by decide) ?_
                  refine lv_bipush (v := nI 9) hx hb dX5_wish_198 (by decide) ?_
                  refine lv_iload_n hx hb dX5_wish_200 rfl (lv_at hl 9 rfl) ?_
                  refine lv_imul hx hb dX5_wish_201 ?_
                  refine lv_topE (nI (9 * h)) (pk_mul _ _) ?_
                  refine lv_iadd hx hb dX5_wish_202 ?_
                  refine lv_topE (nI (26 + (9 * h))) (nI_add _ _) ?_
                  refine lv_iconst (v := nI 3) hx hb dX5_wish_203 (by decide) ?_
                  refine lv_iload hx hb dX5_wish_204 (lv_at hl 0 rfl) ?_
                  refine lv_imul hx hb dX5_wish_206 ?_
                  refine lv_topE (nI 6) (pk_mul _ _) ?_
                  refine lv_iadd hx hb dX5_wish_207 ?_
                  refine lv_topE (nI ((26 + (9 * h)) + 6)) (nI_add _ _) ?_
                  refine lv_iconst (v := nI 3) hx hb dX5_wish_208 (by decide) ?_
                  refine lv_iload hx hb dX5_wish_209 (lv_at hl 0 rfl) ?_
                  refine lv_iconst (v := nI 2) hx hb dX5_wish_211 (by decide) ?_
                  refine lv_icmp_ge (tgt := 237) hx hb dX5_wish_212 (by decide) (fun c212_111 => ?_) (fun c212_111 => absurd (by decide) c212_111)
                  refine lv_iconst (v := nI 0) hx hb dX5_wish_237 (by decide) ?_
                  refine cSl (As := [.long (lN (withN (withN sx (22 + (2 * h)) 2 ((bitsN sx (22 + 2 * h) 2) - 1)) ((26 + (9 * h)) + 3) 3 (bitsN sx (((26 + (9 * h)) + 3) + 3) 3))), .int (nI ((26 + (9 * h)) + 6)), .int (nI 3), .int (nI 0)]) (rest := []) ⟨hx, hb, hml, hown, hts⟩ (c_X5_with l  (withN (withN sx (22 + (2 * h)) 2 ((bitsN sx (22 + 2 * h) 2) - 1)) ((26 + (9 * h)) + 3) 3 (bitsN sx (((26 + (9 * h)) + 3) + 3) 3)) ((26 + (9 * h)) + 6) 3 0 (by omega) (by omega) (by omega) (by omega)) (va_cwS 4 hts (gS mU_480 mU_481 mU_6 mU_482) rfl rfl rfl (by decide +kernel) ⟨Nat.le_of_ble_eq_true rfl, Nat.le_of_ble_eq_true rfl⟩) fbU (fun _ _ _ => trivial) rfl hl.1 rfl (Nat.le_of_ble_eq_true rfl) dX5_wish_238 ⟨Nat.zero_le _, Nat.zero_le _⟩ ?_
                  have hf_112 : withN (withN (withN sx (22 + (2 * h)) 2 ((bitsN sx (22 + 2 * h) 2) - 1)) ((26 + (9 * h)) + 3) 3 (bitsN sx (((26 + (9 * h)) + 3) + 3) 3)) ((26 + (9 * h)) + 6) 3 0 < 2 ^ 48 := withN_lt (by omega) (by omega) (by omega)
                  refine lv_lstore (lv' := [(10, .long (lN (withN (withN (withN sx (22 + (2 * h)) 2 ((bitsN sx (22 + 2 * h) 2) - 1)) ((26 + (9 * h)) + 3) 3 (bitsN sx (((26 + (9 * h)) + 3) + 3) 3)) ((26 + (9 * h)) + 6) 3 0))), (12, .int (nI 2)), (9, .int (nI 2)), (8, .int (nI ((g 3) (4 * ((16 + (8 * h)) + (bitsN sx ((26 + (9 * h)) + 3) 3)))))), (7, .int (nI ((16 + (8 * h)) + (bitsN sx ((26 + (9 * h)) + 3) 3)))), (6, .int (nI (sortM g sx h 1))), (5, .int (nI (bitsN sx (22 + 2 * h) 2))), (0, .ref (ad 0)), (1, .long (lN sx)), (3, .int (nI h)), (4, .int (nI 1))]) hx hb dX5_wish_241 hl (by decide) rfl (fun ls hl => ?_)
                  refine lv_iinc (v := nI 3) (lv' := [(12, .int (nI 3)), (10, .long (lN (withN (withN (withN sx (22 + (2 * h)) 2 ((bitsN sx (22 + 2 * h) 2) - 1)) ((26 + (9 * h)) + 3) 3 (bitsN sx (((26 + (9 * h)) + 3) + 3) 3)) ((26 + (9 * h)) + 6) 3 0))), (9, .int (nI 2)), (8, .int (nI ((g 3) (4 * ((16 + (8 * h)) + (bitsN sx ((26 + (9 * h)) + 3) 3)))))), (7, .int (nI ((16 + (8 * h)) + (bitsN sx ((26 + (9 * h)) + 3) 3)))), (6, .int (nI (sortM g sx h 1))), (5, .int (nI (bitsN sx (22 + 2 * h) 2))), (0, .ref (ad 0)), (1, .long (lN sx)), (3, .int (nI h)), (4, .int (nI 1))]) hx hb dX5_wish_243 hl (k := 1) rfl (by decide) (by decide) rfl (fun ls hl => ?_)
                  refine lv_goto (tgt := 188) hx hb dX5_wish_246 (by decide) ?_
                  refine lv_iload hx hb dX5_wish_188 (lv_at hl 0 rfl) ?_
                  refine lv_iconst (v := nI 3) hx hb dX5_wish_190 (by decide) ?_
                  refine lv_icmp_ge (tgt := 249) hx hb dX5_wish_191 (by decide) (fun c191_113 => ?_) (fun c191_113 => absurd (by decide) c191_113)
                  refine lv_aload_n hx hb dX5_wish_249 rfl (lv_at hl 7 rfl) ?_
                  refine lv_lload hx hb dX5_wish_250 (lv_at hl 1 rfl) ?_
                  refine lv_iload_n hx hb dX5_wish_252 rfl (lv_at hl 9 rfl) ?_
                  refine lv_iload hx hb dX5_wish_253 (lv_at hl 5 rfl) ?_
                  refine lv_iload hx hb dX5_wish_255 (lv_at hl 4 rfl) ?_
                  refine cVl (As := [.long (lN (withN (withN (withN sx (22 + (2 * h)) 2 ((bitsN sx (22 + 2 * h) 2) - 1)) ((26 + (9 * h)) + 3) 3 (bitsN sx (((26 + (9 * h)) + 3) + 3) 3)) ((26 + (9 * h)) + 6) 3 0)), .int (nI h), .int (nI (sortM g sx h 1)), .int (nI ((16 + (8 * h)) + (bitsN sx ((26 + (9 * h)) + 3) 3)))]) (rest := []) ⟨hx, hb, hml, hown, hts⟩ (c_X5_act l D ad ka f g t (withN (withN (withN sx (22 + (2 * h)) 2 ((bitsN sx (22 + 2 * h) 2) - 1)) ((26 + (9 * h)) + 3) 3 (bitsN sx (((26 + (9 * h)) + 3) + 3) 3)) ((26 + (9 * h)) + 6) 3 0) h (sortM g sx h 1) ((16 + (8 * h)) + (bitsN sx ((26 + (9 * h)) + 3) 3)) (hg) (by omega) (by omega) (by omega) (by omega) (hokq)) (cwV 4 hts (gV mU_524 mU_525 mU_526 mU_6 mU_527) rfl rfl rfl (by decide +kernel) ⟨Nat.le_of_ble_eq_true rfl, Nat.le_of_ble_eq_true rfl⟩) fbR (va_recv hK hP (ci := 5) (q0 := 0) rfl rfl) (PR.of hP hK) rfl hl.1 rfl (Nat.le_of_ble_eq_true rfl) dX5_wish_257 ⟨Nat.zero_le _, Nat.zero_le _⟩ ?_
                  subst hQ
                  exact rtl hx hb hr hlocks rfl (by first | (unfold wishM; unfold wishM1; unfold wishE; unfold needM; unfold shiftM; (try first | rw [if_pos c11_71] | rw [if_neg c11_71]); (try first | rw [if_pos c36_74] | rw [if_neg c36_74]); (try first | rw [if_pos c62_77] | rw [if_neg c62_77]); (try first | rw [if_pos c116_81] | rw [if_neg c116_81]); (try first | rw [if_pos c125_82] | rw [if_neg c125_82]); (try first | rw [if_pos c145_100] | rw [if_neg c145_100]); (try first | rw [if_pos c158_104] | rw [if_neg c158_104]); (try rfl); done) | (exfalso; omega)) dX5_wish_260
                · have c158_104 : ((g 5) ((g 3) (4 * ((16 + (8 * h)) + (bitsN sx ((26 + (9 * h)) + 3) 3))))) &&& 2 = 0 := (nI_eqG (a := ((g 5) ((g 3) (4 * ((16 + (8 * h)) + (bitsN sx ((26 + (9 * h)) + 3) 3))))) &&& 2) (b := 0) (by omega) (by omega)).mp c158_104
                  refine lv_lload_n hx hb dX5_wish_161 rfl (lv_at hl 6 rfl) ?_
                  refine lv_iload_n hx hb dX5_wish_162 rfl (lv_at hl 7 rfl) ?_
                  refine cSl (As := [.long (lN sx), .int (nI h)]) (rest := []) ⟨hx, hb, hml, hown, hts⟩ (c_X5_broken l  sx h (by omega) (by omega)) (va_cwS 2 hts (gS mU_521 mU_522 mU_6 mU_523) rfl rfl rfl (by decide +kernel) ⟨Nat.le_of_ble_eq_true rfl, Nat.le_of_ble_eq_true rfl⟩) fbU (fun _ _ _ => trivial) rfl hl.1 rfl (Nat.le_of_ble_eq_true rfl) dX5_wish_163 ⟨Nat.zero_le _, Nat.zero_le _⟩ ?_
                  have hf_114 : brokenM sx h < 2 ^ 48 := withN_lt (withN_lt (withN_lt (by omega) (by omega) (by omega)) (by omega) (by omega)) (by omega) (by omega)
                  subst hQ
                  exact rtl hx hb hr hlocks rfl (by first | (unfold wishM; unfold wishM1; unfold wishE; unfold needM; (try first | rw [if_pos c11_71] | rw [if_neg c11_71]); (try first | rw [if_pos c36_74] | rw [if_neg c36_74]); (try first | rw [if_pos c62_77] | rw [if_neg c62_77]); (try first | rw [if_pos c116_81] | rw [if_neg c116_81]); (try first | rw [if_pos c125_82] | rw [if_neg c125_82]); (try first | rw [if_pos c145_100] | rw [if_neg c145_100]); (try first | rw [if_pos c158_104] | rw [if_neg c158_104]); (try rfl); done) | (exfalso; omega)) dX5_wish_166
          · have c116_81 : sortM g sx h 1 = 1 := (nI_eqG (a := sortM g sx h 1) (b := 1) (by omega) (by omega)).mp c116_81
            refine lv_iconst (v := nI 1) hx hb dX5_wish_119 (by decide) ?_
            refine lv_goto (tgt := 133) hx hb dX5_wish_120 (by decide) ?_
            refine lv_istore (lv' := [(9, .int (nI 1)), (8, .int (nI ((g 3) (4 * ((16 + (8 * h)) + (bitsN sx ((26 + (9 * h)) + 3) 3)))))), (7, .int (nI ((16 + (8 * h)) + (bitsN sx ((26 + (9 * h)) + 3) 3)))), (6, .int (nI (sortM g sx h 1))), (5, .int (nI (bitsN sx (22 + 2 * h) 2))), (0, .ref (ad 0)), (1, .long (lN sx)), (3, .int (nI h)), (4, .int (nI 1))]) hx hb dX5_wish_133 hl (by decide) rfl (fun ls hl => ?_)
            refine lv_lload_n hx hb dX5_wish_135 rfl (lv_at hl 6 rfl) ?_
            refine lv_bipush (v := nI 46) hx hb dX5_wish_136 (by decide) ?_
            refine lv_iconst (v := nI 2) hx hb dX5_wish_138 (by decide) ?_
            refine cSi (As := [.long (lN sx), .int (nI 46), .int (nI 2)]) (rest := []) ⟨hx, hb, hml, hown, hts⟩ (c_X5_bits l  sx 46 2 (by omega) (by omega) (by omega)) (va_cwS 3 hts (gS mU_503 mU_504 mU_6 mU_505) rfl rfl rfl (by decide +kernel) ⟨Nat.le_of_ble_eq_true rfl, Nat.le_of_ble_eq_true rfl⟩) fbU (fun _ _ _ => trivial) rfl hl.1 rfl (Nat.le_of_ble_eq_true rfl) dX5_wish_139 ⟨Nat.zero_le _, Nat.zero_le _⟩ ?_
            have hf_115 : bitsN sx 46 2 < 2 ^ 2 := bitsN_lt _ _ _
            refine lv_iconst (v := nI 2) hx hb dX5_wish_142 (by decide) ?_
            refine lv_iload_n hx hb dX5_wish_143 rfl (lv_at hl 7 rfl) ?_
            refine lv_isub hx hb dX5_wish_144 ?_
            refine lv_topE (nI (2 - h)) (pk_sub (by omega)) ?_
            refine lv_icmp_eq (tgt := 161) hx hb dX5_wish_145 (by decide) (fun c145_116 => ?_) (fun c145_116 => ?_)
            · have c145_116 : bitsN sx 46 2 = 2 - h := (nI_eqG (a := bitsN sx 46 2) (b := 2 - h) (by omega) (by omega)).mp c145_116
              refine lv_lload_n hx hb dX5_wish_161 rfl (lv_at hl 6 rfl) ?_
              refine lv_iload_n hx hb dX5_wish_162 rfl (lv_at hl 7 rfl) ?_
              refine cSl (As := [.long (lN sx), .int (nI h)]) (rest := []) ⟨hx, hb, hml, hown, hts⟩ (c_X5_broken l  sx h (by omega) (by omega)) (va_cwS 2 hts (gS mU_521 mU_522 mU_6 mU_523) rfl rfl rfl (by decide +kernel) ⟨Nat.le_of_ble_eq_true rfl, Nat.le_of_ble_eq_true rfl⟩) fbU (fun _ _ _ => trivial) rfl hl.1 rfl (Nat.le_of_ble_eq_true rfl) dX5_wish_163 ⟨Nat.zero_le _, Nat.zero_le _⟩ ?_
              have hf_117 : brokenM sx h < 2 ^ 48 := withN_lt (withN_lt (withN_lt (by omega) (by omega) (by omega)) (by omega) (by omega)) (by omega) (by omega)
              subst hQ
              exact rtl hx hb hr hlocks rfl (by first | (unfold wishM; unfold wishM1; unfold wishE; unfold needM; (try first | rw [if_pos c11_71] | rw [if_neg c11_71]); (try first | rw [if_pos c36_74] | rw [if_neg c36_74]); (try first | rw [if_pos c62_77] | rw [if_neg c62_77]); (try first | rw [if_pos c116_81] | rw [if_neg c116_81]); (try first | rw [if_pos c145_116] | rw [if_neg c145_116]); (try rfl); done) | (exfalso; omega)) dX5_wish_166
            · have c145_116 : ¬ (bitsN sx 46 2 = 2 - h) := fun h9 => c145_116 ((nI_eqG (a := bitsN sx 46 2) (b := 2 - h) (by omega) (by omega)).mpr h9)
              refine lv_aload_n hx hb dX5_wish_148 rfl (lv_at hl 5 rfl) ?_
              refine va_get (D := D) (ci := 5) (v := .ref (ad 5)) (C := RX5) (T := TX5) (N := 23) hx hb hU iX5 hown hK hP 0 rfl rfl 4 (by decide) (hU _ mU_79) (fun _ h9 => h9) rfl dX5_wish_149 ?_
              refine lv_iload hx hb dX5_wish_152 (lv_at hl 1 rfl) ?_
              refine n_iald hx hb hK hP 5 4 rfl rfl (i := (g 3) (4 * ((16 + (8 * h)) + (bitsN sx ((26 + (9 * h)) + 3) 3)))) (by omega) (by decide) dX5_wish_154 ?_
              have hb_118 := hg 5 (by decide) ((g 3) (4 * ((16 + (8 * h)) + (bitsN sx ((26 + (9 * h)) + 3) 3))))
              refine lv_iload hx hb dX5_wish_155 (lv_at hl 0 rfl) ?_
              refine lv_iand hx hb dX5_wish_157 ?_
              have hb_119 : ((g 5) ((g 3) (4 * ((16 + (8 * h)) + (bitsN sx ((26 + (9 * h)) + 3) 3))))) &&& 1 ≤ 1 := Nat.and_le_right
              refine lv_topE (nI (((g 5) ((g 3) (4 * ((16 + (8 * h)) + (bitsN sx ((26 + (9 * h)) + 3) 3))))) &&& 1)) (fa_and _ _) ?_
              refine lv_if_ne (tgt := 167) hx hb dX5_wish_158 (by decide) (fun c158_120 => ?_) (fun c158_120 => ?_)
              · have c158_120 : ¬ (((g 5) ((g 3) (4 * ((16 + (8 * h)) + (bitsN sx ((26 + (9 * h)) + 3) 3))))) &&& 1 = 0) := fun h9 => c158_120 ((nI_eqG (a := ((g 5) ((g 3) (4 * ((16 + (8 * h)) + (bitsN sx ((26 + (9 * h)) + 3) 3))))) &&& 1) (b := 0) (by omega) (by omega)).mpr h9)
                refine lv_lload_n hx hb dX5_wish_167 rfl (lv_at hl 6 rfl) ?_
                refine lv_bipush (v := nI 22) hx hb dX5_wish_168 (by decide) ?_
                refine lv_iconst (v := nI 2) hx hb dX5_wish_170 (by decide) ?_
                refine lv_iload_n hx hb dX5_wish_171 rfl (lv_at hl 7 rfl) ?_
                refine lv_imul hx hb dX5_wish_172 ?_
                refine lv_topE (nI (2 * h)) (pk_mul _ _) ?_
                refine lv_iadd hx hb dX5_wish_173 ?_
                refine lv_topE (nI (22 + (2 * h))) (nI_add _ _) ?_
                refine lv_iconst (v := nI 2) hx hb dX5_wish_174 (by decide) ?_
                refine lv_iload hx hb dX5_wish_175 (lv_at hl 4 rfl) ?_
                refine lv_iconst (v := nI 1) hx hb dX5_wish_177 (by decide) ?_
                refine lv_isub hx hb dX5_wish_178 ?_
                refine lv_topE (nI ((bitsN sx (22 + 2 * h) 2) - 1)) (pk_sub (by omega)) ?_
                refine cSl (As := [.long (lN sx), .int (nI (22 + (2 * h))), .int (nI 2), .int (nI ((bitsN sx (22 + 2 * h) 2) - 1))]) (rest := []) ⟨hx, hb, hml, hown, hts⟩ (c_X5_with l  sx (22 + (2 * h)) 2 ((bitsN sx (22 + 2 * h) 2) - 1) (by omega) (by omega) (by omega) (by omega)) (va_cwS 4 hts (gS mU_480 mU_481 mU_6 mU_482) rfl rfl rfl (by decide +kernel) ⟨Nat.le_of_ble_eq_true rfl, Nat.le_of_ble_eq_true rfl⟩) fbU (fun _ _ _ => trivial) rfl hl.1 rfl (Nat.le_of_ble_eq_true rfl) dX5_wish_179 ⟨Nat.zero_le _, Nat.zero_le _⟩ ?_
                have hf_121 : withN sx (22 + (2 * h)) 2 ((bitsN sx (22 + 2 * h) 2) - 1) < 2 ^ 48 := withN_lt (by omega) (by omega) (by omega)
                refine lv_lstore (lv' := [(10, .long (lN (withN sx (22 + (2 * h)) 2 ((bitsN sx (22 + 2 * h) 2) - 1)))), (9, .int (nI 1)), (8, .int (nI ((g 3) (4 * ((16 + (8 * h)) + (bitsN sx ((26 + (9 * h)) + 3) 3)))))), (7, .int (nI ((16 + (8 * h)) + (bitsN sx ((26 + (9 * h)) + 3) 3)))), (6, .int (nI (sortM g sx h 1))), (5, .int (nI (bitsN sx (22 + 2 * h) 2))), (0, .ref (ad 0)), (1, .long (lN sx)), (3, .int (nI h)), (4, .int (nI 1))]) hx hb dX5_wish_182 hl (by decide) rfl (fun ls hl => ?_)
                refine lv_iload hx hb dX5_wish_184 (lv_at hl 9 rfl) ?_
                refine lv_istore (lv' := [(12, .int (nI 1)), (10, .long (lN (withN sx (22 + (2 * h)) 2 ((bitsN sx (22 + 2 * h) 2) - 1)))), (9, .int (nI 1)), (8, .int (nI ((g 3) (4 * ((16 + (8 * h)) + (bitsN sx ((26 + (9 * h)) + 3) 3)))))), (7, .int (nI ((16 + (8 * h)) + (bitsN sx ((26 + (9 * h)) + 3) 3)))), (6, .int (nI (sortM g sx h 1))), (5, .int (nI (bitsN sx (22 + 2 * h) 2))), (0, .ref (ad 0)), (1, .long (lN sx)), (3, .int (nI h)), (4, .int (nI 1))]) hx hb dX5_wish_186 hl (by decide) rfl (fun ls hl => ?_)
                refine lv_iload hx hb dX5_wish_188 (lv_at hl 0 rfl) ?_
                refine lv_iconst (v := nI 3) hx hb dX5_wish_190 (by decide) ?_
                refine lv_icmp_ge (tgt := 249) hx hb dX5_wish_191 (by decide) (fun c191_122 => absurd c191_122 (by decide)) (fun c191_122 => ?_)
                refine lv_lload hx hb dX5_wish_194 (lv_at hl 1 rfl) ?_
                refine lv_bipush (v := nI 26) hx hb dX5_wish_196 (by decide) ?_
                refine lv_bipush (v := nI 9) hx hb dX5_wish_198 (by decide) ?_
                refine lv_iload_n hx hb dX5_wish_200 rfl (lv_at hl 9 rfl) ?_
                refine lv_imul hx hb dX5_wish_201 ?_
                refine lv_topE (nI (9 * h)) (pk_mul _ _) ?_
                refine lv_iadd hx hb dX5_wish_202 ?_
                refine lv_topE (nI (26 + (9 * h))) (nI_add _ _) ?_
                refine lv_iconst (v := nI 3) hx hb dX5_wish_203 (by decide) ?_
                refine lv_iload hx hb dX5_wish_204 (lv_at hl 0 rfl) ?_
                refine lv_imul hx hb dX5_wish_206 ?_
                refine lv_topE (nI 3) (pk_mul _ _) ?_
                refine lv_iadd hx hb dX5_wish_207 ?_
                refine lv_topE (nI ((26 + (9 * h)) + 3)) (nI_add _ _) ?_
                refine lv_iconst (v := nI 3) hx hb dX5_wish_208 (by decide) ?_
                refine lv_iload hx hb dX5_wish_209 (lv_at hl 0 rfl) ?_
                refine lv_iconst (v := nI 2) hx hb dX5_wish_211 (by decide) ?_
                refine lv_icmp_ge (tgt := 237) hx hb dX5_wish_212 (by decide) (fun c212_123 => absurd c212_123 (by decide)) (fun c212_123 => ?_)
                refine lv_lload_n hx hb dX5_wish_215 rfl (lv_at hl 8 rfl) ?_
                refine lv_bipush (v := nI 26) hx hb dX5_wish_216 (by decide) ?_
                refine lv_bipush (v := nI 9) hx hb dX5_wish_218 (by decide) ?_
                refine lv_iload_n hx hb dX5_wish_220 rfl (lv_at hl 9 rfl) ?_
                refine lv_imul hx hb dX5_wish_221 ?_
                refine lv_topE (nI (9 * h)) (pk_mul _ _) ?_
                refine lv_iadd hx hb dX5_wish_222 ?_
                refine lv_topE (nI (26 + (9 * h))) (nI_add _ _) ?_
                refine lv_iconst (v := nI 3) hx hb dX5_wish_223 (by decide) ?_
                refine lv_iload hx hb dX5_wish_224 (lv_at hl 0 rfl) ?_
                refine lv_imul hx hb dX5_wish_226 ?_
                refine lv_topE (nI 3) (pk_mul _ _) ?_
                refine lv_iadd hx hb dX5_wish_227 ?_
                refine lv_topE (nI ((26 + (9 * h)) + 3)) (nI_add _ _) ?_
                refine lv_iconst (v := nI 3) hx hb dX5_wish_228 (by decide) ?_
                refine lv_iadd hx hb dX5_wish_229 ?_
                refine lv_topE (nI (((26 + (9 * h)) + 3) + 3)) (nI_add _ _) ?_
                refine lv_iconst (v := nI 3) hx hb dX5_wish_230 (by decide) ?_
                refine cSi (As := [.long (lN sx), .int (nI (((26 + (9 * h)) + 3) + 3)), .int (nI 3)]) (rest := [.int (nI 3), .int (nI ((26 + (9 * h)) + 3)), .long (lN (withN sx (22 + (2 * h)) 2 ((bitsN sx (22 + 2 * h) 2) - 1)))]) ⟨hx, hb, hml, hown, hts⟩ (c_X5_bits l  sx (((26 + (9 * h)) + 3) + 3) 3 (by omega) (by omega) (by omega)) (va_cwS 3 hts (gS mU_503 mU_504 mU_6 mU_505) rfl rfl rfl (by decide +kernel) ⟨Nat.le_of_ble_eq_true rfl, Nat.le_of_ble_eq_true rfl⟩) fbU (fun _ _ _ => trivial) rfl hl.1 rfl (Nat.le_of_ble_eq_true rfl) dX5_wish_231 ⟨Nat.zero_le _, Nat.zero_le _⟩ ?_
                have hf_124 : bitsN sx (((26 + (9 * h)) + 3) + 3) 3 < 2 ^ 3 := bitsN_lt _ _ _
                refine lv_goto (tgt := 238) hx hb dX5_wish_234 (by decide) ?_
                refine cSl (As := [.long (lN (withN sx (22 + (2 * h)) 2 ((bitsN sx (22 + 2 * h) 2) - 1))), .int (nI ((26 + (9 * h)) + 3)), .int (nI 3), .int (nI (bitsN sx (((26 + (9 * h)) + 3) + 3) 3))]) (rest := []) ⟨hx, hb, hml, hown, hts⟩ (c_X5_with l  (withN sx (22 + (2 * h)) 2 ((bitsN sx (22 + 2 * h) 2) - 1)) ((26 + (9 * h)) + 3) 3 (bitsN sx (((26 + (9 * h)) + 3) + 3) 3) (by omega) (by omega) (by omega) (by omega)) (va_cwS 4 hts (gS mU_480 mU_481 mU_6 mU_482) rfl rfl rfl (by decide +kernel) ⟨Nat.le_of_ble_eq_true rfl, Nat.le_of_ble_eq_true rfl⟩) fbU (fun _ _ _ => trivial) rfl hl.1 rfl (Nat.le_of_ble_eq_true rfl) dX5_wish_238 ⟨Nat.zero_le _, Nat.zero_le _⟩ ?_
                have hf_125 : withN (withN sx (22 + (2 * h)) 2 ((bitsN sx (22 + 2 * h) 2) - 1)) ((26 + (9 * h)) + 3) 3 (bitsN sx (((26 + (9 * h)) + 3) + 3) 3) < 2 ^ 48 := withN_lt (by omega) (by omega) (by omega)
                refine lv_lstore (lv' := [(10, .long (lN (withN (withN sx (22 + (2 * h)) 2 ((bitsN sx (22 + 2 * h) 2) - 1)) ((26 + (9 * h)) + 3) 3 (bitsN sx (((26 + (9 * h)) + 3) + 3) 3)))), (12, .int (nI 1)), (9, .int (nI 1)), (8, .int (nI ((g 3) (4 * ((16 + (8 * h)) + (bitsN sx ((26 + (9 * h)) + 3) 3)))))), (7, .int (nI ((16 + (8 * h)) + (bitsN sx ((26 + (9 * h)) + 3) 3)))), (6, .int (nI (sortM g sx h 1))), (5, .int (nI (bitsN sx (22 + 2 * h) 2))), (0, .ref (ad 0)), (1, .long (lN sx)), (3, .int (nI h)), (4, .int (nI 1))]) hx hb dX5_wish_241 hl (by decide) rfl (fun ls hl => ?_)
                refine lv_iinc (v := nI 2) (lv' := [(12, .int (nI 2)), (10, .long (lN (withN (withN sx (22 + (2 * h)) 2 ((bitsN sx (22 + 2 * h) 2) - 1)) ((26 + (9 * h)) + 3) 3 (bitsN sx (((26 + (9 * h)) + 3) + 3) 3)))), (9, .int (nI 1)), (8, .int (nI ((g 3) (4 * ((16 + (8 * h)) + (bitsN sx ((26 + (9 * h)) + 3) 3)))))), (7, .int (nI ((16 + (8 * h)) + (bitsN sx ((26 + (9 * h)) + 3) 3)))), (6, .int (nI (sortM g sx h 1))), (5, .int (nI (bitsN sx (22 + 2 * h) 2))), (0, .ref (ad 0)), (1, .long (lN sx)), (3, .int (nI h)), (4, .int (nI 1))]) hx hb dX5_wish_243 hl (k := 1) rfl (by decide) (by decide) rfl (fun ls hl => ?_)
                refine lv_goto (tgt := 188) hx hb dX5_wish_246 (by decide) ?_
                refine lv_iload hx hb dX5_wish_188 (lv_at hl 0 rfl) ?_
                refine lv_iconst (v := nI 3) hx hb dX5_wish_190 (by decide) ?_
                refine lv_icmp_ge (tgt := 249) hx hb dX5_wish_191 (by decide) (fun c191_126 => absurd c191_126 (by decide)) (fun c191_126 => ?_)
                refine lv_lload hx hb dX5_wish_194 (lv_at hl 1 rfl) ?_
                refine lv_bipush (v := nI 26) hx hb dX5_wish_196 (by decide) ?_
                refine lv_bipush (v := nI 9) hx hb dX5_wish_198 (by decide) ?_
                refine lv_iload_n hx hb dX5_wish_200 rfl (lv_at hl 9 rfl) ?_
                refine lv_imul hx hb dX5_wish_201 ?_
                refine lv_topE (nI (9 * h)) (pk_mul _ _) ?_
                refine lv_iadd hx hb dX5_wish_202 ?_
                refine lv_topE (nI (26 + (9 * h))) (nI_add _ _) ?_
                refine lv_iconst (v := nI 3) hx hb dX5_wish_203 (by decide) ?_
                refine lv_iload hx hb dX5_wish_204 (lv_at hl 0 rfl) ?_
                refine lv_imul hx hb dX5_wish_206 ?_
                refine lv_topE (nI 6) (pk_mul _ _) ?_
                refine lv_iadd hx hb dX5_wish_207 ?_
                refine lv_topE (nI ((26 + (9 * h)) + 6)) (nI_add _ _) ?_
                refine lv_iconst (v := nI 3) hx hb dX5_wish_208 (by decide) ?_
                refine lv_iload hx hb dX5_wish_209 (lv_at hl 0 rfl) ?_
                refine lv_iconst (v := nI 2) hx hb dX5_wish_211 (by decide) ?_
                refine lv_icmp_ge (tgt := 237) hx hb dX5_wish_212 (by decide) (fun c212_127 => ?_) (fun c212_127 => absurd (by decide) c212_127)
                refine lv_iconst (v := nI 0) hx hb dX5_wish_237 (by decide) ?_
                refine cSl (As := [.long (lN (withN (withN sx (22 + (2 * h)) 2 ((bitsN sx (22 + 2 * h) 2) - 1)) ((26 + (9 * h)) + 3) 3 (bitsN sx (((26 + (9 * h)) + 3) + 3) 3))), .int (nI ((26 + (9 * h)) + 6)), .int (nI 3), .int (nI 0)]) (rest := []) ⟨hx, hb, hml, hown, hts⟩ (c_X5_with l  (withN (withN sx (22 + (2 * h)) 2 ((bitsN sx (22 + 2 * h) 2) - 1)) ((26 + (9 * h)) + 3) 3 (bitsN sx (((26 + (9 * h)) + 3) + 3) 3)) ((26 + (9 * h)) + 6) 3 0 (by omega) (by omega) (by omega) (by omega)) (va_cwS 4 hts (gS mU_480 mU_481 mU_6 mU_482) rfl rfl rfl (by decide +kernel) ⟨Nat.le_of_ble_eq_true rfl, Nat.le_of_ble_eq_true rfl⟩) fbU (fun _ _ _ => trivial) rfl hl.1 rfl (Nat.le_of_ble_eq_true rfl) dX5_wish_238 ⟨Nat.zero_le _, Nat.zero_le _⟩ ?_
                have hf_128 : withN (withN (withN sx (22 + (2 * h)) 2 ((bitsN sx (22 + 2 * h) 2) - 1)) ((26 + (9 * h)) + 3) 3 (bitsN sx (((26 + (9 * h)) + 3) + 3) 3)) ((26 + (9 * h)) + 6) 3 0 < 2 ^ 48 := withN_lt (by omega) (by omega) (by omega)
                refine lv_lstore (lv' := [(10, .long (lN (withN (withN (withN sx (22 + (2 * h)) 2 ((bitsN sx (22 + 2 * h) 2) - 1)) ((26 + (9 * h)) + 3) 3 (bitsN sx (((26 + (9 * h)) + 3) + 3) 3)) ((26 + (9 * h)) + 6) 3 0))), (12, .int (nI 2)), (9, .int (nI 1)), (8, .int (nI ((g 3) (4 * ((16 + (8 * h)) + (bitsN sx ((26 + (9 * h)) + 3) 3)))))), (7, .int (nI ((16 + (8 * h)) + (bitsN sx ((26 + (9 * h)) + 3) 3)))), (6, .int (nI (sortM g sx h 1))), (5, .int (nI (bitsN sx (22 + 2 * h) 2))), (0, .ref (ad 0)), (1, .long (lN sx)), (3, .int (nI h)), (4, .int (nI 1))]) hx hb dX5_wish_241 hl (by decide) rfl (fun ls hl => ?_)
                refine lv_iinc (v := nI 3) (lv' := [(12, .int (nI 3)), (10, .long (lN (withN (withN (withN sx (22 + (2 * h)) 2 ((bitsN sx (22 + 2 * h) 2) - 1)) ((26 + (9 * h)) + 3) 3 (bitsN sx (((26 + (9 * h)) + 3) + 3) 3)) ((26 + (9 * h)) + 6) 3 0))), (9, .int (nI 1)), (8, .int (nI ((g 3) (4 * ((16 + (8 * h)) + (bitsN sx ((26 + (9 * h)) + 3) 3)))))), (7, .int (nI ((16 + (8 * h)) + (bitsN sx ((26 + (9 * h)) + 3) 3)))), (6, .int (nI (sortM g sx h 1))), (5, .int (nI (bitsN sx (22 + 2 * h) 2))), (0, .ref (ad 0)), (1, .long (lN sx)), (3, .int (nI h)), (4, .int (nI 1))]) hx hb dX5_wish_243 hl (k := 1) rfl (by decide) (by decide) rfl (fun ls hl => ?_)
                refine lv_goto (tgt := 188) hx hb dX5_wish_246 (by decide) ?_
                refine lv_iload hx hb dX5_wish_188 (lv_at hl 0 rfl) ?_
                refine lv_iconst (v := nI 3) hx hb dX5_wish_190 (by decide) ?_
                refine lv_icmp_ge (tgt := 249) hx hb dX5_wish_191 (by decide) (fun c191_129 => ?_) (fun c191_129 => absurd (by decide) c191_129)
                refine lv_aload_n hx hb dX5_wish_249 rfl (lv_at hl 7 rfl) ?_
                refine lv_lload hx hb dX5_wish_250 (lv_at hl 1 rfl) ?_
                refine lv_iload_n hx hb dX5_wish_252 rfl (lv_at hl 9 rfl) ?_
                refine lv_iload hx hb dX5_wish_253 (lv_at hl 5 rfl) ?_
                refine lv_iload hx hb dX5_wish_255 (lv_at hl 4 rfl) ?_
                refine cVl (As := [.long (lN (withN (withN (withN sx (22 + (2 * h)) 2 ((bitsN sx (22 + 2 * h) 2) - 1)) ((26 + (9 * h)) + 3) 3 (bitsN sx (((26 + (9 * h)) + 3) + 3) 3)) ((26 + (9 * h)) + 6) 3 0)), .int (nI h), .int (nI (sortM g sx h 1)), .int (nI ((16 + (8 * h)) + (bitsN sx ((26 + (9 * h)) + 3) 3)))]) (rest := []) ⟨hx, hb, hml, hown, hts⟩ (c_X5_act l D ad ka f g t (withN (withN (withN sx (22 + (2 * h)) 2 ((bitsN sx (22 + 2 * h) 2) - 1)) ((26 + (9 * h)) + 3) 3 (bitsN sx (((26 + (9 * h)) + 3) + 3) 3)) ((26 + (9 * h)) + 6) 3 0) h (sortM g sx h 1) ((16 + (8 * h)) + (bitsN sx ((26 + (9 * h)) + 3) 3)) (hg) (by omega) (by omega) (by omega) (by omega) (hokq)) (cwV 4 hts (gV mU_524 mU_525 mU_526 mU_6 mU_527) rfl rfl rfl (by decide +kernel) ⟨Nat.le_of_ble_eq_true rfl, Nat.le_of_ble_eq_true rfl⟩) fbR (va_recv hK hP (ci := 5) (q0 := 0) rfl rfl) (PR.of hP hK) rfl hl.1 rfl (Nat.le_of_ble_eq_true rfl) dX5_wish_257 ⟨Nat.zero_le _, Nat.zero_le _⟩ ?_
                subst hQ
                exact rtl hx hb hr hlocks rfl (by first | (unfold wishM; unfold wishM1; unfold wishE; unfold needM; unfold shiftM; (try first | rw [if_pos c11_71] | rw [if_neg c11_71]); (try first | rw [if_pos c36_74] | rw [if_neg c36_74]); (try first | rw [if_pos c62_77] | rw [if_neg c62_77]); (try first | rw [if_pos c116_81] | rw [if_neg c116_81]); (try first | rw [if_pos c145_116] | rw [if_neg c145_116]); (try first | rw [if_pos c158_120] | rw [if_neg c158_120]); (try rfl); done) | (exfalso; omega)) dX5_wish_260
              · have c158_120 : ((g 5) ((g 3) (4 * ((16 + (8 * h)) + (bitsN sx ((26 + (9 * h)) + 3) 3))))) &&& 1 = 0 := (nI_eqG (a := ((g 5) ((g 3) (4 * ((16 + (8 * h)) + (bitsN sx ((26 + (9 * h)) + 3) 3))))) &&& 1) (b := 0) (by omega) (by omega)).mp c158_120
                refine lv_lload_n hx hb dX5_wish_161 rfl (lv_at hl 6 rfl) ?_
                refine lv_iload_n hx hb dX5_wish_162 rfl (lv_at hl 7 rfl) ?_
                refine cSl (As := [.long (lN sx), .int (nI h)]) (rest := []) ⟨hx, hb, hml, hown, hts⟩ (c_X5_broken l  sx h (by omega) (by omega)) (va_cwS 2 hts (gS mU_521 mU_522 mU_6 mU_523) rfl rfl rfl (by decide +kernel) ⟨Nat.le_of_ble_eq_true rfl, Nat.le_of_ble_eq_true rfl⟩) fbU (fun _ _ _ => trivial) rfl hl.1 rfl (Nat.le_of_ble_eq_true rfl) dX5_wish_163 ⟨Nat.zero_le _, Nat.zero_le _⟩ ?_
                have hf_130 : brokenM sx h < 2 ^ 48 := withN_lt (withN_lt (withN_lt (by omega) (by omega) (by omega)) (by omega) (by omega)) (by omega) (by omega)
                subst hQ
                exact rtl hx hb hr hlocks rfl (by first | (unfold wishM; unfold wishM1; unfold wishE; unfold needM; (try first | rw [if_pos c11_71] | rw [if_neg c11_71]); (try first | rw [if_pos c36_74] | rw [if_neg c36_74]); (try first | rw [if_pos c62_77] | rw [if_neg c62_77]); (try first | rw [if_pos c116_81] | rw [if_neg c116_81]); (try first | rw [if_pos c145_116] | rw [if_neg c145_116]); (try first | rw [if_pos c158_120] | rw [if_neg c158_120]); (try rfl); done) | (exfalso; omega)) dX5_wish_166
        · have c62_77 : ¬ (sortM g sx h 0 = 1) := fun h9 => c62_77 ((nI_eqG (a := sortM g sx h 0) (b := 1) (by omega) (by omega)).mpr h9)
          refine lv_ldc2 (v := (-1)) hx hb hown (hU _ mU_483) dX5_wish_65 ?_
          subst hQ
          exact rtl hx hb hr hlocks rfl (by first | (unfold wishM; unfold wishM1; (try first | rw [if_pos c11_71] | rw [if_neg c11_71]); (try first | rw [if_pos c36_74] | rw [if_neg c36_74]); (try first | rw [if_pos c62_77] | rw [if_neg c62_77]); (try rfl); done) | (exfalso; omega)) dX5_wish_68
      · have c36_74 : sortM g sx h 1 = 1 := (nI_eqG (a := sortM g sx h 1) (b := 1) (by omega) (by omega)).mp c36_74
        refine lv_ldc2 (v := (-1)) hx hb hown (hU _ mU_483) dX5_wish_39 ?_
        subst hQ
        exact rtl hx hb hr hlocks rfl (by first | (unfold wishM; unfold wishM1; (try first | rw [if_pos c11_71] | rw [if_neg c11_71]); (try first | rw [if_pos c36_74] | rw [if_neg c36_74]); (try rfl); done) | (exfalso; omega)) dX5_wish_42
    · have c11_71 : ¬ (1 < bitsN sx (22 + 2 * h) 2) := fun h9 => c11_71 ((nI_ltI (a := 1) (b := bitsN sx (22 + 2 * h) 2) (by omega) (by omega)).mpr h9)
      refine lv_ldc2 (v := (-1)) hx hb hown (hU _ mU_483) dX5_wish_14 ?_
      subst hQ
      exact rtl hx hb hr hlocks rfl (by first | (unfold wishM; unfold wishM1; (try first | rw [if_pos c11_71] | rw [if_neg c11_71]); (try rfl); done) | (exfalso; omega)) dX5_wish_17
  · have hl : lv_has ls 13 [(0, .ref (ad 0)), (1, .long (lN sx)), (3, .int (nI h)), (4, .int (nI 2))] := hl
    obtain ⟨hsx, hw0⟩ := hwf
    have hl7 := (hL h hh).1
    refine lv_lload_n hx hb dX5_wish_0 rfl (lv_at hl 1 rfl) ?_
    refine lv_iload_n hx hb dX5_wish_1 rfl (lv_at hl 2 rfl) ?_
    refine cSi (As := [.long (lN sx), .int (nI h)]) (rest := []) ⟨hx, hb, hml, hown, hts⟩ (c_X5_wishes l  sx h (by omega) (by omega)) (va_cwS 2 hts (gS mU_506 mU_507 mU_6 mU_508) rfl rfl rfl (by decide +kernel) ⟨Nat.le_of_ble_eq_true rfl, Nat.le_of_ble_eq_true rfl⟩) fbU (fun _ _ _ => trivial) rfl hl.1 rfl (Nat.le_of_ble_eq_true rfl) dX5_wish_2 ⟨Nat.zero_le _, Nat.zero_le _⟩ ?_
    have hf_131 : bitsN sx (22 + 2 * h) 2 < 4 := bitsN_lt _ _ _
    refine lv_istore (lv' := [(5, .int (nI (bitsN sx (22 + 2 * h) 2))), (0, .ref (ad 0)), (1, .long (lN sx)), (3, .int (nI h)), (4, .int (nI 2))]) hx hb dX5_wish_5 hl (by decide) rfl (fun ls hl => ?_)
    refine lv_iload hx hb dX5_wish_7 (lv_at hl 4 rfl) ?_
    refine lv_iload hx hb dX5_wish_9 (lv_at hl 0 rfl) ?_
    refine lv_icmp_lt (tgt := 18) hx hb dX5_wish_11 (by decide) (fun c11_132 => ?_) (fun c11_132 => ?_)
    · have c11_132 : 2 < bitsN sx (22 + 2 * h) 2 := (nI_ltI (a := 2) (b := bitsN sx (22 + 2 * h) 2) (by omega) (by omega)).mp c11_132
      have hwq : bitsN sx (26 + 9 * h + 6) 3 < g 1 (2 + h) ∧ sortM g sx h 2 < 4 := (hw0 h hh).2 2 (by omega)
      have hokq := (hL h hh).2 _ hwq.1
      have hka : g 3 (4 * (16 + 8 * h + bitsN sx (26 + 9 * h + 6) 3)) < 4 ∧ g 3 (4 * (16 + 8 * h + bitsN sx (26 + 9 * h + 6) 3) + 1) < 4 := okS_a hokq hwq.2
      refine lv_aload_n hx hb dX5_wish_18 rfl (lv_at hl 1 rfl) ?_
      refine lv_lload_n hx hb dX5_wish_19 rfl (lv_at hl 2 rfl) ?_
      refine lv_iload_n hx hb dX5_wish_20 rfl (lv_at hl 3 rfl) ?_
      refine lv_iload hx hb dX5_wish_21 (lv_at hl 4 rfl) ?_
      refine cVi (As := [.long (lN sx), .int (nI h), .int (nI 2)]) (rest := []) ⟨hx, hb, hml, hown, hts⟩ (c_X5_sortOf l D ad ka f g t sx h 2 (hg) (by omega) (by omega) (by omega)) (cwV 3 hts (gV mU_513 mU_514 mU_515 mU_6 mU_516) rfl rfl rfl (by decide +kernel) ⟨Nat.le_of_ble_eq_true rfl, Nat.le_of_ble_eq_true rfl⟩) fbR (va_recv hK hP (ci := 5) (q0 := 0) rfl rfl) (PR.of hP hK) rfl hl.1 rfl (Nat.le_of_ble_eq_true rfl) dX5_wish_23 ⟨Nat.zero_le _, Nat.zero_le _⟩ ?_
      have hf_133 : sortM g sx h 2 < 2147483648 := hg 2 (by decide) _
      refine lv_istore (lv' := [(6, .int (nI (sortM g sx h 2))), (5, .int (nI (bitsN sx (22 + 2 * h) 2))), (0, .ref (ad 0)), (1, .long (lN sx)), (3, .int (nI h)), (4, .int (nI 2))]) hx hb dX5_wish_26 hl (by decide) rfl (fun ls hl => ?_)
      refine lv_iload hx hb dX5_wish_28 (lv_at hl 5 rfl) ?_
      refine lv_if_le (tgt := 43) hx hb dX5_wish_30 (by decide) (fun c30_134 => absurd c30_134 (by decide)) (fun c30_134 => ?_)
      refine lv_iload hx hb dX5_wish_33 (lv_at hl 0 rfl) ?_
      refine lv_iconst (v := nI 1) hx hb dX5_wish_35 (by decide) ?_
      refine lv_icmp_ne (tgt := 43) hx hb dX5_wish_36 (by decide) (fun c36_135 => ?_) (fun c36_135 => ?_)
      · have c36_135 : ¬ (sortM g sx h 2 = 1) := fun h9 => c36_135 ((nI_eqG (a := sortM g sx h 2) (b := 1) (by omega) (by omega)).mpr h9)
        refine lv_iconst (v := nI 0) hx hb dX5_wish_43 (by decide) ?_
        refine lv_istore (lv' := [(7, .int (nI 0)), (6, .int (nI (sortM g sx h 2))), (5, .int (nI (bitsN sx (22 + 2 * h) 2))), (0, .ref (ad 0)), (1, .long (lN sx)), (3, .int (nI h)), (4, .int (nI 2))]) hx hb dX5_wish_44 hl (by decide) rfl (fun ls hl => ?_)
        refine lv_iload hx hb dX5_wish_46 (lv_at hl 0 rfl) ?_
        refine lv_iload hx hb dX5_wish_48 (lv_at hl 6 rfl) ?_
        refine lv_icmp_ge (tgt := 75) hx hb dX5_wish_50 (by decide) (fun c50_136 => absurd c50_136 (by decide)) (fun c50_136 => ?_)
        refine lv_aload_n hx hb dX5_wish_53 rfl (lv_at hl 3 rfl) ?_
        refine lv_lload_n hx hb dX5_wish_54 rfl (lv_at hl 4 rfl) ?_
        refine lv_iload_n hx hb dX5_wish_55 rfl (lv_at hl 5 rfl) ?_
        refine lv_iload hx hb dX5_wish_56 (lv_at hl 0 rfl) ?_
        refine cVi (As := [.long (lN sx), .int (nI h), .int (nI 0)]) (rest := []) ⟨hx, hb, hml, hown, hts⟩ (c_X5_sortOf l D ad ka f g t sx h 0 (hg) (by omega) (by omega) (by omega)) (cwV 3 hts (gV mU_513 mU_514 mU_515 mU_6 mU_516) rfl rfl rfl (by decide +kernel) ⟨Nat.le_of_ble_eq_true rfl, Nat.le_of_ble_eq_true rfl⟩) fbR (va_recv hK hP (ci := 5) (q0 := 0) rfl rfl) (PR.of hP hK) rfl hl.1 rfl (Nat.le_of_ble_eq_true rfl) dX5_wish_58 ⟨Nat.zero_le _, Nat.zero_le _⟩ ?_
        have hf_137 : sortM g sx h 0 < 2147483648 := hg 2 (by decide) _
        refine lv_iconst (v := nI 1) hx hb dX5_wish_61 (by decide) ?_
        refine lv_icmp_eq (tgt := 69) hx hb dX5_wish_62 (by decide) (fun c62_138 => ?_) (fun c62_138 => ?_)
        · have c62_138 : sortM g sx h 0 = 1 := (nI_eqG (a := sortM g sx h 0) (b := 1) (by omega) (by omega)).mp c62_138
          refine lv_iinc (v := nI 1) (lv' := [(7, .int (nI 1)), (6, .int (nI (sortM g sx h 2))), (5, .int (nI (bitsN sx (22 + 2 * h) 2))), (0, .ref (ad 0)), (1, .long (lN sx)), (3, .int (nI h)), (4, .int (nI 2))]) hx hb dX5_wish_69 hl (k := 0) rfl (by decide) (by decide) rfl (fun ls hl => ?_)
          refine lv_goto (tgt := 46) hx hb dX5_wish_72 (by decide) ?_
          refine lv_iload hx hb dX5_wish_46 (lv_at hl 0 rfl) ?_
          refine lv_iload hx hb dX5_wish_48 (lv_at hl 6 rfl) ?_
          refine lv_icmp_ge (tgt := 75) hx hb dX5_wish_50 (by decide) (fun c50_139 => absurd c50_139 (by decide)) (fun c50_139 => ?_)
          refine lv_aload_n hx hb dX5_wish_53 rfl (lv_at hl 3 rfl) ?_
          refine lv_lload_n hx hb dX5_wish_54 rfl (lv_at hl 4 rfl) ?_
          refine lv_iload_n hx hb dX5_wish_55 rfl (lv_at hl 5 rfl) ?_
          refine lv_iload hx hb dX5_wish_56 (lv_at hl 0 rfl) ?_
          refine cVi (As := [.long (lN sx), .int (nI h), .int (nI 1)]) (rest := []) ⟨hx, hb, hml, hown, hts⟩ (c_X5_sortOf l D ad ka f g t sx h 1 (hg) (by omega) (by omega) (by omega)) (cwV 3 hts (gV mU_513 mU_514 mU_515 mU_6 mU_516) rfl rfl rfl (by decide +kernel) ⟨Nat.le_of_ble_eq_true rfl, Nat.le_of_ble_eq_true rfl⟩) fbR (va_recv hK hP (ci := 5) (q0 := 0) rfl rfl) (PR.of hP hK) rfl hl.1 rfl (Nat.le_of_ble_eq_true rfl) dX5_wish_58 ⟨Nat.zero_le _, Nat.zero_le _⟩ ?_
          have hf_140 : sortM g sx h 1 < 2147483648 := hg 2 (by decide) _
          refine lv_iconst (v := nI 1) hx hb dX5_wish_61 (by decide) ?_
          refine lv_icmp_eq (tgt := 69) hx hb dX5_wish_62 (by decide) (fun c62_141 => ?_) (fun c62_141 => ?_)
          · have c62_141 : sortM g sx h 1 = 1 := (nI_eqG (a := sortM g sx h 1) (b := 1) (by omega) (by omega)).mp c62_141
            refine lv_iinc (v := nI 2) (lv' := [(7, .int (nI 2)), (6, .int (nI (sortM g sx h 2))), (5, .int (nI (bitsN sx (22 + 2 * h) 2))), (0, .ref (ad 0)), (1, .long (lN sx)), (3, .int (nI h)), (4, .int (nI 2))]) hx hb dX5_wish_69 hl (k := 0) rfl (by decide) (by decide) rfl (fun ls hl => ?_)
            refine lv_goto (tgt := 46) hx hb dX5_wish_72 (by decide) ?_
            refine lv_iload hx hb dX5_wish_46 (lv_at hl 0 rfl) ?_
            refine lv_iload hx hb dX5_wish_48 (lv_at hl 6 rfl) ?_
            refine lv_icmp_ge (tgt := 75) hx hb dX5_wish_50 (by decide) (fun c50_142 => ?_) (fun c50_142 => absurd (by decide) c50_142)
            refine lv_bipush (v := nI 16) hx hb dX5_wish_75 (by decide) ?_
            refine lv_bipush (v := nI 8) hx hb dX5_wish_77 (by decide) ?_
            refine lv_iload_n hx hb dX5_wish_79 rfl (lv_at hl 5 rfl) ?_
            refine lv_imul hx hb dX5_wish_80 ?_
            refine lv_topE (nI (8 * h)) (pk_mul _ _) ?_
            refine lv_iadd hx hb dX5_wish_81 ?_
            refine lv_topE (nI (16 + (8 * h))) (nI_add _ _) ?_
            refine lv_lload_n hx hb dX5_wish_82 rfl (lv_at hl 4 rfl) ?_
            refine lv_bipush (v := nI 26) hx hb dX5_wish_83 (by decide) ?_
            refine lv_bipush (v := nI 9) hx hb dX5_wish_85 (by decide) ?_
            refine lv_iload_n hx hb dX5_wish_87 rfl (lv_at hl 5 rfl) ?_
            refine lv_imul hx hb dX5_wish_88 ?_
            refine lv_topE (nI (9 * h)) (pk_mul _ _) ?_
            refine lv_iadd hx hb dX5_wish_89 ?_
            refine lv_topE (nI (26 + (9 * h))) (nI_add _ _) ?_
            refine lv_iconst (v := nI 3) hx hb dX5_wish_90 (by decide) ?_
            refine lv_iload hx hb dX5_wish_91 (lv_at hl 6 rfl) ?_
            refine lv_imul hx hb dX5_wish_93 ?_
            refine lv_topE (nI 6) (pk_mul _ _) ?_
            refine lv_iadd hx hb dX5_wish_94 ?_
            refine lv_topE (nI ((26 + (9 * h)) + 6)) (nI_add _ _) ?_
            refine lv_iconst (v := nI 3) hx hb dX5_wish_95 (by decide) ?_
            refine cSi (As := [.long (lN sx), .int (nI ((26 + (9 * h)) + 6)), .int (nI 3)]) (rest := [.int (nI (16 + (8 * h)))]) ⟨hx, hb, hml, hown, hts⟩ (c_X5_bits l  sx ((26 + (9 * h)) + 6) 3 (by omega) (by omega) (by omega)) (va_cwS 3 hts (gS mU_503 mU_504 mU_6 mU_505) rfl rfl rfl (by decide +kernel) ⟨Nat.le_of_ble_eq_true rfl, Nat.le_of_ble_eq_true rfl⟩) fbU (fun _ _ _ => trivial) rfl hl.1 rfl (Nat.le_of_ble_eq_true rfl) dX5_wish_96 ⟨Nat.zero_le _, Nat.zero_le _⟩ ?_
            have hf_143 : bitsN sx ((26 + (9 * h)) + 6) 3 < 2 ^ 3 := bitsN_lt _ _ _
            refine lv_iadd hx hb dX5_wish_99 ?_
            refine lv_topE (nI ((16 + (8 * h)) + (bitsN sx ((26 + (9 * h)) + 6) 3))) (nI_add _ _) ?_
            refine lv_istore (lv' := [(7, .int (nI ((16 + (8 * h)) + (bitsN sx ((26 + (9 * h)) + 6) 3)))), (6, .int (nI (sortM g sx h 2))), (5, .int (nI (bitsN sx (22 + 2 * h) 2))), (0, .ref (ad 0)), (1, .long (lN sx)), (3, .int (nI h)), (4, .int (nI 2))]) hx hb dX5_wish_100 hl (by decide) rfl (fun ls hl => ?_)
            refine lv_aload_n hx hb dX5_wish_102 rfl (lv_at hl 3 rfl) ?_
            refine va_get (D := D) (ci := 5) (v := .ref (ad 3)) (C := RX5) (T := TX5) (N := 23) hx hb hU iX5 hown hK hP 0 rfl rfl 2 (by decide) (hU _ mU_77) (fun _ h9 => h9) rfl dX5_wish_103 ?_
            refine lv_iconst (v := nI 4) hx hb dX5_wish_106 (by decide) ?_
            refine lv_iload hx hb dX5_wish_107 (lv_at hl 0 rfl) ?_
            refine lv_imul hx hb dX5_wish_109 ?_
            refine lv_topE (nI (4 * ((16 + (8 * h)) + (bitsN sx ((26 + (9 * h)) + 6) 3)))) (pk_mul _ _) ?_
            refine n_iald hx hb hK hP 3 2 rfl rfl (i := 4 * ((16 + (8 * h)) + (bitsN sx ((26 + (9 * h)) + 6) 3))) (by omega) (by decide) dX5_wish_110 ?_
            have hb_144 := hg 3 (by decide) (4 * ((16 + (8 * h)) + (bitsN sx ((26 + (9 * h)) + 6) 3)))
            refine lv_istore (lv' := [(8, .int (nI ((g 3) (4 * ((16 + (8 * h)) + (bitsN sx ((26 + (9 * h)) + 6) 3)))))), (7, .int (nI ((16 + (8 * h)) + (bitsN sx ((26 + (9 * h)) + 6) 3)))), (6, .int (nI (sortM g sx h 2))), (5, .int (nI (bitsN sx (22 + 2 * h) 2))), (0, .ref (ad 0)), (1, .long (lN sx)), (3, .int (nI h)), (4, .int (nI 2))]) hx hb dX5_wish_111 hl (by decide) rfl (fun ls hl => ?_)
            refine lv_iload hx hb dX5_wish_113 (lv_at hl 2 rfl) ?_
            refine lv_iconst (v := nI 1) hx hb dX5_wish_115 (by decide) ?_
            refine lv_icmp_ne (tgt := 123) hx hb dX5_wish_116 (by decide) (fun c116_145 => ?_) (fun c116_145 => ?_)
            · have c116_145 : ¬ (sortM g sx h 2 = 1) := fun h9 => c116_145 ((nI_eqG (a := sortM g sx h 2) (b := 1) (by omega) (by omega)).mpr h9)
              refine lv_iload hx hb dX5_wish_123 (lv_at hl 2 rfl) ?_
              refine lv_if_ne (tgt := 132) hx hb dX5_wish_125 (by decide) (fun c125_146 => ?_) (fun c125_146 => ?_)
              · have c125_146 : ¬ (sortM g sx h 2 = 0) := fun h9 => c125_146 ((nI_eqG (a := sortM g sx h 2) (b := 0) (by omega) (by omega)).mpr h9)
                refine lv_iconst (v := nI 4) hx hb dX5_wish_132 (by decide) ?_
                refine lv_istore (lv' := [(9, .int (nI 4)), (8, .int (nI ((g 3) (4 * ((16 + (8 * h)) + (bitsN sx ((26 + (9 * h)) + 6) 3)))))), (7, .int (nI ((16 + (8 * h)) + (bitsN sx ((26 + (9 * h)) + 6) 3)))), (6, .int (nI (sortM g sx h 2))), (5, .int (nI (bitsN sx (22 + 2 * h) 2))), (0, .ref (ad 0)), (1, .long (lN sx)), (3, .int (nI h)), (4, .int (nI 2))]) hx hb dX5_wish_133 hl (by decide) rfl (fun ls hl => ?_)
                refine lv_lload_n hx hb dX5_wish_135 rfl (lv_at hl 6 rfl) ?_
                refine lv_bipush (v := nI 46) hx hb dX5_wish_136 (by decide) ?_
                refine lv_iconst (v := nI 2) hx hb dX5_wish_138 (by decide) ?_
                refine cSi (As := [.long (lN sx), .int (nI 46), .int (nI 2)]) (rest := []) ⟨hx, hb, hml, hown, hts⟩ (c_X5_bits l  sx 46 2 (by omega) (by omega) (by omega)) (va_cwS 3 hts (gS mU_503 mU_504 mU_6 mU_505) rfl rfl rfl (by decide +kernel) ⟨Nat.le_of_ble_eq_true rfl, Nat.le_of_ble_eq_true rfl⟩) fbU (fun _ _ _ => trivial) rfl hl.1 rfl (Nat.le_of_ble_eq_true rfl) dX5_wish_139 ⟨Nat.zero_le _, Nat.zero_le _⟩ ?_
                have hf_147 : bitsN sx 46 2 < 2 ^ 2 := bitsN_lt _ _ _
                refine lv_iconst (v := nI 2) hx hb dX5_wish_142 (by decide) ?_
                refine lv_iload_n hx hb dX5_wish_143 rfl (lv_at hl 7 rfl) ?_
                refine lv_isub hx hb dX5_wish_144 ?_
                refine lv_topE (nI (2 - h)) (pk_sub (by omega)) ?_
                refine lv_icmp_eq (tgt := 161) hx hb dX5_wish_145 (by decide) (fun c145_148 => ?_) (fun c145_148 => ?_)
                · have c145_148 : bitsN sx 46 2 = 2 - h := (nI_eqG (a := bitsN sx 46 2) (b := 2 - h) (by omega) (by omega)).mp c145_148
                  refine lv_lload_n hx hb dX5_wish_161 rfl (lv_at hl 6 rfl) ?_
                  refine lv_iload_n hx hb dX5_wish_162 rfl (lv_at hl 7 rfl) ?_
                  refine cSl (As := [.long (lN sx), .int (nI h)]) (rest := []) ⟨hx, hb, hml, hown, hts⟩ (c_X5_broken l  sx h (by omega) (by omega)) (va_cwS 2 hts (gS mU_521 mU_522 mU_6 mU_523) rfl rfl rfl (by decide +kernel) ⟨Nat.le_of_ble_eq_true rfl, Nat.le_of_ble_eq_true rfl⟩) fbU (fun _ _ _ => trivial) rfl hl.1 rfl (Nat.le_of_ble_eq_true rfl) dX5_wish_163 ⟨Nat.zero_le _, Nat.zero_le _⟩ ?_
                  have hf_149 : brokenM sx h < 2 ^ 48 := withN_lt (withN_lt (withN_lt (by omega) (by omega) (by omega)) (by omega) (by omega)) (by omega) (by omega)
                  subst hQ
                  exact rtl hx hb hr hlocks rfl (by first | (unfold wishM; unfold wishM2; unfold wishE; unfold needM; (try first | rw [if_pos c11_132] | rw [if_neg c11_132]); (try first | rw [if_pos c36_135] | rw [if_neg c36_135]); (try first | rw [if_pos c62_138] | rw [if_neg c62_138]); (try first | rw [if_pos c62_141] | rw [if_neg c62_141]); (try first | rw [if_pos c116_145] | rw [if_neg c116_145]); (try first | rw [if_pos c125_146] | rw [if_neg c125_146]); (try first | rw [if_pos c145_148] | rw [if_neg c145_148]); (try rfl); done) | (exfalso; omega)) dX5_wish_166
                · have c145_148 : ¬ (bitsN sx 46 2 = 2 - h) := fun h9 => c145_148 ((nI_eqG (a := bitsN sx 46 2) (b := 2 - h) (by omega) (by omega)).mpr h9)
                  refine lv_aload_n hx hb dX5_wish_148 rfl (lv_at hl 5 rfl) ?_
                  refine va_get (D := D) (ci := 5) (v := .ref (ad 5)) (C := RX5) (T := TX5) (N := 23) hx hb hU iX5 hown hK hP 0 rfl rfl 4 (by decide) (hU _ mU_79) (fun _ h9 => h9) rfl dX5_wish_149 ?_
                  refine lv_iload hx hb dX5_wish_152 (lv_at hl 1 rfl) ?_
                  refine n_iald hx hb hK hP 5 4 rfl rfl (i := (g 3) (4 * ((16 + (8 * h)) + (bitsN sx ((26 + (9 * h)) + 6) 3)))) (by omega) (by decide) dX5_wish_154 ?_
                  have hb_150 := hg 5 (by decide) ((g 3) (4 * ((16 + (8 * h)) + (bitsN sx ((26 + (9 * h)) + 6) 3))))
                  refine lv_iload hx hb dX5_wish_155 (lv_at hl 0 rfl) ?_
                  refine lv_iand hx hb dX5_wish_157 ?_
                  have hb_151 : ((g 5) ((g 3) (4 * ((16 + (8 * h)) + (bitsN sx ((26 + (9 * h)) + 6) 3))))) &&& 4 ≤ 4 := Nat.and_le_right
                  refine lv_topE (nI (((g 5) ((g 3) (4 * ((16 + (8 * h)) + (bitsN sx ((26 + (9 * h)) + 6) 3))))) &&& 4)) (fa_and _ _) ?_
                  refine lv_if_ne (tgt := 167) hx hb dX5_wish_158 (by decide) (fun c158_152 => ?_) (fun c158_152 => ?_)
                  · have c158_152 : ¬ (((g 5) ((g 3) (4 * ((16 + (8 * h)) + (bitsN sx ((26 + (9 * h)) + 6) 3))))) &&& 4 = 0) := fun h9 => c158_152 ((nI_eqG (a := ((g 5) ((g 3) (4 * ((16 + (8 * h)) + (bitsN sx ((26 + (9 * h)) + 6) 3))))) &&& 4) (b := 0) (by omega) (by omega)).mpr h9)
                    refine lv_lload_n hx hb dX5_wish_167 rfl (lv_at hl 6 rfl) ?_
                    refine lv_bipush (v := nI 22) hx hb dX5_wish_168 (by decide) ?_
                    refine lv_iconst (v := nI 2) hx hb dX5_wish_170 (by decide) ?_
                    refine lv_iload_n hx hb dX5_wish_171 rfl (lv_at hl 7 rfl) ?_
                    refine lv_imul hx hb dX5_wish_172 ?_
                    refine lv_topE (nI (2 * h)) (pk_mul _ _) ?_
                    refine lv_iadd hx hb dX5_wish_173 ?_
                    refine lv_topE (nI (22 + (2 * h))) (nI_add _ _) ?_
                    refine lv_iconst (v := nI 2) hx hb dX5_wish_174 (by decide) ?_
                    refine lv_iload hx hb dX5_wish_175 (lv_at hl 4 rfl) ?_
                    refine lv_iconst (v := nI 1) hx hb dX5_wish_177 (by decide) ?_
                    refine lv_isub hx hb dX5_wish_178 ?_
                    refine lv_topE (nI ((bitsN sx (22 + 2 * h) 2) - 1)) (pk_sub (by omega)) ?_
                    refine cSl (As := [.long (lN sx), .int (nI (22 + (2 * h))), .int (nI 2), .int (nI ((bitsN sx (22 + 2 * h) 2) - 1))]) (rest := []) ⟨hx, hb, hml, hown, hts⟩ (c_X5_with l  sx (22 + (2 * h)) 2 ((bitsN sx (22 + 2 * h) 2) - 1) (by omega) (by omega) (by omega) (by omega)) (va_cwS 4 hts (gS mU_480 mU_481 mU_6 mU_482) rfl rfl rfl (by decide +kernel) ⟨Nat.le_of_ble_eq_true rfl, Nat.le_of_ble_eq_true rfl⟩) fbU (fun _ _ _ => trivial) rfl hl.1 rfl (Nat.le_of_ble_eq_true rfl) dX5_wish_179 ⟨Nat.zero_le _, Nat.zero_le _⟩ ?_
                    have hf_153 : withN sx (22 + (2 * h)) 2 ((bitsN sx (22 + 2 * h) 2) - 1) < 2 ^ 48 := withN_lt (by omega) (by omega) (by omega)
                    refine lv_lstore (lv' := [(10, .long (lN (withN sx (22 + (2 * h)) 2 ((bitsN sx (22 + 2 * h) 2) - 1)))), (9, .int (nI 4)), (8, .int (nI ((g 3) (4 * ((16 + (8 * h)) + (bitsN sx ((26 + (9 * h)) + 6) 3)))))), (7, .int (nI ((16 + (8 * h)) + (bitsN sx ((26 + (9 * h)) + 6) 3)))), (6, .int (nI (sortM g sx h 2))), (5, .int (nI (bitsN sx (22 + 2 * h) 2))), (0, .ref (ad 0)), (1, .long (lN sx)), (3, .int (nI h)), (4, .int (nI 2))]) hx hb dX5_wish_182 hl (by decide) rfl (fun ls hl => ?_)
                    refine lv_iload hx hb dX5_wish_184 (lv_at hl 9 rfl) ?_
                    refine lv_istore (lv' := [(12, .int (nI 2)), (10, .long (lN (withN sx (22 + (2 * h)) 2 ((bitsN sx (22 + 2 * h) 2) - 1)))), (9, .int (nI 4)), (8, .int (nI ((g 3) (4 * ((16 + (8 * h)) + (bitsN sx ((26 + (9 * h)) + 6) 3)))))), (7, .int (nI ((16 + (8 * h)) + (bitsN sx ((26 + (9 * h)) + 6) 3)))), (6, .int (nI (sortM g sx h 2))), (5, .int (nI (bitsN sx (22 + 2 * h) 2))), (0, .ref (ad 0)), (1, .long (lN sx)), (3, .int (nI h)), (4, .int (nI 2))]) hx hb dX5_wish_186 hl (by decide) rfl (fun ls hl => ?_)
                    refine lv_iload hx hb dX5_wish_188 (lv_at hl 0 rfl) ?_
                    refine lv_iconst (v := nI 3) hx hb dX5_wish_190 (by decide) ?_
                    refine lv_icmp_ge (tgt := 249) hx hb dX5_wish_191 (by decide) (fun c191_154 => absurd c191_154 (by decide)) (fun c191_154 => ?_)
                    refine lv_lload hx hb dX5_wish_194 (lv_at hl 1 rfl) ?_
                    refine lv_bipush (v := nI 26) hx hb dX5_wish_196 (by decide) ?_
                    refine lv_bipush (v := nI 9) hx hb dX5_wish_198 (by decide) ?_
                    refine lv_iload_n hx hb dX5_wish_200 rfl (lv_at hl 9 rfl) ?_
                    refine lv_imul hx hb dX5_wish_201 ?_
                    refine lv_topE (nI (9 * h)) (pk_mul _ _) ?_
                    refine lv_iadd hx hb dX5_wish_202 ?_
                    refine lv_topE (nI (26 + (9 * h))) (nI_add _ _) ?_
                    refine lv_iconst (v := nI 3) hx hb dX5_wish_203 (by decide) ?_
                    refine lv_iload hx hb dX5_wish_204 (lv_at hl 0 rfl) ?_
                    refine lv_imul hx hb dX5_wish_206 ?_
                    refine lv_topE (nI 6) (pk_mul _ _) ?_
                    refine lv_iadd hx hb dX5_wish_207 ?_
                    refine lv_topE (nI ((26 + (9 * h)) + 6)) (nI_add _ _) ?_
                    refine lv_iconst (v := nI 3) hx hb dX5_wish_208 (by decide) ?_
                    refine lv_iload hx hb dX5_wish_209 (lv_at hl 0 rfl) ?_
                    refine lv_iconst (v := nI 2) hx hb dX5_wish_211 (by decide) ?_
                    refine lv_icmp_ge (tgt := 237) hx hb dX5_wish_212 (by decide) (fun c212_155 => ?_) (fun c212_155 => absurd (by decide) c212_155)
                    refine lv_iconst (v := nI 0) hx hb dX5_wish_237 (by decide) ?_
                    refine cSl (As := [.long (lN (withN sx (22 + (2 * h)) 2 ((bitsN sx (22 + 2 * h) 2) - 1))), .int (nI ((26 + (9 * h)) + 6)), .int (nI 3), .int (nI 0)]) (rest := []) ⟨hx, hb, hml, hown, hts⟩ (c_X5_with l  (withN sx (22 + (2 * h)) 2 ((bitsN sx (22 + 2 * h) 2) - 1)) ((26 + (9 * h)) + 6) 3 0 (by omega) (by omega) (by omega) (by omega)) (va_cwS 4 hts (gS mU_480 mU_481 mU_6 mU_482) rfl rfl rfl (by decide +kernel) ⟨Nat.le_of_ble_eq_true rfl, Nat.le_of_ble_eq_true rfl⟩) fbU (fun _ _ _ => trivial) rfl hl.1 rfl (Nat.le_of_ble_eq_true rfl) dX5_wish_238 ⟨Nat.zero_le _, Nat.zero_le _⟩ ?_
                    have hf_156 : withN (withN sx (22 + (2 * h)) 2 ((bitsN sx (22 + 2 * h) 2) - 1)) ((26 + (9 * h)) + 6) 3 0 < 2 ^ 48 := withN_lt (by omega) (by omega) (by omega)
                    refine lv_lstore (lv' := [(10, .long (lN (withN (withN sx (22 + (2 * h)) 2 ((bitsN sx (22 + 2 * h) 2) - 1)) ((26 + (9 * h)) + 6) 3 0))), (12, .int (nI 2)), (9, .int (nI 4)), (8, .int (nI ((g 3) (4 * ((16 + (8 * h)) + (bitsN sx ((26 + (9 * h)) + 6) 3)))))), (7, .int (nI ((16 + (8 * h)) + (bitsN sx ((26 + (9 * h)) + 6) 3)))), (6, .int (nI (sortM g sx h 2))), (5, .int (nI (bitsN sx (22 + 2 * h) 2))), (0, .ref (ad 0)), (1, .long (lN sx)), (3, .int (nI h)), (4, .int (nI 2))]) hx hb dX5_wish_241 hl (by decide) rfl (fun ls hl => ?_)
                    refine lv_iinc (v := nI 3) (lv' := [(12, .int (nI 3)), (10, .long (lN (withN (withN sx (22 + (2 * h)) 2 ((bitsN sx (22 + 2 * h) 2) - 1)) ((26 + (9 * h)) + 6) 3 0))), (9, .int (nI 4)), (8, .int (nI ((g 3) (4 * ((16 + (8 * h)) + (bitsN sx ((26 + (9 * h)) + 6) 3)))))), (7, .int (nI ((16 + (8 * h)) + (bitsN sx ((26 + (9 * h)) + 6) 3)))), (6, .int (nI (sortM g sx h 2))), (5, .int (nI (bitsN sx (22 + 2 * h) 2))), (0, .ref (ad 0)), (1, .long (lN sx)), (3, .int (nI h)), (4, .int (nI 2))]) hx hb dX5_wish_243 hl (k := 1) rfl (by decide) (by decide) rfl (fun ls hl => ?_)
                    refine lv_goto (tgt := 188) hx hb dX5_wish_246 (by decide) ?_
                    refine lv_iload hx hb dX5_wish_188 (lv_at hl 0 rfl) ?_
                    refine lv_iconst (v := nI 3) hx hb dX5_wish_190 (by decide) ?_
                    refine lv_icmp_ge (tgt := 249) hx hb dX5_wish_191 (by decide) (fun c191_157 => ?_) (fun c191_157 => absurd (by decide) c191_157)
                    refine lv_aload_n hx hb dX5_wish_249 rfl (lv_at hl 7 rfl) ?_
                    refine lv_lload hx hb dX5_wish_250 (lv_at hl 1 rfl) ?_
                    refine lv_iload_n hx hb dX5_wish_252 rfl (lv_at hl 9 rfl) ?_
                    refine lv_iload hx hb dX5_wish_253 (lv_at hl 5 rfl) ?_
                    refine lv_iload hx hb dX5_wish_255 (lv_at hl 4 rfl) ?_
                    refine cVl (As := [.long (lN (withN (withN sx (22 + (2 * h)) 2 ((bitsN sx (22 + 2 * h) 2) - 1)) ((26 + (9 * h)) + 6) 3 0)), .int (nI h), .int (nI (sortM g sx h 2)), .int (nI ((16 + (8 * h)) + (bitsN sx ((26 + (9 * h)) + 6) 3)))]) (rest := []) ⟨hx, hb, hml, hown, hts⟩ (c_X5_act l D ad ka f g t (withN (withN sx (22 + (2 * h)) 2 ((bitsN sx (22 + 2 * h) 2) - 1)) ((26 + (9 * h)) + 6) 3 0) h (sortM g sx h 2) ((16 + (8 * h)) + (bitsN sx ((26 + (9 * h)) + 6) 3)) (hg) (by omega) (by omega) (by omega) (by omega) (hokq)) (cwV 4 hts (gV mU_524 mU_525 mU_526 mU_6 mU_527) rfl rfl rfl (by decide +kernel) ⟨Nat.le_of_ble_eq_true rfl, Nat.le_of_ble_eq_true rfl⟩) fbR (va_recv hK hP (ci := 5) (q0 := 0) rfl rfl) (PR.of hP hK) rfl hl.1 rfl (Nat.le_of_ble_eq_true rfl) dX5_wish_257 ⟨Nat.zero_le _, Nat.zero_le _⟩ ?_
                    subst hQ
                    exact rtl hx hb hr hlocks rfl (by first | (unfold wishM; unfold wishM2; unfold wishE; unfold needM; unfold shiftM; (try first | rw [if_pos c11_132] | rw [if_neg c11_132]); (try first | rw [if_pos c36_135] | rw [if_neg c36_135]); (try first | rw [if_pos c62_138] | rw [if_neg c62_138]); (try first | rw [if_pos c62_141] | rw [if_neg c62_141]); (try first | rw [if_pos c116_145] | rw [if_neg c116_145]); (try first | rw [if_pos c125_146] | rw [if_neg c125_146]); (try first | rw [if_pos c145_148] | rw [if_neg c145_148]); (try first | rw [if_pos c158_152] | rw [if_neg c158_152]); (try rfl); done) | (exfalso; omega)) dX5_wish_260
                  · have c158_152 : ((g 5) ((g 3) (4 * ((16 + (8 * h)) + (bitsN sx ((26 + (9 * h)) + 6) 3))))) &&& 4 = 0 := (nI_eqG (a := ((g 5) ((g 3) (4 * ((16 + (8 * h)) + (bitsN sx ((26 + (9 * h)) + 6) 3))))) &&& 4) (b := 0) (by omega) (by omega)).mp c158_152
                    refine lv_lload_n hx hb dX5_wish_161 rfl (lv_at hl 6 rfl) ?_
                    refine lv_iload_n hx hb dX5_wish_162 rfl (lv_at hl 7 rfl) ?_
                    refine cSl (As := [.long (lN sx), .int (nI h)]) (rest := []) ⟨hx, hb, hml, hown, hts⟩ (c_X5_broken l  sx h (by omega) (by omega)) (va_cwS 2 hts (gS mU_521 mU_522 mU_6 mU_523) rfl rfl rfl (by decide +kernel) ⟨Nat.le_of_ble_eq_true rfl, Nat.le_of_ble_eq_true rfl⟩) fbU (fun _ _ _ => trivial) rfl hl.1 rfl (Nat.le_of_ble_eq_true rfl) dX5_wish_163 ⟨Nat.zero_le _, Nat.zero_le _⟩ ?_
                    have hf_158 : brokenM sx h < 2 ^ 48 := withN_lt (withN_lt (withN_lt (by omega) (by omega) (by omega)) (by omega) (by omega)) (by omega) (by omega)
                    subst hQ
                    exact rtl hx hb hr hlocks rfl (by first | (unfold wishM; unfold wishM2; unfold wishE; unfold needM; (try first | rw [if_pos c11_132] | rw [if_neg c11_132]); (try first | rw [if_pos c36_135] | rw [if_neg c36_135]); (try first | rw [if_pos c62_138] | rw [if_neg c62_138]); (try first | rw [if_pos c62_141] | rw [if_neg c62_141]); (try first | rw [if_pos c116_145] | rw [if_neg c116_145]); (try first | rw [if_pos c125_146] | rw [if_neg c125_146]); (try first | rw [if_pos c145_148] | rw [if_neg c145_148]); (try first | rw [if_pos c158_152] | rw [if_neg c158_152]); (try rfl); done) | (exfalso; omega)) dX5_wish_166
              · have c125_146 : sortM g sx h 2 = 0 := (nI_eqG (a := sortM g sx h 2) (b := 0) (by omega) (by omega)).mp c125_146
                refine lv_iconst (v := nI 2) hx hb dX5_wish_128 (by decide) ?_
                refine lv_goto (tgt := 133) hx hb dX5_wish_129 (by decide) ?_
                refine lv_istore (lv' := [(9, .int (nI 2)), (8, .int (nI ((g 3) (4 * ((16 + (8 * h)) + (bitsN sx ((26 + (9 * h)) + 6) 3)))))), (7, .int (nI ((16 + (8 * h)) + (bitsN sx ((26 + (9 * h)) + 6) 3)))), (6, .int (nI (sortM g sx h 2))), (5, .int (nI (bitsN sx (22 + 2 * h) 2))), (0, .ref (ad 0)), (1, .long (lN sx)), (3, .int (nI h)), (4, .int (nI 2))]) hx hb dX5_wish_133 hl (by decide) rfl (fun ls hl => ?_)
                refine lv_lload_n hx hb dX5_wish_135 rfl (lv_at hl 6 rfl) ?_
                refine lv_bipush (v := nI 46) hx hb dX5_wish_136 (by decide) ?_
                refine lv_iconst (v := nI 2) hx hb dX5_wish_138 (by decide) ?_
                refine cSi (As := [.long (lN sx), .int (nI 46), .int (nI 2)]) (rest := []) ⟨hx, hb, hml, hown, hts⟩ (c_X5_bits l  sx 46 2 (by omega) (by omega) (by omega)) (va_cwS 3 hts (gS mU_503 mU_504 mU_6 mU_505) rfl rfl rfl (by decide +kernel) ⟨Nat.le_of_ble_eq_true rfl, Nat.le_of_ble_eq_true rfl⟩) fbU (fun _ _ _ => trivial) rfl hl.1 rfl (Nat.le_of_ble_eq_true rfl) dX5_wish_139 ⟨Nat.zero_le _, Nat.zero_le _⟩ ?_
                have hf_159 : bitsN sx 46 2 < 2 ^ 2 := bitsN_lt _ _ _
                refine lv_iconst (v := nI 2) hx hb dX5_wish_142 (by decide) ?_
                refine lv_iload_n hx hb dX5_wish_143 rfl (lv_at hl 7 rfl) ?_
                refine lv_isub hx hb dX5_wish_144 ?_
                refine lv_topE (nI (2 - h)) (pk_sub (by omega)) ?_
                refine lv_icmp_eq (tgt := 161) hx hb dX5_wish_145 (by decide) (fun c145_160 => ?_) (fun c145_160 => ?_)
                · have c145_160 : bitsN sx 46 2 = 2 - h := (nI_eqG (a := bitsN sx 46 2) (b := 2 - h) (by omega) (by omega)).mp c145_160
                  refine lv_lload_n hx hb dX5_wish_161 rfl (lv_at hl 6 rfl) ?_
                  refine lv_iload_n hx hb dX5_wish_162 rfl (lv_at hl 7 rfl) ?_
                  refine cSl (As := [.long (lN sx), .int (nI h)]) (rest := []) ⟨hx, hb, hml, hown, hts⟩ (c_X5_broken l  sx h (by omega) (by omega)) (va_cwS 2 hts (gS mU_521 mU_522 mU_6 mU_523) rfl rfl rfl (by decide +kernel) ⟨Nat.le_of_ble_eq_true rfl, Nat.le_of_ble_eq_true rfl⟩) fbU (fun _ _ _ => trivial) rfl hl.1 rfl (Nat.le_of_ble_eq_true rfl) dX5_wish_163 ⟨Nat.zero_le _, Nat.zero_le _⟩ ?_
                  have hf_161 : brokenM sx h < 2 ^ 48 := withN_lt (withN_lt (withN_lt (by omega) (by omega) (by omega)) (by omega) (by omega)) (by omega) (by omega)
                  subst hQ
                  exact rtl hx hb hr hlocks rfl (by first | (unfold wishM; unfold wishM2; unfold wishE; unfold needM; (try first | rw [if_pos c11_132] | rw [if_neg c11_132]); (try first | rw [if_pos c36_135] | rw [if_neg c36_135]); (try first | rw [if_pos c62_138] | rw [if_neg c62_138]); (try first | rw [if_pos c62_141] | rw [if_neg c62_141]); (try first | rw [if_pos c116_145] | rw [if_neg c116_145]); (try first | rw [if_pos c125_146] | rw [if_neg c125_146]); (try first | rw [if_pos c145_160] | rw [if_neg c145_160]); (try rfl); done) | (exfalso; omega)) dX5_wish_166
                · have c145_160 : ¬ (bitsN sx 46 2 = 2 - h) := fun h9 => c145_160 ((nI_eqG (a := bitsN sx 46 2) (b := 2 - h) (by omega) (by omega)).mpr h9)
                  refine lv_aload_n hx hb dX5_wish_148 rfl (lv_at hl 5 rfl) ?_
                  refine va_get (D := D) (ci := 5) (v := .ref (ad 5)) (C := RX5) (T := TX5) (N := 23) hx hb hU iX5 hown hK hP 0 rfl rfl 4 (by decide) (hU _ mU_79) (fun _ h9 => h9) rfl dX5_wish_149 ?_
                  refine lv_iload hx hb dX5_wish_152 (lv_at hl 1 rfl) ?_
                  refine n_iald hx hb hK hP 5 4 rfl rfl (i := (g 3) (4 * ((16 + (8 * h)) + (bitsN sx ((26 + (9 * h)) + 6) 3)))) (by omega) (by decide) dX5_wish_154 ?_
                  have hb_162 := hg 5 (by decide) ((g 3) (4 * ((16 + (8 * h)) + (bitsN sx ((26 + (9 * h)) + 6) 3))))
                  refine lv_iload hx hb dX5_wish_155 (lv_at hl 0 rfl) ?_
                  refine lv_iand hx hb dX5_wish_157 ?_
                  have hb_163 : ((g 5) ((g 3) (4 * ((16 + (8 * h)) + (bitsN sx ((26 + (9 * h)) + 6) 3))))) &&& 2 ≤ 2 := Nat.and_le_right
                  refine lv_topE (nI (((g 5) ((g 3) (4 * ((16 + (8 * h)) + (bitsN sx ((26 + (9 * h)) + 6) 3))))) &&& 2)) (fa_and _ _) ?_
                  refine lv_if_ne (tgt := 167) hx hb dX5_wish_158 (by decide) (fun c158_164 => ?_) (fun c158_164 => ?_)
                  · have c158_164 : ¬ (((g 5) ((g 3) (4 * ((16 + (8 * h)) + (bitsN sx ((26 + (9 * h)) + 6) 3))))) &&& 2 = 0) := fun h9 => c158_164 ((nI_eqG (a := ((g 5) ((g 3) (4 * ((16 + (8 * h)) + (bitsN sx ((26 + (9 * h)) + 6) 3))))) &&& 2) (b := 0) (by omega) (by omega)).mpr h9)
                    refine lv_lload_n hx hb dX5_wish_167 rfl (lv_at hl 6 rfl) ?_
                    refine lv_bipush (v := nI 22) hx hb dX5_wish_168 (by decide) ?_
                    refine lv_iconst (v := nI 2) hx hb dX5_wish_170 (by decide) ?_
                    refine lv_iload_n hx hb dX5_wish_171 rfl (lv_at hl 7 rfl) ?_
                    refine lv_imul hx hb dX5_wish_172 ?_
                    refine lv_topE (nI (2 * h)) (pk_mul _ _) ?_
                    refine lv_iadd hx hb dX5_wish_173 ?_
                    refine lv_topE (nI (22 + (2 * h))) (nI_add _ _) ?_
                    refine lv_iconst (v := nI 2) hx hb dX5_wish_174 (by decide) ?_
                    refine lv_iload hx hb dX5_wish_175 (lv_at hl 4 rfl) ?_
                    refine lv_iconst (v := nI 1) hx hb dX5_wish_177 (by decide) ?_
                    refine lv_isub hx hb dX5_wish_178 ?_
                    refine lv_topE (nI ((bitsN sx (22 + 2 * h) 2) - 1)) (pk_sub (by omega)) ?_
                    refine cSl (As := [.long (lN sx), .int (nI (22 + (2 * h))), .int (nI 2), .int (nI ((bitsN sx (22 + 2 * h) 2) - 1))]) (rest := []) ⟨hx, hb, hml, hown, hts⟩ (c_X5_with l  sx (22 + (2 * h)) 2 ((bitsN sx (22 + 2 * h) 2) - 1) (by omega) (by omega) (by omega) (by omega)) (va_cwS 4 hts (gS mU_480 mU_481 mU_6 mU_482) rfl rfl rfl (by decide +kernel) ⟨Nat.le_of_ble_eq_true rfl, Nat.le_of_ble_eq_true rfl⟩) fbU (fun _ _ _ => trivial) rfl hl.1 rfl (Nat.le_of_ble_eq_true rfl) dX5_wish_179 ⟨Nat.zero_le _, Nat.zero_le _⟩ ?_
                    have hf_165 : withN sx (22 + (2 * h)) 2 ((bitsN sx (22 + 2 * h) 2) - 1) < 2 ^ 48 := withN_lt (by omega) (by omega) (by omega)
                    refine lv_lstore (lv' := [(10, .long (lN (withN sx (22 + (2 * h)) 2 ((bitsN sx (22 + 2 * h) 2) - 1)))), (9, .int (nI 2)), (8, .int (nI ((g 3) (4 * ((16 + (8 * h)) + (bitsN sx ((26 + (9 * h)) + 6) 3)))))), (7, .int (nI ((16 + (8 * h)) + (bitsN sx ((26 + (9 * h)) + 6) 3)))), (6, .int (nI (sortM g sx h 2))), (5, .int (nI (bitsN sx (22 + 2 * h) 2))), (0, .ref (ad 0)), (1, .long (lN sx)), (3, .int (nI h)), (4, .int (nI 2))]) hx hb dX5_wish_182 hl (by decide) rfl (fun ls hl => ?_)
                    refine lv_iload hx hb dX5_wish_184 (lv_at hl 9 rfl) ?_
                    refine lv_istore (lv' := [(12, .int (nI 2)), (10, .long (lN (withN sx (22 + (2 * h)) 2 ((bitsN sx (22 + 2 * h) 2) - 1)))), (9, .int (nI 2)), (8, .int (nI ((g 3) (4 * ((16 + (8 * h)) + (bitsN sx ((26 + (9 * h)) + 6) 3)))))), (7, .int (nI ((16 + (8 * h)) + (bitsN sx ((26 + (9 * h)) + 6) 3)))), (6, .int (nI (sortM g sx h 2))), (5, .int (nI (bitsN sx (22 + 2 * h) 2))), (0, .ref (ad 0)), (1, .long (lN sx)), (3, .int (nI h)), (4, .int (nI 2))]) hx hb dX5_wish_186 hl (by decide) rfl (fun ls hl => ?_)
                    refine lv_iload hx hb dX5_wish_188 (lv_at hl 0 rfl) ?_
                    refine lv_iconst (v := nI 3) hx hb dX5_wish_190 (by decide) ?_
                    refine lv_icmp_ge (tgt := 249) hx hb dX5_wish_191 (by decide) (fun c191_166 => absurd c191_166 (by decide)) (fun c191_166 => ?_)
                    refine lv_lload hx hb dX5_wish_194 (lv_at hl 1 rfl) ?_
                    refine lv_bipush (v := nI 26) hx hb dX5_wish_196 (by decide) ?_
                    refine lv_bipush (v := nI 9) hx hb dX5_wish_198 (by decide) ?_
                    refine lv_iload_n hx hb dX5_wish_200 rfl (lv_at hl 9 rfl) ?_
                    refine lv_imul hx hb dX5_wish_201 ?_
                    refine lv_topE (nI (9 * h)) (pk_mul _ _) ?_
                    refine lv_iadd hx hb dX5_wish_202 ?_
                    refine lv_topE (nI (26 + (9 * h))) (nI_add _ _) ?_
                    refine lv_iconst (v := nI 3) hx hb dX5_wish_203 (by decide) ?_
                    refine lv_iload hx hb dX5_wish_204 (lv_at hl 0 rfl) ?_
                    refine lv_imul hx hb dX5_wish_206 ?_
                    refine lv_topE (nI 6) (pk_mul _ _) ?_
                    refine lv_iadd hx hb dX5_wish_207 ?_
                    refine lv_topE (nI ((26 + (9 * h)) + 6)) (nI_add _ _) ?_
                    refine lv_iconst (v := nI 3) hx hb dX5_wish_208 (by decide) ?_
                    refine lv_iload hx hb dX5_wish_209 (lv_at hl 0 rfl) ?_
                    refine lv_iconst (v := nI 2) hx hb dX5_wish_211 (by decide) ?_
                    refine lv_icmp_ge (tgt := 237) hx hb dX5_wish_212 (by decide) (fun c212_167 => ?_) (fun c212_167 => absurd (by decide) c212_167)
                    refine lv_iconst (v := nI 0) hx hb dX5_wish_237 (by decide) ?_
                    refine cSl (As := [.long (lN (withN sx (22 + (2 * h)) 2 ((bitsN sx (22 + 2 * h) 2) - 1))), .int (nI ((26 + (9 * h)) + 6)), .int (nI 3), .int (nI 0)]) (rest := []) ⟨hx, hb, hml, hown, hts⟩ (c_X5_with l  (withN sx (22 + (2 * h)) 2 ((bitsN sx (22 + 2 * h) 2) - 1)) ((26 + (9 * h)) + 6) 3 0 (by omega) (by omega) (by omega) (by omega)) (va_cwS 4 hts (gS mU_480 mU_481 mU_6 mU_482) rfl rfl rfl (by decide +kernel) ⟨Nat.le_of_ble_eq_true rfl, Nat.le_of_ble_eq_true rfl⟩) fbU (fun _ _ _ => trivial) rfl hl.1 rfl (Nat.le_of_ble_eq_true rfl) dX5_wish_238 ⟨Nat.zero_le _, Nat.zero_le _⟩ ?_
                    have hf_168 : withN (withN sx (22 + (2 * h)) 2 ((bitsN sx (22 + 2 * h) 2) - 1)) ((26 + (9 * h)) + 6) 3 0 < 2 ^ 48 := withN_lt (by omega) (by omega) (by omega)
                    refine lv_lstore (lv' := [(10, .long (lN (withN (withN sx (22 + (2 * h)) 2 ((bitsN sx (22 + 2 * h) 2) - 1)) ((26 + (9 * h)) + 6) 3 0))), (12, .int (nI 2)), (9, .int (nI 2)), (8, .int (nI ((g 3) (4 * ((16 + (8 * h)) + (bitsN sx ((26 + (9 * h)) + 6) 3)))))), (7, .int (nI ((16 + (8 * h)) + (bitsN sx ((26 + (9 * h)) + 6) 3)))), (6, .int (nI (sortM g sx h 2))), (5, .int (nI (bitsN sx (22 + 2 * h) 2))), (0, .ref (ad 0)), (1, .long (lN sx)), (3, .int (nI h)), (4, .int (nI 2))]) hx hb dX5_wish_241 hl (by decide) rfl (fun ls hl => ?_)
                    refine lv_iinc (v := nI 3) (lv' := [(12, .int (nI 3)), (10, .long (lN (withN (withN sx (22 + (2 * h)) 2 ((bitsN sx (22 + 2 * h) 2) - 1)) ((26 + (9 * h)) + 6) 3 0))), (9, .int (nI 2)), (8, .int (nI ((g 3) (4 * ((16 + (8 * h)) + (bitsN sx ((26 + (9 * h)) + 6) 3)))))), (7, .int (nI ((16 + (8 * h)) + (bitsN sx ((26 + (9 * h)) + 6) 3)))), (6, .int (nI (sortM g sx h 2))), (5, .int (nI (bitsN sx (22 + 2 * h) 2))), (0, .ref (ad 0)), (1, .long (lN sx)), (3, .int (nI h)), (4, .int (nI 2))]) hx hb dX5_wish_243 hl (k := 1) rfl (by decide) (by decide) rfl (fun ls hl => ?_)
                    refine lv_goto (tgt := 188) hx hb dX5_wish_246 (by decide) ?_
                    refine lv_iload hx hb dX5_wish_188 (lv_at hl 0 rfl) ?_
                    refine lv_iconst (v := nI 3) hx hb dX5_wish_190 (by decide) ?_
                    refine lv_icmp_ge (tgt := 249) hx hb dX5_wish_191 (by decide) (fun c191_169 => ?_) (fun c191_169 => absurd (by decide) c191_169)
                    refine lv_aload_n hx hb dX5_wish_249 rfl (lv_at hl 7 rfl) ?_
                    refine lv_lload hx hb dX5_wish_250 (lv_at hl 1 rfl) ?_
                    refine lv_iload_n hx hb dX5_wish_252 rfl (lv_at hl 9 rfl) ?_
                    refine lv_iload hx hb dX5_wish_253 (lv_at hl 5 rfl) ?_
                    refine lv_iload hx hb dX5_wish_255 (lv_at hl 4 rfl) ?_
                    refine cVl (As := [.long (lN (withN (withN sx (22 + (2 * h)) 2 ((bitsN sx (22 + 2 * h) 2) - 1)) ((26 + (9 * h)) + 6) 3 0)), .int (nI h), .int (nI (sortM g sx h 2)), .int (nI ((16 + (8 * h)) + (bitsN sx ((26 + (9 * h)) + 6) 3)))]) (rest := []) ⟨hx, hb, hml, hown, hts⟩ (c_X5_act l D ad ka f g t (withN (withN sx (22 + (2 * h)) 2 ((bitsN sx (22 + 2 * h) 2) - 1)) ((26 + (9 * h)) + 6) 3 0) h (sortM g sx h 2) ((16 + (8 * h)) + (bitsN sx ((26 + (9 * h)) + 6) 3)) (hg) (by omega) (by omega) (by omega) (by omega) (hokq)) (cwV 4 hts (gV mU_524 mU_525 mU_526 mU_6 mU_527) rfl rfl rfl (by decide +kernel) ⟨Nat.le_of_ble_eq_true rfl, Nat.le_of_ble_eq_true rfl⟩) fbR (va_recv hK hP (ci := 5) (q0 := 0) rfl rfl) (PR.of hP hK) rfl hl.1 rfl (Nat.le_of_ble_eq_true rfl) dX5_wish_257 ⟨Nat.zero_le _, Nat.zero_le _⟩ ?_
                    subst hQ
                    exact rtl hx hb hr hlocks rfl (by first | (unfold wishM; unfold wishM2; unfold wishE; unfold needM; unfold shiftM; (try first | rw [if_pos c11_132] | rw [if_neg c11_132]); (try first | rw [if_pos c36_135] | rw [if_neg c36_135]); (try first | rw [if_pos c62_138] | rw [if_neg c62_138]); (try first | rw [if_pos c62_141] | rw [if_neg c62_141]); (try first | rw [if_pos c116_145] | rw [if_neg c116_145]); (try first | rw [if_pos c125_146] | rw [if_neg c125_146]); (try first | rw [if_pos c145_160] | rw [if_neg c145_160]); (try first | rw [if_pos c158_164] | rw [if_neg c158_164]); (try rfl); done) | (exfalso; omega)) dX5_wish_260
                  · have c158_164 : ((g 5) ((g 3) (4 * ((16 + (8 * h)) + (bitsN sx ((26 + (9 * h)) + 6) 3))))) &&& 2 = 0 := (nI_eqG (a := ((g 5) ((g 3) (4 * ((16 + (8 * h)) + (bitsN sx ((26 + (9 * h)) + 6) 3))))) &&& 2) (b := 0) (by omega) (by omega)).mp c158_164
                    refine lv_lload_n hx hb dX5_wish_161 rfl (lv_at hl 6 rfl) ?_
                    refine lv_iload_n hx hb dX5_wish_162 rfl (lv_at hl 7 rfl) ?_
                    refine cSl (As := [.long (lN sx), .int (nI h)]) (rest := []) ⟨hx, hb, hml, hown, hts⟩ (c_X5_broken l  sx h (by omega) (by omega)) (va_cwS 2 hts (gS mU_521 mU_522 mU_6 mU_523) rfl rfl rfl (by decide +kernel) ⟨Nat.le_of_ble_eq_true rfl, Nat.le_of_ble_eq_true rfl⟩) fbU (fun _ _ _ => trivial) rfl hl.1 rfl (Nat.le_of_ble_eq_true rfl) dX5_wish_163 ⟨Nat.zero_le _, Nat.zero_le _⟩ ?_
                    have hf_170 : brokenM sx h < 2 ^ 48 := withN_lt (withN_lt (withN_lt (by omega) (by omega) (by omega)) (by omega) (by omega)) (by omega) (by omega)
                    subst hQ
                    exact rtl hx hb hr hlocks rfl (by first | (unfold wishM; unfold wishM2; unfold wishE; unfold needM; (try first | rw [if_pos c11_132] | rw [if_neg c11_132]); (try first | rw [if_pos c36_135] | rw [if_neg c36_135]); (try first | rw [if_pos c62_138] | rw [if_neg c62_138]); (try first | rw [if_pos c62_141] | rw [if_neg c62_141]); (try first | rw [if_pos c116_145] | rw [if_neg c116_145]); (try first | rw [if_pos c125_146] | rw [if_neg c125_146]); (try first | rw [if_pos c145_160] | rw [if_neg c145_160]); (try first | rw [if_pos c158_164] | rw [if_neg c158_164]); (try rfl); done) | (exfalso; omega)) dX5_wish_166
            · have c116_145 : sortM g sx h 2 = 1 := (nI_eqG (a := sortM g sx h 2) (b := 1) (by omega) (by omega)).mp c116_145
              refine lv_iconst (v := nI 1) hx hb dX5_wish_119 (by decide) ?_
              refine lv_goto (tgt := 133) hx hb dX5_wish_120 (by decide) ?_
              refine lv_istore (lv' := [(9, .int (nI 1)), (8, .int (nI ((g 3) (4 * ((16 + (8 * h)) + (bitsN sx ((26 + (9 * h)) + 6) 3)))))), (7, .int (nI ((16 + (8 * h)) + (bitsN sx ((26 + (9 * h)) + 6) 3)))), (6, .int (nI (sortM g sx h 2))), (5, .int (nI (bitsN sx (22 + 2 * h) 2))), (0, .ref (ad 0)), (1, .long (lN sx)), (3, .int (nI h)), (4, .int (nI 2))]) hx hb dX5_wish_133 hl (by decide) rfl (fun ls hl => ?_)
              refine lv_lload_n hx hb dX5_wish_135 rfl (lv_at hl 6 rfl) ?_
              refine lv_bipush (v := nI 46) hx hb dX5_wish_136 (by decide) ?_
              refine lv_iconst (v := nI 2) hx hb dX5_wish_138 (by decide) ?_
              refine cSi (As := [.long (lN sx), .int (nI 46), .int (nI 2)]) (rest := []) ⟨hx, hb, hml, hown, hts⟩ (c_X5_bits l  sx 46 2 (by omega) (by omega) (by omega)) (va_cwS 3 hts (gS mU_503 mU_504 mU_6 mU_505) rfl rfl rfl (by decide +kernel) ⟨Nat.le_of_ble_eq_true rfl, Nat.le_of_ble_eq_true rfl⟩) fbU (fun _ _ _ => trivial) rfl hl.1 rfl (Nat.le_of_ble_eq_true rfl) dX5_wish_139 ⟨Nat.zero_le _, Nat.zero_le _⟩ ?_
              have hf_171 : bitsN sx 46 2 < 2 ^ 2 := bitsN_lt _ _ _
              refine lv_iconst (v := nI 2) hx hb dX5_wish_142 (by decide) ?_
              refine lv_iload_n hx hb dX5_wish_143 rfl (lv_at hl 7 rfl) ?_
              refine lv_isub hx hb dX5_wish_144 ?_
              refine lv_topE (nI (2 - h)) (pk_sub (by omega)) ?_
              refine lv_icmp_eq (tgt := 161) hx hb dX5_wish_145 (by decide) (fun c145_172 => ?_) (fun c145_172 => ?_)
              · have c145_172 : bitsN sx 46 2 = 2 - h := (nI_eqG (a := bitsN sx 46 2) (b := 2 - h) (by omega) (by omega)).mp c145_172
                refine lv_lload_n hx hb dX5_wish_161 rfl (lv_at hl 6 rfl) ?_
                refine lv_iload_n hx hb dX5_wish_162 rfl (lv_at hl 7 rfl) ?_
                refine cSl (As := [.long (lN sx), .int (nI h)]) (rest := []) ⟨hx, hb, hml, hown, hts⟩ (c_X5_broken l  sx h (by omega) (by omega)) (va_cwS 2 hts (gS mU_521 mU_522 mU_6 mU_523) rfl rfl rfl (by decide +kernel) ⟨Nat.le_of_ble_eq_true rfl, Nat.le_of_ble_eq_true rfl⟩) fbU (fun _ _ _ => trivial) rfl hl.1 rfl (Nat.le_of_ble_eq_true rfl) dX5_wish_163 ⟨Nat.zero_le _, Nat.zero_le _⟩ ?_
                have hf_173 : brokenM sx h < 2 ^ 48 := withN_lt (withN_lt (withN_lt (by omega) (by omega) (by omega)) (by omega) (by omega)) (by omega) (by omega)
                subst hQ
                exact rtl hx hb hr hlocks rfl (by first | (unfold wishM; unfold wishM2; unfold wishE; unfold needM; (try first | rw [if_pos c11_132] | rw [if_neg c11_132]); (try first | rw [if_pos c36_135] | rw [if_neg c36_135]); (try first | rw [if_pos c62_138] | rw [if_neg c62_138]); (try first | rw [if_pos c62_141] | rw [if_neg c62_141]); (try first | rw [if_pos c116_145] | rw [if_neg c116_145]); (try first | rw [if_pos c145_172] | rw [if_neg c145_172]); (try rfl); done) | (exfalso; omega)) dX5_wish_166
              · have c145_172 : ¬ (bitsN sx 46 2 = 2 - h) := fun h9 => c145_172 ((nI_eqG (a := bitsN sx 46 2) (b := 2 - h) (by omega) (by omega)).mpr h9)
                refine lv_aload_n hx hb dX5_wish_148 rfl (lv_at hl 5 rfl) ?_
                refine va_get (D := D) (ci := 5) (v := .ref (ad 5)) (C := RX5) (T := TX5) (N := 23) hx hb hU iX5 hown hK hP 0 rfl rfl 4 (by decide) (hU _ mU_79) (fun _ h9 => h9) rfl dX5_wish_149 ?_
                refine lv_iload hx hb dX5_wish_152 (lv_at hl 1 rfl) ?_
                refine n_iald hx hb hK hP 5 4 rfl rfl (i := (g 3) (4 * ((16 + (8 * h)) + (bitsN sx ((26 + (9 * h)) + 6) 3)))) (by omega) (by decide) dX5_wish_154 ?_
                have hb_174 := hg 5 (by decide) ((g 3) (4 * ((16 + (8 * h)) + (bitsN sx ((26 + (9 * h)) + 6) 3))))
                refine lv_iload hx hb dX5_wish_155 (lv_at hl 0 rfl) ?_
                refine lv_iand hx hb dX5_wish_157 ?_
                have hb_175 : ((g 5) ((g 3) (4 * ((16 + (8 * h)) + (bitsN sx ((26 + (9 * h)) + 6) 3))))) &&& 1 ≤ 1 := Nat.and_le_right
                refine lv_topE (nI (((g 5) ((g 3) (4 * ((16 + (8 * h)) + (bitsN sx ((26 + (9 * h)) + 6) 3))))) &&& 1)) (fa_and _ _) ?_
                refine lv_if_ne (tgt := 167) hx hb dX5_wish_158 (by decide) (fun c158_176 => ?_) (fun c158_176 => ?_)
                · have c158_176 : ¬ (((g 5) ((g 3) (4 * ((16 + (8 * h)) + (bitsN sx ((26 + (9 * h)) + 6) 3))))) &&& 1 = 0) := fun h9 => c158_176 ((nI_eqG (a := ((g 5) ((g 3) (4 * ((16 + (8 * h)) + (bitsN sx ((26 + (9 * h)) + 6) 3))))) &&& 1) (b := 0) (by omega) (by omega)).mpr h9)
                  refine lv_lload_n hx hb dX5_wish_167 rfl (lv_at hl 6 rfl) ?_
                  refine lv_bipush (v := nI 22) hx hb dX5_wish_168 (by decide) ?_
                  refine lv_iconst (v := nI 2) hx hb dX5_wish_170 (by decide) ?_
                  refine lv_iload_n hx hb dX5_wish_171 rfl (lv_at hl 7 rfl) ?_
                  refine lv_imul hx hb dX5_wish_172 ?_
                  refine lv_topE (nI (2 * h)) (pk_mul _ _) ?_
                  refine lv_iadd hx hb dX5_wish_173 ?_
                  refine lv_topE (nI (22 + (2 * h))) (nI_add _ _) ?_
                  refine lv_iconst (v := nI 2) hx hb dX5_wish_174 (by decide) ?_
                  refine lv_iload hx hb dX5_wish_175 (lv_at hl 4 rfl) ?_
                  refine lv_iconst (v := nI 1) hx hb dX5_wish_177 (by decide) ?_
                  refine lv_isub hx hb dX5_wish_178 ?_
                  refine lv_topE (nI ((bitsN sx (22 + 2 * h) 2) - 1)) (pk_sub (by omega)) ?_
                  refine cSl (As := [.long (lN sx), .int (nI (22 + (2 * h))), .int (nI 2), .int (nI ((bitsN sx (22 + 2 * h) 2) - 1))]) (rest := []) ⟨hx, hb, hml, hown, hts⟩ (c_X5_with l  sx (22 + (2 * h)) 2 ((bitsN sx (22 + 2 * h) 2) - 1) (by omega) (by omega) (by omega) (by omega)) (va_cwS 4 hts (gS mU_480 mU_481 mU_6 mU_482) rfl rfl rfl (by decide +kernel) ⟨Nat.le_of_ble_eq_true rfl, Nat.le_of_ble_eq_true rfl⟩) fbU (fun _ _ _ => trivial) rfl hl.1 rfl (Nat.le_of_ble_eq_true rfl) dX5_wish_179 ⟨Nat.zero_le _, Nat.zero_le _⟩ ?_
                  have hf_177 : withN sx (22 + (2 * h)) 2 ((bitsN sx (22 + 2 * h) 2) - 1) < 2 ^ 48 := withN_lt (by omega) (by omega) (by omega)
                  refine lv_lstore (lv' := [(10, .long (lN (withN sx (22 + (2 * h)) 2 ((bitsN sx (22 + 2 * h) 2) - 1)))), (9, .int (nI 1)), (8, .int (nI ((g 3) (4 * ((16 + (8 * h)) + (bitsN sx ((26 + (9 * h)) + 6) 3)))))), (7, .int (nI ((16 + (8 * h)) + (bitsN sx ((26 + (9 * h)) + 6) 3)))), (6, .int (nI (sortM g sx h 2))), (5, .int (nI (bitsN sx (22 + 2 * h) 2))), (0, .ref (ad 0)), (1, .long (lN sx)), (3, .int (nI h)), (4, .int (nI 2))]) hx hb dX5_wish_182 hl (by decide) rfl (fun ls hl => ?_)
                  refine lv_iload hx hb dX5_wish_184 (lv_at hl 9 rfl) ?_
                  refine lv_istore (lv' := [(12, .int (nI 2)), (10, .long (lN (withN sx (22 + (2 * h)) 2 ((bitsN sx (22 + 2 * h) 2) - 1)))), (9, .int (nI 1)), (8, .int (nI ((g 3) (4 * ((16 + (8 * h)) + (bitsN sx ((26 + (9 * h)) + 6) 3)))))), (7, .int (nI ((16 + (8 * h)) + (bitsN sx ((26 + (9 * h)) + 6) 3)))), (6, .int (nI (sortM g sx h 2))), (5, .int (nI (bitsN sx (22 + 2 * h) 2))), (0, .ref (ad 0)), (1, .long (lN sx)), (3, .int (nI h)), (4, .int (nI 2))]) hx hb dX5_wish_186 hl (by decide) rfl (fun ls hl => ?_)
                  refine lv_iload hx hb dX5_wish_188 (lv_at hl 0 rfl) ?_
                  refine lv_iconst (v := nI 3) hx hb dX5_wish_190 (by decide) ?_
                  refine lv_icmp_ge (tgt := 249) hx hb dX5_wish_191 (by decide) (fun c191_178 => absurd c191_178 (by decide)) (fun c191_178 => ?_)
                  refine lv_lload hx hb dX5_wish_194 (lv_at hl 1 rfl) ?_
                  refine lv_bipush (v := nI 26) hx hb dX5_wish_196 (by decide) ?_
                  refine lv_bipush (v := nI 9) hx hb dX5_wish_198 (by decide) ?_
                  refine lv_iload_n hx hb dX5_wish_200 rfl (lv_at hl 9 rfl) ?_
                  refine lv_imul hx hb dX5_wish_201 ?_
                  refine lv_topE (nI (9 * h)) (pk_mul _ _) ?_
                  refine lv_iadd hx hb dX5_wish_202 ?_
                  refine lv_topE (nI (26 + (9 * h))) (nI_add _ _) ?_
                  refine lv_iconst (v := nI 3) hx hb dX5_wish_203 (by decide) ?_
                  refine lv_iload hx hb dX5_wish_204 (lv_at hl 0 rfl) ?_
                  refine lv_imul hx hb dX5_wish_206 ?_
                  refine lv_topE (nI 6) (pk_mul _ _) ?_
                  refine lv_iadd hx hb dX5_wish_207 ?_
                  refine lv_topE (nI ((26 + (9 * h)) + 6)) (nI_add _ _) ?_
                  refine lv_iconst (v := nI 3) hx hb dX5_wish_208 (by decide) ?_
                  refine lv_iload hx hb dX5_wish_209 (lv_at hl 0 rfl) ?_
                  refine lv_iconst (v := nI 2) hx hb dX5_wish_211 (by decide) ?_
                  refine lv_icmp_ge (tgt := 237) hx hb dX5_wish_212 (by decide) (fun c212_179 => ?_) (fun c212_179 => absurd (by decide) c212_179)
                  refine lv_iconst (v := nI 0) hx hb dX5_wish_237 (by decide) ?_
                  refine cSl (As := [.long (lN (withN sx (22 + (2 * h)) 2 ((bitsN sx (22 + 2 * h) 2) - 1))), .int (nI ((26 + (9 * h)) + 6)), .int (nI 3), .int (nI 0)]) (rest := []) ⟨hx, hb, hml, hown, hts⟩ (c_X5_with l  (withN sx (22 + (2 * h)) 2 ((bitsN sx (22 + 2 * h) 2) - 1)) ((26 + (9 * h)) + 6) 3 0 (by omega) (by omega) (by omega) (by omega)) (va_cwS 4 hts (gS mU_480 mU_481 mU_6 mU_482) rfl rfl rfl (by decide +kernel) ⟨Nat.le_of_ble_eq_true rfl, Nat.le_of_ble_eq_true rfl⟩) fbU (fun _ _ _ => trivial) rfl hl.1 rfl (Nat.le_of_ble_eq_true rfl) dX5_wish_238 ⟨Nat.zero_le _, Nat.zero_le _⟩ ?_
                  have hf_180 : withN (withN sx (22 + (2 * h)) 2 ((bitsN sx (22 + 2 * h) 2) - 1)) ((26 + (9 * h)) + 6) 3 0 < 2 ^ 48 := withN_lt (by omega) (by omega) (by omega)
                  refine lv_lstore (lv' := [(10, .long (lN (withN (withN sx (22 + (2 * h)) 2 ((bitsN sx (22 + 2 * h) 2) - 1)) ((26 + (9 * h)) + 6) 3 0))), (12, .int (nI 2)), (9, .int (nI 1)), (8, .int (nI ((g 3) (4 * ((16 + (8 * h)) + (bitsN sx ((26 + (9 * h)) + 6) 3)))))), (7, .int (nI ((16 + (8 * h)) + (bitsN sx ((26 + (9 * h)) + 6) 3)))), (6, .int (nI (sortM g sx h 2))), (5, .int (nI (bitsN sx (22 + 2 * h) 2))), (0, .ref (ad 0)), (1, .long (lN sx)), (3, .int (nI h)), (4, .int (nI 2))]) hx hb dX5_wish_241 hl (by decide) rfl (fun ls hl => ?_)
                  refine lv_iinc (v := nI 3) (lv' := [(12, .int (nI 3)), (10, .long (lN (withN (withN sx (22 + (2 * h)) 2 ((bitsN sx (22 + 2 * h) 2) - 1)) ((26 + (9 * h)) + 6) 3 0))), (9, .int (nI 1)), (8, .int (nI ((g 3) (4 * ((16 + (8 * h)) + (bitsN sx ((26 + (9 * h)) + 6) 3)))))), (7, .int (nI ((16 + (8 * h)) + (bitsN sx ((26 + (9 * h)) + 6) 3)))), (6, .int (nI (sortM g sx h 2))), (5, .int (nI (bitsN sx (22 + 2 * h) 2))), (0, .ref (ad 0)), (1, .long (lN sx)), (3, .int (nI h)), (4, .int (nI 2))]) hx hb dX5_wish_243 hl (k := 1) rfl (by decide) (by decide) rfl (fun ls hl => ?_)
                  refine lv_goto (tgt := 188) hx hb dX5_wish_246 (by decide) ?_
                  refine lv_iload hx hb dX5_wish_188 (lv_at hl 0 rfl) ?_
                  refine lv_iconst (v := nI 3) hx hb dX5_wish_190 (by decide) ?_
                  refine lv_icmp_ge (tgt := 249) hx hb dX5_wish_191 (by decide) (fun c191_181 => ?_) (fun c191_181 => absurd (by decide) c191_181)
                  refine lv_aload_n hx hb dX5_wish_249 rfl (lv_at hl 7 rfl) ?_
                  refine lv_lload hx hb dX5_wish_250 (lv_at hl 1 rfl) ?_
                  refine lv_iload_n hx hb dX5_wish_252 rfl (lv_at hl 9 rfl) ?_
                  refine lv_iload hx hb dX5_wish_253 (lv_at hl 5 rfl) ?_
                  refine lv_iload hx hb dX5_wish_255 (lv_at hl 4 rfl) ?_
                  refine cVl (As := [.long (lN (withN (withN sx (22 + (2 * h)) 2 ((bitsN sx (22 + 2 * h) 2) - 1)) ((26 + (9 * h)) + 6) 3 0)), .int (nI h), .int (nI (sortM g sx h 2)), .int (nI ((16 + (8 * h)) + (bitsN sx ((26 + (9 * h)) + 6) 3)))]) (rest := []) ⟨hx, hb, hml, hown, hts⟩ (c_X5_act l D ad ka f g t (withN (withN sx (22 + (2 * h)) 2 ((bitsN sx (22 + 2 * h) 2) - 1)) ((26 + (9 * h)) + 6) 3 0) h (sortM g sx h 2) ((16 + (8 * h)) + (bitsN sx ((26 + (9 * h)) + 6) 3)) (hg) (by omega) (by omega) (by omega) (by omega) (hokq)) (cwV 4 hts (gV mU_524 mU_525 mU_526 mU_6 mU_527) rfl rfl rfl (by decide +kernel) ⟨Nat.le_of_ble_eq_true rfl, Nat.le_of_ble_eq_true rfl⟩) fbR (va_recv hK hP (ci := 5) (q0 := 0) rfl rfl) (PR.of hP hK) rfl hl.1 rfl (Nat.le_of_ble_eq_true rfl) dX5_wish_257 ⟨Nat.zero_le _, Nat.zero_le _⟩ ?_
                  subst hQ
                  exact rtl hx hb hr hlocks rfl (by first | (unfold wishM; unfold wishM2; unfold wishE; unfold needM; unfold shiftM; (try first | rw [if_pos c11_132] | rw [if_neg c11_132]); (try first | rw [if_pos c36_135] | rw [if_neg c36_135]); (try first | rw [if_pos c62_138] | rw [if_neg c62_138]); (try first | rw [if_pos c62_141] | rw [if_neg c62_141]); (try first | rw [if_pos c116_145] | rw [if_neg c116_145]); (try first | rw [if_pos c145_172] | rw [if_neg c145_172]); (try first | rw [if_pos c158_176] | rw [if_neg c158_176]); (try rfl); done) | (exfalso; omega)) dX5_wish_260
                · have c158_176 : ((g 5) ((g 3) (4 * ((16 + (8 * h)) + (bitsN sx ((26 + (9 * h)) + 6) 3))))) &&& 1 = 0 := (nI_eqG (a := ((g 5) ((g 3) (4 * ((16 + (8 * h)) + (bitsN sx ((26 + (9 * h)) + 6) 3))))) &&& 1) (b := 0) (by omega) (by omega)).mp c158_176
                  refine lv_lload_n hx hb dX5_wish_161 rfl (lv_at hl 6 rfl) ?_
                  refine lv_iload_n hx hb dX5_wish_162 rfl (lv_at hl 7 rfl) ?_
                  refine cSl (As := [.long (lN sx), .int (nI h)]) (rest := []) ⟨hx, hb, hml, hown, hts⟩ (c_X5_broken l  sx h (by omega) (by omega)) (va_cwS 2 hts (gS mU_521 mU_522 mU_6 mU_523) rfl rfl rfl (by decide +kernel) ⟨Nat.le_of_ble_eq_true rfl, Nat.le_of_ble_eq_true rfl⟩) fbU (fun _ _ _ => trivial) rfl hl.1 rfl (Nat.le_of_ble_eq_true rfl) dX5_wish_163 ⟨Nat.zero_le _, Nat.zero_le _⟩ ?_
                  have hf_182 : brokenM sx h < 2 ^ 48 := withN_lt (withN_lt (withN_lt (by omega) (by omega) (by omega)) (by omega) (by omega)) (by omega) (by omega)
                  subst hQ
                  exact rtl hx hb hr hlocks rfl (by first | (unfold wishM; unfold wishM2; unfold wishE; unfold needM; (try first | rw [if_pos c11_132] | rw [if_neg c11_132]); (try first | rw [if_pos c36_135] | rw [if_neg c36_135]); (try first | rw [if_pos c62_138] | rw [if_neg c62_138]); (try first | rw [if_pos c62_141] | rw [if_neg c62_141]); (try first | rw [if_pos c116_145] | rw [if_neg c116_145]); (try first | rw [if_pos c145_172] | rw [if_neg c145_172]); (try first | rw [if_pos c158_176] | rw [if_neg c158_176]); (try rfl); done) | (exfalso; omega)) dX5_wish_166
          · have c62_141 : ¬ (sortM g sx h 1 = 1) := fun h9 => c62_141 ((nI_eqG (a := sortM g sx h 1) (b := 1) (by omega) (by omega)).mpr h9)
            refine lv_ldc2 (v := (-1)) hx hb hown (hU _ mU_483) dX5_wish_65 ?_
            subst hQ
            exact rtl hx hb hr hlocks rfl (by first | (unfold wishM; unfold wishM2; (try first | rw [if_pos c11_132] | rw [if_neg c11_132]); (try first | rw [if_pos c36_135] | rw [if_neg c36_135]); (try first | rw [if_pos c62_138] | rw [if_neg c62_138]); (try first | rw [if_pos c62_141] | rw [if_neg c62_141]); (try rfl); done) | (exfalso; omega)) dX5_wish_68
        · have c62_138 : ¬ (sortM g sx h 0 = 1) := fun h9 => c62_138 ((nI_eqG (a := sortM g sx h 0) (b := 1) (by omega) (by omega)).mpr h9)
          refine lv_ldc2 (v := (-1)) hx hb hown (hU _ mU_483) dX5_wish_65 ?_
          subst hQ
          exact rtl hx hb hr hlocks rfl (by first | (unfold wishM; unfold wishM2; (try first | rw [if_pos c11_132] | rw [if_neg c11_132]); (try first | rw [if_pos c36_135] | rw [if_neg c36_135]); (try first | rw [if_pos c62_138] | rw [if_neg c62_138]); (try rfl); done) | (exfalso; omega)) dX5_wish_68
      · have c36_135 : sortM g sx h 2 = 1 := (nI_eqG (a := sortM g sx h 2) (b := 1) (by omega) (by omega)).mp c36_135
        refine lv_ldc2 (v := (-1)) hx hb hown (hU _ mU_483) dX5_wish_39 ?_
        subst hQ
        exact rtl hx hb hr hlocks rfl (by first | (unfold wishM; unfold wishM2; (try first | rw [if_pos c11_132] | rw [if_neg c11_132]); (try first | rw [if_pos c36_135] | rw [if_neg c36_135]); (try rfl); done) | (exfalso; omega)) dX5_wish_42
    · have c11_132 : ¬ (2 < bitsN sx (22 + 2 * h) 2) := fun h9 => c11_132 ((nI_ltI (a := 2) (b := bitsN sx (22 + 2 * h) 2) (by omega) (by omega)).mpr h9)
      refine lv_ldc2 (v := (-1)) hx hb hown (hU _ mU_483) dX5_wish_14 ?_
      subst hQ
      exact rtl hx hb hr hlocks rfl (by first | (unfold wishM; unfold wishM2; (try first | rw [if_pos c11_132] | rw [if_neg c11_132]); (try rfl); done) | (exfalso; omega)) dX5_wish_17

def seeM (q : Nat → Nat) (n k : Nat) : Nat := if n ≤ k then 4294967295 else q k
theorem seeM_or {q : Nat → Nat} {n : Nat} (h : ∀ i, q i < 256) (k : Nat) : seeM q n k < 256 ∨ seeM q n k = 4294967295 := by
  unfold seeM; split
  · exact Or.inr rfl
  · exact Or.inl (h k)
theorem z_or8 {x a : Nat} (hx : x < 2 ^ 50) (ha : a < 256) : (lN x <<< ((nI 8).toInt64 &&& 63)) ||| lN a = lN (x * 256 + a) := by
  rw [wb_shl x (by decide), wb_or (by omega) (by omega)]
  congr 1
  have := Nat.two_pow_add_eq_or_of_lt (i := 8) (b := a) (by omega) x
  rw [Nat.mul_comm x (2 ^ 8), ← this]
def wordV (w : Nat) : Nat := if w = 7370100 then 0 else if w = 6776180 then 1 else if w = 1937203568 then 2 else if w = 6382692 then 3 else if w = 439788397413 then 4 else if w = 2002872692 then 5 else if w = 7562612 then 6 else if w = 1819238756 then 7 else if w = 26982 then 8 else 4294967295
theorem wordV_or (w : Nat) : wordV w < 9 ∨ wordV w = 4294967295 := by
  unfold wordV
  split
  · exact Or.inl (by decide)
  · split
    · exact Or.inl (by decide)
    · split
      · exact Or.inl (by decide)
      · split
        · exact Or.inl (by decide)
        · split
          · exact Or.inl (by decide)
          · split
            · exact Or.inl (by decide)
            · split
              · exact Or.inl (by decide)
              · split
                · exact Or.inl (by decide)
                · split
                  · exact Or.inl (by decide)
                  · exact Or.inr rfl
set_option maxHeartbeats 4000000 in
set_option maxRecDepth 100000 in
theorem c_X5_see (l : Launch) (D : va_G) (ad : Nat → Nat) (ka : Nat → ClassId) (f : Nat → Nat) (g : Nat → Nat → Nat) (t : Nat → Nat) (kk : Nat) (h7 : f 7 ≤ 200) (hkk : kk < 2147483648) (hq : ∀ i, g 6 i < 256) : Met l yX5_see (.code yX5_see cX5_see 2 (some .int) :: wsL_law) ({ frames := 0, cells := 0, slots := 0, locals := 0 }) (va_Pc [.ref (ad 0), .int (nI kk)] (PR D (mW ad ka f g t) (mT ka))) (QrI (nI (seeM (g 6) (f 7) kk))) 0 0 (fun _ => False) := by
  refine Met.ofW (cc := cX5_see) (maxL := 2) (ret := (some .int)) (by decide) rfl ?_
  intro p e s m args below meth c s₁ B hml hv
  obtain ⟨rfl, hP, hK⟩ := hv
  have hx := B.exec
  have hb := B.bytes
  have hr := B.returns
  have hts := atoms_spec (ws := .code yX5_see cX5_see 2 (some .int) :: wsL_law) B.pre
  have hU : ∀ w ∈ wsL_law, w.before _ s = true := fun w h => hts w (List.mem_cons_of_mem _ h)
  have hown : s.vm.findClass RX5 = some m.cls := findClass_of_methodNamed B.named
  have hlocks := B.notSynchronized
  generalize hQ : MQ _ _ _ _ _ _ _ = Q
  have hl := lv_entry ([.ref (ad 0), .int (nI kk)]) (n := 2) (Nat.le_of_ble_eq_true rfl)
  rw [lg_entry_eq]
  generalize (lg_sl ([.ref (ad 0), .int (nI kk)]) ++ List.replicate (2 - (lg_sl ([.ref (ad 0), .int (nI kk)])).length) Slot.unset).toArray = ls at hl ⊢
  have hl : lv_has ls 2 [(0, .ref (ad 0)), (1, .int (nI kk))] := hl
  refine lv_iload_n hx hb dX5_see_0 rfl (lv_at hl 1 rfl) ?_
  refine lv_aload_n hx hb dX5_see_1 rfl (lv_at hl 0 rfl) ?_
  refine va_get (D := D) (ci := 5) (v := .int (nI (f 7))) (C := RX5) (T := TX5) (N := 23) hx hb hU iX5 hown hK hP 0 rfl rfl 7 (by decide) (hU _ mU_103) (fun _ h9 => h9) rfl dX5_see_2 ?_
  refine lv_icmp_ge (tgt := 17) hx hb dX5_see_5 (by decide) (fun c5_1 => ?_) (fun c5_1 => ?_)
  · have c5_1 : f 7 ≤ kk := (nI_leI (a := f 7) (b := kk) (by omega) (by omega)).mp c5_1
    refine lv_iconst (v := nI 4294967295) hx hb dX5_see_17 (by decide) ?_
    subst hQ
    exact rti hx hb hr hlocks rfl (by first | (unfold seeM; (try first | rw [if_pos c5_1] | rw [if_neg c5_1]); (try rfl); done) | (exfalso; omega)) dX5_see_18
  · have c5_1 : ¬ (f 7 ≤ kk) := fun h9 => c5_1 ((nI_leI (a := f 7) (b := kk) (by omega) (by omega)).mpr h9)
    refine lv_aload_n hx hb dX5_see_8 rfl (lv_at hl 0 rfl) ?_
    refine va_get (D := D) (ci := 5) (v := .ref (ad 6)) (C := RX5) (T := TX5) (N := 23) hx hb hU iX5 hown hK hP 0 rfl rfl 6 (by decide) (hU _ mU_80) (fun _ h9 => h9) rfl dX5_see_9 ?_
    refine lv_iload_n hx hb dX5_see_12 rfl (lv_at hl 1 rfl) ?_
    refine n_iald hx hb hK hP 6 5 rfl rfl (i := kk) (by omega) (by decide) dX5_see_13 ?_
    refine lv_goto (tgt := 18) hx hb dX5_see_14 (by decide) ?_
    subst hQ
    exact rti hx hb hr hlocks rfl (by first | (unfold seeM; (try first | rw [if_pos c5_1] | rw [if_neg c5_1]); (try rfl); done) | (exfalso; omega)) dX5_see_18

set_option maxHeartbeats 4000000 in
set_option maxRecDepth 100000 in
theorem c_X5_add (l : Launch) (wq : Nat) (qa : Nat) (qb : Nat) (hwq : wq < 1099511627776) (hqa : qa < 256) (hqb : qb < 256) : Met l yX5_add (.code yX5_add cX5_add 4 (some .long) :: wsL_law) ({ frames := 0, cells := 0, slots := 0, locals := 0 }) (va_Pc [.long (lN wq), .int (nI qa), .int (nI qb)] PU) (QrL (lN ((wq * 256 + qa) * 256 + qb))) 0 0 (fun _ => False) := by
  refine Met.ofW (cc := cX5_add) (maxL := 4) (ret := (some .long)) (by decide) rfl ?_
  intro p e s m args below meth c s₁ B hml hv
  obtain ⟨rfl, hv⟩ := hv
  have hx := B.exec
  have hb := B.bytes
  have hr := B.returns
  have hts := atoms_spec (ws := .code yX5_add cX5_add 4 (some .long) :: wsL_law) B.pre
  have hU : ∀ w ∈ wsL_law, w.before _ s = true := fun w h => hts w (List.mem_cons_of_mem _ h)
  have hown : s.vm.findClass RX5 = some m.cls := findClass_of_methodNamed B.named
  have hlocks := B.notSynchronized
  generalize hQ : MQ _ _ _ _ _ _ _ = Q
  have hl := lv_entry ([.long (lN wq), .int (nI qa), .int (nI qb)]) (n := 4) (Nat.le_of_ble_eq_true rfl)
  rw [lg_entry_eq]
  generalize (lg_sl ([.long (lN wq), .int (nI qa), .int (nI qb)]) ++ List.replicate (4 - (lg_sl ([.long (lN wq), .int (nI qa), .int (nI qb)])).length) Slot.unset).toArray = ls at hl ⊢
  have hl : lv_has ls 4 [(0, .long (lN wq)), (2, .int (nI qa)), (3, .int (nI qb))] := hl
  refine lv_lload_n hx hb dX5_add_0 rfl (lv_at hl 0 rfl) ?_
  refine lv_bipush (v := nI 8) hx hb dX5_add_1 (by decide) ?_
  refine lv_lshl hx hb dX5_add_3 rfl ?_
  refine lv_iload_n hx hb dX5_add_4 rfl (lv_at hl 1 rfl) ?_
  refine lv_i2l (v := lN qa) hx hb dX5_add_5 (nI_l (by omega)) ?_
  refine lv_lor hx hb dX5_add_6 ?_
  refine lv_topEl (lN (wq * 256 + qa)) (z_or8 (by omega) (by omega)) ?_
  refine lv_bipush (v := nI 8) hx hb dX5_add_7 (by decide) ?_
  refine lv_lshl hx hb dX5_add_9 rfl ?_
  refine lv_iload_n hx hb dX5_add_10 rfl (lv_at hl 2 rfl) ?_
  refine lv_i2l (v := lN qb) hx hb dX5_add_11 (nI_l (by omega)) ?_
  refine lv_lor hx hb dX5_add_12 ?_
  refine lv_topEl (lN ((wq * 256 + qa) * 256 + qb)) (z_or8 (by omega) (by omega)) ?_
  subst hQ
  exact rtl hx hb hr hlocks rfl (rfl) dX5_add_13

set_option maxHeartbeats 4000000 in
set_option maxRecDepth 100000 in
theorem c_X5_wordOf (l : Launch) (wq : Nat) (hwq : wq < 9223372036854775808) : Met l yX5_wordOf (.code yX5_wordOf cX5_wordOf 2 (some .int) :: wsL_law) ({ frames := 1, cells := 0, slots := 0, locals := 23 }) (va_Pc [.long (lN wq)] PU) (QrI (nI (wordV wq))) 0 0 (fun _ => False) := by
  refine Met.ofW (cc := cX5_wordOf) (maxL := 2) (ret := (some .int)) (by decide) rfl ?_
  intro p e s m args below meth c s₁ B hml hv
  obtain ⟨rfl, hv⟩ := hv
  have hx := B.exec
  have hb := B.bytes
  have hr := B.returns
  have hts := atoms_spec (ws := .code yX5_wordOf cX5_wordOf 2 (some .int) :: wsL_law) B.pre
  have hU : ∀ w ∈ wsL_law, w.before _ s = true := fun w h => hts w (List.mem_cons_of_mem _ h)
  have hown : s.vm.findClass RX5 = some m.cls := findClass_of_methodNamed B.named
  have hlocks := B.notSynchronized
  generalize hQ : MQ _ _ _ _ _ _ _ = Q
  have hl := lv_entry ([.long (lN wq)]) (n := 2) (Nat.le_of_ble_eq_true rfl)
  rw [lg_entry_eq]
  generalize (lg_sl ([.long (lN wq)]) ++ List.replicate (2 - (lg_sl ([.long (lN wq)])).length) Slot.unset).toArray = ls at hl ⊢
  have hl : lv_has ls 2 [(0, .long (lN wq))] := hl
  refine lv_lload_n hx hb dX5_wordOf_0 rfl (lv_at hl 0 rfl) ?_
  refine lv_ldc2 (v := (112)) hx hb hown (hU _ mU_273) dX5_wordOf_1 ?_
  refine lv_topEl (lN 112) (by decide) ?_
  refine lv_bipush (v := nI 117) hx hb dX5_wordOf_4 (by decide) ?_
  refine lv_bipush (v := nI 116) hx hb dX5_wordOf_6 (by decide) ?_
  refine cSl (As := [.long (lN 112), .int (nI 117), .int (nI 116)]) (rest := [.long (lN wq)]) ⟨hx, hb, hml, hown, hts⟩ (c_X5_add l  112 117 116 (by omega) (by omega) (by omega)) (va_cwS 3 hts (gS mU_278 mU_279 mU_6 mU_280) rfl rfl rfl (by decide +kernel) ⟨Nat.le_of_ble_eq_true rfl, Nat.le_of_ble_eq_true rfl⟩) fbU (fun _ _ _ => trivial) rfl hl.1 rfl (Nat.le_of_ble_eq_true rfl) dX5_wordOf_8 ⟨Nat.zero_le _, Nat.zero_le _⟩ ?_
  refine W.lcmp hx hb dX5_wordOf_11 ?_
  refine lv_if_ne (tgt := 17) hx hb dX5_wordOf_12 (by decide) (fun c12_1 => ?_) (fun c12_1 => ?_)
  · have c12_1 : ¬ (wq = 7370100) := fun h9 => c12_1 ((lg_cmp_eq _ _).mpr ((pk_lEQ (a := wq) (b := 7370100) (by omega) (by omega)).mpr h9))
    refine lv_lload_n hx hb dX5_wordOf_17 rfl (lv_at hl 0 rfl) ?_
    refine lv_ldc2 (v := (103)) hx hb hown (hU _ mU_274) dX5_wordOf_18 ?_
    refine lv_topEl (lN 103) (by decide) ?_
    refine lv_bipush (v := nI 101) hx hb dX5_wordOf_21 (by decide) ?_
    refine lv_bipush (v := nI 116) hx hb dX5_wordOf_23 (by decide) ?_
    refine cSl (As := [.long (lN 103), .int (nI 101), .int (nI 116)]) (rest := [.long (lN wq)]) ⟨hx, hb, hml, hown, hts⟩ (c_X5_add l  103 101 116 (by omega) (by omega) (by omega)) (va_cwS 3 hts (gS mU_278 mU_279 mU_6 mU_280) rfl rfl rfl (by decide +kernel) ⟨Nat.le_of_ble_eq_true rfl, Nat.le_of_ble_eq_true rfl⟩) fbU (fun _ _ _ => trivial) rfl hl.1 rfl (Nat.le_of_ble_eq_true rfl) dX5_wordOf_25 ⟨Nat.zero_le _, Nat.zero_le _⟩ ?_
    refine W.lcmp hx hb dX5_wordOf_28 ?_
    refine lv_if_ne (tgt := 34) hx hb dX5_wordOf_29 (by decide) (fun c29_2 => ?_) (fun c29_2 => ?_)
    · have c29_2 : ¬ (wq = 6776180) := fun h9 => c29_2 ((lg_cmp_eq _ _).mpr ((pk_lEQ (a := wq) (b := 6776180) (by omega) (by omega)).mpr h9))
      refine lv_lload_n hx hb dX5_wordOf_34 rfl (lv_at hl 0 rfl) ?_
      refine lv_lconst (v := lN 0) hx hb dX5_wordOf_35 rfl ?_
      refine lv_bipush (v := nI 115) hx hb dX5_wordOf_36 (by decide) ?_
      refine lv_bipush (v := nI 119) hx hb dX5_wordOf_38 (by decide) ?_
      refine cSl (As := [.long (lN 0), .int (nI 115), .int (nI 119)]) (rest := [.long (lN wq)]) ⟨hx, hb, hml, hown, hts⟩ (c_X5_add l  0 115 119 (by omega) (by omega) (by omega)) (va_cwS 3 hts (gS mU_278 mU_279 mU_6 mU_280) rfl rfl rfl (by decide +kernel) ⟨Nat.le_of_ble_eq_true rfl, Nat.le_of_ble_eq_true rfl⟩) fbU (fun _ _ _ => trivial) rfl hl.1 rfl (Nat.le_of_ble_eq_true rfl) dX5_wordOf_40 ⟨Nat.zero_le _, Nat.zero_le _⟩ ?_
      refine lv_bipush (v := nI 97) hx hb dX5_wordOf_43 (by decide) ?_
      refine lv_bipush (v := nI 112) hx hb dX5_wordOf_45 (by decide) ?_
      refine cSl (As := [.long (lN 29559), .int (nI 97), .int (nI 112)]) (rest := [.long (lN wq)]) ⟨hx, hb, hml, hown, hts⟩ (c_X5_add l  29559 97 112 (by omega) (by omega) (by omega)) (va_cwS 3 hts (gS mU_278 mU_279 mU_6 mU_280) rfl rfl rfl (by decide +kernel) ⟨Nat.le_of_ble_eq_true rfl, Nat.le_of_ble_eq_true rfl⟩) fbU (fun _ _ _ => trivial) rfl hl.1 rfl (Nat.le_of_ble_eq_true rfl) dX5_wordOf_47 ⟨Nat.zero_le _, Nat.zero_le _⟩ ?_
      refine W.lcmp hx hb dX5_wordOf_50 ?_
      refine lv_if_ne (tgt := 56) hx hb dX5_wordOf_51 (by decide) (fun c51_3 => ?_) (fun c51_3 => ?_)
      · have c51_3 : ¬ (wq = 1937203568) := fun h9 => c51_3 ((lg_cmp_eq _ _).mpr ((pk_lEQ (a := wq) (b := 1937203568) (by omega) (by omega)).mpr h9))
        refine lv_lload_n hx hb dX5_wordOf_56 rfl (lv_at hl 0 rfl) ?_
        refine lv_ldc2 (v := (97)) hx hb hown (hU _ mU_275) dX5_wordOf_57 ?_
        refine lv_topEl (lN 97) (by decide) ?_
        refine lv_bipush (v := nI 100) hx hb dX5_wordOf_60 (by decide) ?_
        refine lv_bipush (v := nI 100) hx hb dX5_wordOf_62 (by decide) ?_
        refine cSl (As := [.long (lN 97), .int (nI 100), .int (nI 100)]) (rest := [.long (lN wq)]) ⟨hx, hb, hml, hown, hts⟩ (c_X5_add l  97 100 100 (by omega) (by omega) (by omega)) (va_cwS 3 hts (gS mU_278 mU_279 mU_6 mU_280) rfl rfl rfl (by decide +kernel) ⟨Nat.le_of_ble_eq_true rfl, Nat.le_of_ble_eq_true rfl⟩) fbU (fun _ _ _ => trivial) rfl hl.1 rfl (Nat.le_of_ble_eq_true rfl) dX5_wordOf_64 ⟨Nat.zero_le _, Nat.zero_le _⟩ ?_
        refine W.lcmp hx hb dX5_wordOf_67 ?_
        refine lv_if_ne (tgt := 73) hx hb dX5_wordOf_68 (by decide) (fun c68_4 => ?_) (fun c68_4 => ?_)
        · have c68_4 : ¬ (wq = 6382692) := fun h9 => c68_4 ((lg_cmp_eq _ _).mpr ((pk_lEQ (a := wq) (b := 6382692) (by omega) (by omega)).mpr h9))
          refine lv_lload_n hx hb dX5_wordOf_73 rfl (lv_at hl 0 rfl) ?_
          refine lv_ldc2 (v := (102)) hx hb hown (hU _ mU_276) dX5_wordOf_74 ?_
          refine lv_topEl (lN 102) (by decide) ?_
          refine lv_bipush (v := nI 101) hx hb dX5_wordOf_77 (by decide) ?_
          refine lv_bipush (v := nI 110) hx hb dX5_wordOf_79 (by decide) ?_
          refine cSl (As := [.long (lN 102), .int (nI 101), .int (nI 110)]) (rest := [.long (lN wq)]) ⟨hx, hb, hml, hown, hts⟩ (c_X5_add l  102 101 110 (by omega) (by omega) (by omega)) (va_cwS 3 hts (gS mU_278 mU_279 mU_6 mU_280) rfl rfl rfl (by decide +kernel) ⟨Nat.le_of_ble_eq_true rfl, Nat.le_of_ble_eq_true rfl⟩) fbU (fun _ _ _ => trivial) rfl hl.1 rfl (Nat.le_of_ble_eq_true rfl) dX5_wordOf_81 ⟨Nat.zero_le _, Nat.zero_le _⟩ ?_
          refine lv_bipush (v := nI 99) hx hb dX5_wordOf_84 (by decide) ?_
          refine lv_bipush (v := nI 101) hx hb dX5_wordOf_86 (by decide) ?_
          refine cSl (As := [.long (lN 6710638), .int (nI 99), .int (nI 101)]) (rest := [.long (lN wq)]) ⟨hx, hb, hml, hown, hts⟩ (c_X5_add l  6710638 99 101 (by omega) (by omega) (by omega)) (va_cwS 3 hts (gS mU_278 mU_279 mU_6 mU_280) rfl rfl rfl (by decide +kernel) ⟨Nat.le_of_ble_eq_true rfl, Nat.le_of_ble_eq_true rfl⟩) fbU (fun _ _ _ => trivial) rfl hl.1 rfl (Nat.le_of_ble_eq_true rfl) dX5_wordOf_88 ⟨Nat.zero_le _, Nat.zero_le _⟩ ?_
          refine W.lcmp hx hb dX5_wordOf_91 ?_
          refine lv_if_ne (tgt := 97) hx hb dX5_wordOf_92 (by decide) (fun c92_5 => ?_) (fun c92_5 => ?_)
          · have c92_5 : ¬ (wq = 439788397413) := fun h9 => c92_5 ((lg_cmp_eq _ _).mpr ((pk_lEQ (a := wq) (b := 439788397413) (by omega) (by omega)).mpr h9))
            refine lv_lload_n hx hb dX5_wordOf_97 rfl (lv_at hl 0 rfl) ?_
            refine lv_lconst (v := lN 0) hx hb dX5_wordOf_98 rfl ?_
            refine lv_bipush (v := nI 119) hx hb dX5_wordOf_99 (by decide) ?_
            refine lv_bipush (v := nI 97) hx hb dX5_wordOf_101 (by decide) ?_
            refine cSl (As := [.long (lN 0), .int (nI 119), .int (nI 97)]) (rest := [.long (lN wq)]) ⟨hx, hb, hml, hown, hts⟩ (c_X5_add l  0 119 97 (by omega) (by omega) (by omega)) (va_cwS 3 hts (gS mU_278 mU_279 mU_6 mU_280) rfl rfl rfl (by decide +kernel) ⟨Nat.le_of_ble_eq_true rfl, Nat.le_of_ble_eq_true rfl⟩) fbU (fun _ _ _ => trivial) rfl hl.1 rfl (Nat.le_of_ble_eq_true rfl) dX5_wordOf_103 ⟨Nat.zero_le _, Nat.zero_le _⟩ ?_
            refine lv_bipush (v := nI 105) hx hb dX5_wordOf_106 (by decide) ?_
            refine lv_bipush (v := nI 116) hx hb dX5_wordOf_108 (by decide) ?_
            refine cSl (As := [.long (lN 30561), .int (nI 105), .int (nI 116)]) (rest := [.long (lN wq)]) ⟨hx, hb, hml, hown, hts⟩ (c_X5_add l  30561 105 116 (by omega) (by omega) (by omega)) (va_cwS 3 hts (gS mU_278 mU_279 mU_6 mU_280) rfl rfl rfl (by decide +kernel) ⟨Nat.le_of_ble_eq_true rfl, Nat.le_of_ble_eq_true rfl⟩) fbU (fun _ _ _ => trivial) rfl hl.1 rfl (Nat.le_of_ble_eq_true rfl) dX5_wordOf_110 ⟨Nat.zero_le _, Nat.zero_le _⟩ ?_
            refine W.lcmp hx hb dX5_wordOf_113 ?_
            refine lv_if_ne (tgt := 119) hx hb dX5_wordOf_114 (by decide) (fun c114_6 => ?_) (fun c114_6 => ?_)
            · have c114_6 : ¬ (wq = 2002872692) := fun h9 => c114_6 ((lg_cmp_eq _ _).mpr ((pk_lEQ (a := wq) (b := 2002872692) (by omega) (by omega)).mpr h9))
              refine lv_lload_n hx hb dX5_wordOf_119 rfl (lv_at hl 0 rfl) ?_
              refine lv_ldc2 (v := (115)) hx hb hown (hU _ mU_277) dX5_wordOf_120 ?_
              refine lv_topEl (lN 115) (by decide) ?_
              refine lv_bipush (v := nI 101) hx hb dX5_wordOf_123 (by decide) ?_
              refine lv_bipush (v := nI 116) hx hb dX5_wordOf_125 (by decide) ?_
              refine cSl (As := [.long (lN 115), .int (nI 101), .int (nI 116)]) (rest := [.long (lN wq)]) ⟨hx, hb, hml, hown, hts⟩ (c_X5_add l  115 101 116 (by omega) (by omega) (by omega)) (va_cwS 3 hts (gS mU_278 mU_279 mU_6 mU_280) rfl rfl rfl (by decide +kernel) ⟨Nat.le_of_ble_eq_true rfl, Nat.le_of_ble_eq_true rfl⟩) fbU (fun _ _ _ => trivial) rfl hl.1 rfl (Nat.le_of_ble_eq_true rfl) dX5_wordOf_127 ⟨Nat.zero_le _, Nat.zero_le _⟩ ?_
              refine W.lcmp hx hb dX5_wordOf_130 ?_
              refine lv_if_ne (tgt := 137) hx hb dX5_wordOf_131 (by decide) (fun c131_7 => ?_) (fun c131_7 => ?_)
              · have c131_7 : ¬ (wq = 7562612) := fun h9 => c131_7 ((lg_cmp_eq _ _).mpr ((pk_lEQ (a := wq) (b := 7562612) (by omega) (by omega)).mpr h9))
                refine lv_lload_n hx hb dX5_wordOf_137 rfl (lv_at hl 0 rfl) ?_
                refine lv_lconst (v := lN 0) hx hb dX5_wordOf_138 rfl ?_
                refine lv_bipush (v := nI 108) hx hb dX5_wordOf_139 (by decide) ?_
                refine lv_bipush (v := nI 111) hx hb dX5_wordOf_141 (by decide) ?_
                refine cSl (As := [.long (lN 0), .int (nI 108), .int (nI 111)]) (rest := [.long (lN wq)]) ⟨hx, hb, hml, hown, hts⟩ (c_X5_add l  0 108 111 (by omega) (by omega) (by omega)) (va_cwS 3 hts (gS mU_278 mU_279 mU_6 mU_280) rfl rfl rfl (by decide +kernel) ⟨Nat.le_of_ble_eq_true rfl, Nat.le_of_ble_eq_true rfl⟩) fbU (fun _ _ _ => trivial) rfl hl.1 rfl (Nat.le_of_ble_eq_true rfl) dX5_wordOf_143 ⟨Nat.zero_le _, Nat.zero_le _⟩ ?_
                refine lv_bipush (v := nI 97) hx hb dX5_wordOf_146 (by decide) ?_
                refine lv_bipush (v := nI 100) hx hb dX5_wordOf_148 (by decide) ?_
                refine cSl (As := [.long (lN 27759), .int (nI 97), .int (nI 100)]) (rest := [.long (lN wq)]) ⟨hx, hb, hml, hown, hts⟩ (c_X5_add l  27759 97 100 (by omega) (by omega) (by omega)) (va_cwS 3 hts (gS mU_278 mU_279 mU_6 mU_280) rfl rfl rfl (by decide +kernel) ⟨Nat.le_of_ble_eq_true rfl, Nat.le_of_ble_eq_true rfl⟩) fbU (fun _ _ _ => trivial) rfl hl.1 rfl (Nat.le_of_ble_eq_true rfl) dX5_wordOf_150 ⟨Nat.zero_le _, Nat.zero_le _⟩ ?_
                refine W.lcmp hx hb dX5_wordOf_153 ?_
                refine lv_if_ne (tgt := 160) hx hb dX5_wordOf_154 (by decide) (fun c154_8 => ?_) (fun c154_8 => ?_)
                · have c154_8 : ¬ (wq = 1819238756) := fun h9 => c154_8 ((lg_cmp_eq _ _).mpr ((pk_lEQ (a := wq) (b := 1819238756) (by omega) (by omega)).mpr h9))
                  refine lv_lload_n hx hb dX5_wordOf_160 rfl (lv_at hl 0 rfl) ?_
                  refine lv_lconst (v := lN 0) hx hb dX5_wordOf_161 rfl ?_
                  refine lv_bipush (v := nI 105) hx hb dX5_wordOf_162 (by decide) ?_
                  refine lv_bipush (v := nI 102) hx hb dX5_wordOf_164 (by decide) ?_
                  refine cSl (As := [.long (lN 0), .int (nI 105), .int (nI 102)]) (rest := [.long (lN wq)]) ⟨hx, hb, hml, hown, hts⟩ (c_X5_add l  0 105 102 (by omega) (by omega) (by omega)) (va_cwS 3 hts (gS mU_278 mU_279 mU_6 mU_280) rfl rfl rfl (by decide +kernel) ⟨Nat.le_of_ble_eq_true rfl, Nat.le_of_ble_eq_true rfl⟩) fbU (fun _ _ _ => trivial) rfl hl.1 rfl (Nat.le_of_ble_eq_true rfl) dX5_wordOf_166 ⟨Nat.zero_le _, Nat.zero_le _⟩ ?_
                  refine W.lcmp hx hb dX5_wordOf_169 ?_
                  refine lv_if_ne (tgt := 178) hx hb dX5_wordOf_170 (by decide) (fun c170_9 => ?_) (fun c170_9 => ?_)
                  · have c170_9 : ¬ (wq = 26982) := fun h9 => c170_9 ((lg_cmp_eq _ _).mpr ((pk_lEQ (a := wq) (b := 26982) (by omega) (by omega)).mpr h9))
                    refine lv_iconst (v := nI 4294967295) hx hb dX5_wordOf_178 (by decide) ?_
                    subst hQ
                    exact rti hx hb hr hlocks rfl (by first | (unfold wordV; (try first | rw [if_pos c12_1] | rw [if_neg c12_1]); (try first | rw [if_pos c29_2] | rw [if_neg c29_2]); (try first | rw [if_pos c51_3] | rw [if_neg c51_3]); (try first | rw [if_pos c68_4] | rw [if_neg c68_4]); (try first | rw [if_pos c92_5] | rw [if_neg c92_5]); (try first | rw [if_pos c114_6] | rw [if_neg c114_6]); (try first | rw [if_pos c131_7] | rw [if_neg c131_7]); (try first | rw [if_pos c154_8] | rw [if_neg c154_8]); (try first | rw [if_pos c170_9] | rw [if_neg c170_9]); (try rfl); done) | (exfalso; omega)) dX5_wordOf_179
                  · have c170_9 : wq = 26982 := (pk_lEQ (a := wq) (b := 26982) (by omega) (by omega)).mp ((lg_cmp_eq _ _).mp c170_9)
                    refine lv_bipush (v := nI 8) hx hb dX5_wordOf_173 (by decide) ?_
                    refine lv_goto (tgt := 179) hx hb dX5_wordOf_175 (by decide) ?_
                    subst hQ
                    exact rti hx hb hr hlocks rfl (by first | (unfold wordV; (try first | rw [if_pos c12_1] | rw [if_neg c12_1]); (try first | rw [if_pos c29_2] | rw [if_neg c29_2]); (try first | rw [if_pos c51_3] | rw [if_neg c51_3]); (try first | rw [if_pos c68_4] | rw [if_neg c68_4]); (try first | rw [if_pos c92_5] | rw [if_neg c92_5]); (try first | rw [if_pos c114_6] | rw [if_neg c114_6]); (try first | rw [if_pos c131_7] | rw [if_neg c131_7]); (try first | rw [if_pos c154_8] | rw [if_neg c154_8]); (try first | rw [if_pos c170_9] | rw [if_neg c170_9]); (try rfl); done) | (exfalso; omega)) dX5_wordOf_179
                · have c154_8 : wq = 1819238756 := (pk_lEQ (a := wq) (b := 1819238756) (by omega) (by omega)).mp ((lg_cmp_eq _ _).mp c154_8)
                  refine lv_bipush (v := nI 7) hx hb dX5_wordOf_157 (by decide) ?_
                  subst hQ
                  exact rti hx hb hr hlocks rfl (by first | (unfold wordV; (try first | rw [if_pos c12_1] | rw [if_neg c12_1]); (try first | rw [if_pos c29_2] | rw [if_neg c29_2]); (try first | rw [if_pos c51_3] | rw [if_neg c51_3]); (try first | rw [if_pos c68_4] | rw [if_neg c68_4]); (try first | rw [if_pos c92_5] | rw [if_neg c92_5]); (try first | rw [if_pos c114_6] | rw [if_neg c114_6]); (try first | rw [if_pos c131_7] | rw [if_neg c131_7]); (try first | rw [if_pos c154_8] | rw [if_neg c154_8]); (try rfl); done) | (exfalso; omega)) dX5_wordOf_159
              · have c131_7 : wq = 7562612 := (pk_lEQ (a := wq) (b := 7562612) (by omega) (by omega)).mp ((lg_cmp_eq _ _).mp c131_7)
                refine lv_bipush (v := nI 6) hx hb dX5_wordOf_134 (by decide) ?_
                subst hQ
                exact rti hx hb hr hlocks rfl (by first | (unfold wordV; (try first | rw [if_pos c12_1] | rw [if_neg c12_1]); (try first | rw [if_pos c29_2] | rw [if_neg c29_2]); (try first | rw [if_pos c51_3] | rw [if_neg c51_3]); (try first | rw [if_pos c68_4] | rw [if_neg c68_4]); (try first | rw [if_pos c92_5] | rw [if_neg c92_5]); (try first | rw [if_pos c114_6] | rw [if_neg c114_6]); (try first | rw [if_pos c131_7] | rw [if_neg c131_7]); (try rfl); done) | (exfalso; omega)) dX5_wordOf_136
            · have c114_6 : wq = 2002872692 := (pk_lEQ (a := wq) (b := 2002872692) (by omega) (by omega)).mp ((lg_cmp_eq _ _).mp c114_6)
              refine lv_iconst (v := nI 5) hx hb dX5_wordOf_117 (by decide) ?_
              subst hQ
              exact rti hx hb hr hlocks rfl (by first | (unfold wordV; (try first | rw [if_pos c12_1] | rw [if_neg c12_1]); (try first | rw [if_pos c29_2] | rw [if_neg c29_2]); (try first | rw [if_pos c51_3] | rw [if_neg c51_3]); (try first | rw [if_pos c68_4] | rw [if_neg c68_4]); (try first | rw [if_pos c92_5] | rw [if_neg c92_5]); (try first | rw [if_pos c114_6] | rw [if_neg c114_6]); (try rfl); done) | (exfalso; omega)) dX5_wordOf_118
          · have c92_5 : wq = 439788397413 := (pk_lEQ (a := wq) (b := 439788397413) (by omega) (by omega)).mp ((lg_cmp_eq _ _).mp c92_5)
            refine lv_iconst (v := nI 4) hx hb dX5_wordOf_95 (by decide) ?_
            subst hQ
            exact rti hx hb hr hlocks rfl (by first | (unfold wordV; (try first | rw [if_pos c12_1] | rw [if_neg c12_1]); (try first | rw [if_pos c29_2] | rw [if_neg c29_2]); (try first | rw [if_pos c51_3] | rw [if_neg c51_3]); (try first | rw [if_pos c68_4] | rw [if_neg c68_4]); (try first | rw [if_pos c92_5] | rw [if_neg c92_5]); (try rfl); done) | (exfalso; omega)) dX5_wordOf_96
        · have c68_4 : wq = 6382692 := (pk_lEQ (a := wq) (b := 6382692) (by omega) (by omega)).mp ((lg_cmp_eq _ _).mp c68_4)
          refine lv_iconst (v := nI 3) hx hb dX5_wordOf_71 (by decide) ?_
          subst hQ
          exact rti hx hb hr hlocks rfl (by first | (unfold wordV; (try first | rw [if_pos c12_1] | rw [if_neg c12_1]); (try first | rw [if_pos c29_2] | rw [if_neg c29_2]); (try first | rw [if_pos c51_3] | rw [if_neg c51_3]); (try first | rw [if_pos c68_4] | rw [if_neg c68_4]); (try rfl); done) | (exfalso; omega)) dX5_wordOf_72
      · have c51_3 : wq = 1937203568 := (pk_lEQ (a := wq) (b := 1937203568) (by omega) (by omega)).mp ((lg_cmp_eq _ _).mp c51_3)
        refine lv_iconst (v := nI 2) hx hb dX5_wordOf_54 (by decide) ?_
        subst hQ
        exact rti hx hb hr hlocks rfl (by first | (unfold wordV; (try first | rw [if_pos c12_1] | rw [if_neg c12_1]); (try first | rw [if_pos c29_2] | rw [if_neg c29_2]); (try first | rw [if_pos c51_3] | rw [if_neg c51_3]); (try rfl); done) | (exfalso; omega)) dX5_wordOf_55
    · have c29_2 : wq = 6776180 := (pk_lEQ (a := wq) (b := 6776180) (by omega) (by omega)).mp ((lg_cmp_eq _ _).mp c29_2)
      refine lv_iconst (v := nI 1) hx hb dX5_wordOf_32 (by decide) ?_
      subst hQ
      exact rti hx hb hr hlocks rfl (by first | (unfold wordV; (try first | rw [if_pos c12_1] | rw [if_neg c12_1]); (try first | rw [if_pos c29_2] | rw [if_neg c29_2]); (try rfl); done) | (exfalso; omega)) dX5_wordOf_33
  · have c12_1 : wq = 7370100 := (pk_lEQ (a := wq) (b := 7370100) (by omega) (by omega)).mp ((lg_cmp_eq _ _).mp c12_1)
    refine lv_iconst (v := nI 0) hx hb dX5_wordOf_15 (by decide) ?_
    subst hQ
    exact rti hx hb hr hlocks rfl (by first | (unfold wordV; (try first | rw [if_pos c12_1] | rw [if_neg c12_1]); (try rfl); done) | (exfalso; omega)) dX5_wordOf_16

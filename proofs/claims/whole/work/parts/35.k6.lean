/-- what a wish of the class does, its statement's place wi -/
def touchC (so nu : Nat → Nat) (x h wi : Nat) : Nat :=
  if so wi = 0 then withN x (2 * nu (wi * 4 + 0)) 2 (nu (wi * 4 + 1))
  else if so wi = 1 then withN x (8 + 4 * h + 2 * nu (wi * 4 + 1)) 2 (bitsN x (2 * nu (wi * 4 + 0)) 2)
  else if so wi = 2 then (if bitsN x (2 * nu (wi * 4 + 0)) 2 = nu (wi * 4 + 1) then withN (withN x (2 * nu (wi * 4 + 0)) 2 (nu (wi * 4 + 2))) (8 + 4 * h + 2 * nu (wi * 4 + 3)) 2 (bitsN x (2 * nu (wi * 4 + 0)) 2) else withN x (8 + 4 * h + 2 * nu (wi * 4 + 3)) 2 (bitsN x (2 * nu (wi * 4 + 0)) 2))
  else withN (withN x (2 * nu (wi * 4 + 0)) 2 ((bitsN x (2 * nu (wi * 4 + 0)) 2 + nu (wi * 4 + 1)) % 4)) (8 + 4 * h + 2 * nu (wi * 4 + 2)) 2 (bitsN x (2 * nu (wi * 4 + 0)) 2)
set_option maxHeartbeats 4000000 in
set_option maxRecDepth 100000 in
theorem c_X0_touched0 (l : Launch) (D : va_G) (ma mb mc md : Nat) (k0 k1 k2 : ClassId) (mf : Nat) (wo ri : Nat → Nat) (pa0 pb0 pc0 : Nat) (kb0 kc0 : ClassId) (n0 : Nat) (so0 nu0 : Nat → Nat) (pa1 pb1 pc1 : Nat) (kb1 kc1 : ClassId) (n1 : Nat) (so1 nu1 : Nat → Nat) (sx : Nat) (wi : Nat) (hsx : sx < 2 ^ 44) (hwi : wi < 7) (hs4 : so0 wi < 4) (hok : okS (so0 wi) (nu0 (wi * 4 + 0)) (nu0 (wi * 4 + 1)) (nu0 (wi * 4 + 2)) (nu0 (wi * 4 + 3))) : Met l yX0_touched (.code yX0_touched cX0_touched 12 (some .long) :: wsL_law) ({ frames := 1, cells := 0, slots := 0, locals := 24 }) (va_Pc [.ref ma, .long (lN sx), .int (nI 0), .int (nI wi)] (PR D (kW ma mb mc md k0 k1 k2 mf wo ri pa0 pb0 pc0 kb0 kc0 n0 so0 nu0 pa1 pb1 pc1 kb1 kc1 n1 so1 nu1) (kT k0 k1 k2 kb0 kc0 kb1 kc1))) (QrL (lN (touchC so0 nu0 sx 0 wi))) 0 0 (fun _ => False) := by
  refine Met.ofW (cc := cX0_touched) (maxL := 12) (ret := (some .long)) (by decide) rfl ?_
  intro p e s m args below meth c s₁ B hml hv
  obtain ⟨rfl, hP, hK⟩ := hv
  have hx := B.exec
  have hb := B.bytes
  have hr := B.returns
  have hts := atoms_spec (ws := .code yX0_touched cX0_touched 12 (some .long) :: wsL_law) B.pre
  have hU : ∀ w ∈ wsL_law, w.before _ s = true := fun w h => hts w (List.mem_cons_of_mem _ h)
  have hown : s.vm.findClass RX0 = some m.cls := findClass_of_methodNamed B.named
  have hlocks := B.notSynchronized
  generalize hQ : MQ _ _ _ _ _ _ _ = Q
  have hl := lv_entry ([.ref ma, .long (lN sx), .int (nI 0), .int (nI wi)]) (n := 12) (Nat.le_of_ble_eq_true rfl)
  rw [lg_entry_eq]
  generalize (lg_sl ([.ref ma, .long (lN sx), .int (nI 0), .int (nI wi)]) ++ List.replicate (12 - (lg_sl ([.ref ma, .long (lN sx), .int (nI 0), .int (nI wi)])).length) Slot.unset).toArray = ls at hl ⊢
  have hl : lv_has ls 12 [(0, .ref ma), (1, .long (lN sx)), (3, .int (nI 0)), (4, .int (nI wi))] := hl
  have hka := okS_a hok hs4
  have hkc := okS_c hok
  have hkd := okS_d hok
  have hkb := okS_b hok
  refine lv_aload_n hx hb dX0_touched_0 rfl (lv_at hl 0 rfl) ?_
  refine va_get (D := D) (ci := 0) (v := .ref mb) (C := RX0) (T := TX0) (N := 4) hx hb hU iX0 hown hK hP 0 rfl rfl 0 (by decide) (hU _ mU_54) (fun _ h9 => h9) rfl dX0_touched_1 ?_
  refine lv_iload_n hx hb dX0_touched_4 rfl (lv_at hl 2 rfl) ?_
  refine va_aldq hx hb hK hP 1 0 rfl rfl (vp_in_nI (n := 0) (by decide) (by decide)) dX0_touched_5 ?_
  refine W.eq (g2 := F0 m 6 ls [.ref pa0]) (by rw [nI_clamp (show 0 < 2 ^ 31 by decide)]; rfl) ?_
  refine lv_astore (lv' := [(5, .ref pa0), (0, .ref ma), (1, .long (lN sx)), (3, .int (nI 0)), (4, .int (nI wi))]) hx hb dX0_touched_6 hl (by decide) rfl (fun ls hl => ?_)
  refine lv_iconst (v := nI 2) hx hb dX0_touched_8 (by decide) ?_
  refine lv_aload hx hb dX0_touched_9 (lv_at hl 0 rfl) ?_
  refine lv_iload hx hb dX0_touched_11 (lv_at hl 4 rfl) ?_
  refine lv_iconst (v := nI 0) hx hb dX0_touched_13 (by decide) ?_
  have hPc := hP.sub (ws' := [(pa0, .inr (1, [.int (nI n0), .ref pb0, .ref pc0])), (pb0, .inl (kb0, 8, .inl (nA so0))), (pc0, .inl (kc0, 32, .inl (nA nu0)))]) [4, 5, 6] rfl
  have hKc := hK.sub (tys' := [(kb0, .int), (kc0, .int)]) [3, 4] rfl
  refine cVi (As := [.int (nI wi), .int (nI 0)]) (rest := [.int (nI 2)]) ⟨hx, hb, hml, hown, hts⟩ (c_X1_number l D pa0 pb0 pc0 kb0 kc0 n0 so0 nu0 wi 0 (by omega)) (cwV 2 hts (gV mU_416 mU_417 mU_418 mU_22 mU_419) rfl rfl rfl (by decide +kernel) ⟨Nat.le_of_ble_eq_true rfl, Nat.le_of_ble_eq_true rfl⟩) fbR (va_recv hK hP (ci := 1) (q0 := 4) rfl rfl) (PR.of hPc hKc) rfl hl.1 rfl (Nat.le_of_ble_eq_true rfl) dX0_touched_14 ⟨Nat.zero_le _, Nat.zero_le _⟩ ?_
  refine lv_imul hx hb dX0_touched_17 ?_
  refine lv_topE (nI (2 * (nu0 (wi * 4 + 0)))) (pk_mul _ _) ?_
  refine lv_istore (lv' := [(6, .int (nI (2 * (nu0 (wi * 4 + 0))))), (5, .ref pa0), (0, .ref ma), (1, .long (lN sx)), (3, .int (nI 0)), (4, .int (nI wi))]) hx hb dX0_touched_18 hl (by decide) rfl (fun ls hl => ?_)
  refine lv_lload_n hx hb dX0_touched_20 rfl (lv_at hl 3 rfl) ?_
  refine lv_iload hx hb dX0_touched_21 (lv_at hl 0 rfl) ?_
  refine lv_iconst (v := nI 3) hx hb dX0_touched_23 (by decide) ?_
  refine cSi (As := [.long (lN sx), .int (nI (2 * (nu0 (wi * 4 + 0)))), .int (nI 3)]) (rest := []) ⟨hx, hb, hml, hown, hts⟩ (c_X0_bits l  sx (2 * (nu0 (wi * 4 + 0))) 2 (by omega) (by omega)) (va_cwS 3 hts (gS mU_398 mU_399 mU_27 mU_400) rfl rfl rfl (by decide +kernel) ⟨Nat.le_of_ble_eq_true rfl, Nat.le_of_ble_eq_true rfl⟩) fbU (fun _ _ _ => trivial) rfl hl.1 rfl (Nat.le_of_ble_eq_true rfl) dX0_touched_24 ⟨Nat.zero_le _, Nat.zero_le _⟩ ?_
  have hf_1 : bitsN sx (2 * (nu0 (wi * 4 + 0))) 2 < 2 ^ 2 := bitsN_lt _ _ _
  refine lv_istore (lv' := [(7, .int (nI (bitsN sx (2 * (nu0 (wi * 4 + 0))) 2))), (6, .int (nI (2 * (nu0 (wi * 4 + 0))))), (5, .ref pa0), (0, .ref ma), (1, .long (lN sx)), (3, .int (nI 0)), (4, .int (nI wi))]) hx hb dX0_touched_27 hl (by decide) rfl (fun ls hl => ?_)
  refine lv_aload hx hb dX0_touched_29 (lv_at hl 2 rfl) ?_
  refine va_get (D := D) (ci := 1) (v := .ref pb0) (C := RX1) (T := TX1) (N := 3) hx hb hU iX1 hown hK hP 4 rfl rfl 1 (by decide) (hU _ mU_397) (fun _ h9 => h9) rfl dX0_touched_31 ?_
  refine lv_iload hx hb dX0_touched_34 (lv_at hl 6 rfl) ?_
  refine n_iald hx hb hK hP 5 3 rfl rfl (i := wi) (by omega) (by decide) dX0_touched_36 ?_
  rcases (show so0 wi = 0 ∨ so0 wi = 1 ∨ so0 wi = 2 ∨ (so0 wi < 0 ∨ 2 < so0 wi) by omega) with c37_2 | c37_2 | c37_2 | c37_2
  · have hx9 : (nI (so0 wi)).toInt = 0 := by rw [nI_toInt (show so0 wi < 2 ^ 31 by omega)]; omega
    refine lv_tableIn (tgt := 64) (off := 27) hx hb dX0_touched_37 (by rw [hx9]; decide) (by rw [hx9]; decide) (by rw [hx9]; rfl) (by decide) ?_
    refine lv_lload_n hx hb dX0_touched_64 rfl (lv_at hl 4 rfl) ?_
    refine lv_iload hx hb dX0_touched_65 (lv_at hl 1 rfl) ?_
    refine lv_iconst (v := nI 3) hx hb dX0_touched_67 (by decide) ?_
    refine lv_aload hx hb dX0_touched_68 (lv_at hl 2 rfl) ?_
    refine lv_iload hx hb dX0_touched_70 (lv_at hl 6 rfl) ?_
    refine lv_iconst (v := nI 1) hx hb dX0_touched_72 (by decide) ?_
    have hPc := hP.sub (ws' := [(pa0, .inr (1, [.int (nI n0), .ref pb0, .ref pc0])), (pb0, .inl (kb0, 8, .inl (nA so0))), (pc0, .inl (kc0, 32, .inl (nA nu0)))]) [4, 5, 6] rfl
    have hKc := hK.sub (tys' := [(kb0, .int), (kc0, .int)]) [3, 4] rfl
    refine cVi (As := [.int (nI wi), .int (nI 1)]) (rest := [.int (nI 3), .int (nI (2 * (nu0 (wi * 4 + 0)))), .long (lN sx)]) ⟨hx, hb, hml, hown, hts⟩ (c_X1_number l D pa0 pb0 pc0 kb0 kc0 n0 so0 nu0 wi 1 (by omega)) (cwV 2 hts (gV mU_416 mU_417 mU_418 mU_22 mU_419) rfl rfl rfl (by decide +kernel) ⟨Nat.le_of_ble_eq_true rfl, Nat.le_of_ble_eq_true rfl⟩) fbR (va_recv hK hP (ci := 1) (q0 := 4) rfl rfl) (PR.of hPc hKc) rfl hl.1 rfl (Nat.le_of_ble_eq_true rfl) dX0_touched_73 ⟨Nat.zero_le _, Nat.zero_le _⟩ ?_
    refine cSl (As := [.long (lN sx), .int (nI (2 * (nu0 (wi * 4 + 0)))), .int (nI 3), .int (nI (nu0 (wi * 4 + 1)))]) (rest := []) ⟨hx, hb, hml, hown, hts⟩ (c_X0_with l  sx (2 * (nu0 (wi * 4 + 0))) 2 (nu0 (wi * 4 + 1)) (by omega) (by omega) (by omega) (by omega) (by omega)) (va_cwS 4 hts (gS mU_420 mU_421 mU_27 mU_422) rfl rfl rfl (by decide +kernel) ⟨Nat.le_of_ble_eq_true rfl, Nat.le_of_ble_eq_true rfl⟩) fbU (fun _ _ _ => trivial) rfl hl.1 rfl (Nat.le_of_ble_eq_true rfl) dX0_touched_76 ⟨Nat.zero_le _, Nat.zero_le _⟩ ?_
    have hf_3 : withN sx (2 * (nu0 (wi * 4 + 0))) 2 (nu0 (wi * 4 + 1)) < 2 ^ 44 := withN_lt (by omega) (by omega) (by omega)
    subst hQ
    exact rtl hx hb hr hlocks rfl (by first | (unfold touchC; (try rw [c37_2]); (try rfl); done) | (exfalso; omega)) dX0_touched_79
  · have hx9 : (nI (so0 wi)).toInt = 1 := by rw [nI_toInt (show so0 wi < 2 ^ 31 by omega)]; omega
    refine lv_tableIn (tgt := 80) (off := 43) hx hb dX0_touched_37 (by rw [hx9]; decide) (by rw [hx9]; decide) (by rw [hx9]; rfl) (by decide) ?_
    refine lv_lload_n hx hb dX0_touched_80 rfl (lv_at hl 4 rfl) ?_
    refine lv_iload_n hx hb dX0_touched_81 rfl (lv_at hl 5 rfl) ?_
    refine lv_aload hx hb dX0_touched_82 (lv_at hl 2 rfl) ?_
    refine lv_iload hx hb dX0_touched_84 (lv_at hl 6 rfl) ?_
    refine lv_iconst (v := nI 1) hx hb dX0_touched_86 (by decide) ?_
    have hPc := hP.sub (ws' := [(pa0, .inr (1, [.int (nI n0), .ref pb0, .ref pc0])), (pb0, .inl (kb0, 8, .inl (nA so0))), (pc0, .inl (kc0, 32, .inl (nA nu0)))]) [4, 5, 6] rfl
    have hKc := hK.sub (tys' := [(kb0, .int), (kc0, .int)]) [3, 4] rfl
    refine cVi (As := [.int (nI wi), .int (nI 1)]) (rest := [.int (nI 0), .long (lN sx)]) ⟨hx, hb, hml, hown, hts⟩ (c_X1_number l D pa0 pb0 pc0 kb0 kc0 n0 so0 nu0 wi 1 (by omega)) (cwV 2 hts (gV mU_416 mU_417 mU_418 mU_22 mU_419) rfl rfl rfl (by decide +kernel) ⟨Nat.le_of_ble_eq_true rfl, Nat.le_of_ble_eq_true rfl⟩) fbR (va_recv hK hP (ci := 1) (q0 := 4) rfl rfl) (PR.of hPc hKc) rfl hl.1 rfl (Nat.le_of_ble_eq_true rfl) dX0_touched_87 ⟨Nat.zero_le _, Nat.zero_le _⟩ ?_
    refine cSi (As := [.int (nI 0), .int (nI (nu0 (wi * 4 + 1)))]) (rest := [.long (lN sx)]) ⟨hx, hb, hml, hown, hts⟩ (c_X0_registerAt l  0 (nu0 (wi * 4 + 1)) ) (va_cwS 2 hts (gS mU_423 mU_424 mU_27 mU_425) rfl rfl rfl (by decide +kernel) ⟨Nat.le_of_ble_eq_true rfl, Nat.le_of_ble_eq_true rfl⟩) fbU (fun _ _ _ => trivial) rfl hl.1 rfl (Nat.le_of_ble_eq_true rfl) dX0_touched_90 ⟨Nat.zero_le _, Nat.zero_le _⟩ ?_
    refine lv_iconst (v := nI 3) hx hb dX0_touched_93 (by decide) ?_
    refine lv_iload hx hb dX0_touched_94 (lv_at hl 0 rfl) ?_
    refine cSl (As := [.long (lN sx), .int (nI (8 + 2 * (nu0 (wi * 4 + 1)))), .int (nI 3), .int (nI (bitsN sx (2 * (nu0 (wi * 4 + 0))) 2))]) (rest := []) ⟨hx, hb, hml, hown, hts⟩ (c_X0_with l  sx (8 + 2 * (nu0 (wi * 4 + 1))) 2 (bitsN sx (2 * (nu0 (wi * 4 + 0))) 2) (by omega) (by omega) (by omega) (by omega) (by omega)) (va_cwS 4 hts (gS mU_420 mU_421 mU_27 mU_422) rfl rfl rfl (by decide +kernel) ⟨Nat.le_of_ble_eq_true rfl, Nat.le_of_ble_eq_true rfl⟩) fbU (fun _ _ _ => trivial) rfl hl.1 rfl (Nat.le_of_ble_eq_true rfl) dX0_touched_96 ⟨Nat.zero_le _, Nat.zero_le _⟩ ?_
    have hf_4 : withN sx (8 + 2 * (nu0 (wi * 4 + 1))) 2 (bitsN sx (2 * (nu0 (wi * 4 + 0))) 2) < 2 ^ 44 := withN_lt (by omega) (by omega) (by omega)
    subst hQ
    exact rtl hx hb hr hlocks rfl (by first | (unfold touchC; (try rw [c37_2]); (try rfl); done) | (exfalso; omega)) dX0_touched_99
  · have hx9 : (nI (so0 wi)).toInt = 2 := by rw [nI_toInt (show so0 wi < 2 ^ 31 by omega)]; omega
    refine lv_tableIn (tgt := 100) (off := 63) hx hb dX0_touched_37 (by rw [hx9]; decide) (by rw [hx9]; decide) (by rw [hx9]; rfl) (by decide) ?_
    refine lv_iload hx hb dX0_touched_100 (lv_at hl 0 rfl) ?_
    refine lv_aload hx hb dX0_touched_102 (lv_at hl 2 rfl) ?_
    refine lv_iload hx hb dX0_touched_104 (lv_at hl 6 rfl) ?_
    refine lv_iconst (v := nI 1) hx hb dX0_touched_106 (by decide) ?_
    have hPc := hP.sub (ws' := [(pa0, .inr (1, [.int (nI n0), .ref pb0, .ref pc0])), (pb0, .inl (kb0, 8, .inl (nA so0))), (pc0, .inl (kc0, 32, .inl (nA nu0)))]) [4, 5, 6] rfl
    have hKc := hK.sub (tys' := [(kb0, .int), (kc0, .int)]) [3, 4] rfl
    refine cVi (As := [.int (nI wi), .int (nI 1)]) (rest := [.int (nI (bitsN sx (2 * (nu0 (wi * 4 + 0))) 2))]) ⟨hx, hb, hml, hown, hts⟩ (c_X1_number l D pa0 pb0 pc0 kb0 kc0 n0 so0 nu0 wi 1 (by omega)) (cwV 2 hts (gV mU_416 mU_417 mU_418 mU_22 mU_419) rfl rfl rfl (by decide +kernel) ⟨Nat.le_of_ble_eq_true rfl, Nat.le_of_ble_eq_true rfl⟩) fbR (va_recv hK hP (ci := 1) (q0 := 4) rfl rfl) (PR.of hPc hKc) rfl hl.1 rfl (Nat.le_of_ble_eq_true rfl) dX0_touched_107 ⟨Nat.zero_le _, Nat.zero_le _⟩ ?_
    refine lv_icmp_ne (tgt := 131) hx hb dX0_touched_110 (by decide) (fun c110_5 => ?_) (fun c110_5 => ?_)
    · have c110_5 : ¬ (bitsN sx (2 * (nu0 (wi * 4 + 0))) 2 = nu0 (wi * 4 + 1)) := fun h9 => c110_5 ((nI_eqG (a := bitsN sx (2 * (nu0 (wi * 4 + 0))) 2) (b := nu0 (wi * 4 + 1)) (by omega) (by omega)).mpr h9)
      refine lv_lload_n hx hb dX0_touched_131 rfl (lv_at hl 4 rfl) ?_
      refine lv_lstore (lv' := [(8, .long (lN sx)), (7, .int (nI (bitsN sx (2 * (nu0 (wi * 4 + 0))) 2))), (6, .int (nI (2 * (nu0 (wi * 4 + 0))))), (5, .ref pa0), (0, .ref ma), (1, .long (lN sx)), (3, .int (nI 0)), (4, .int (nI wi))]) hx hb dX0_touched_132 hl (by decide) rfl (fun ls hl => ?_)
      refine lv_lload hx hb dX0_touched_134 (lv_at hl 0 rfl) ?_
      refine lv_iload_n hx hb dX0_touched_136 rfl (lv_at hl 6 rfl) ?_
      refine lv_aload hx hb dX0_touched_137 (lv_at hl 3 rfl) ?_
      refine lv_iload hx hb dX0_touched_139 (lv_at hl 7 rfl) ?_
      refine lv_iconst (v := nI 3) hx hb dX0_touched_141 (by decide) ?_
      have hPc := hP.sub (ws' := [(pa0, .inr (1, [.int (nI n0), .ref pb0, .ref pc0])), (pb0, .inl (kb0, 8, .inl (nA so0))), (pc0, .inl (kc0, 32, .inl (nA nu0)))]) [4, 5, 6] rfl
      have hKc := hK.sub (tys' := [(kb0, .int), (kc0, .int)]) [3, 4] rfl
      refine cVi (As := [.int (nI wi), .int (nI 3)]) (rest := [.int (nI 0), .long (lN sx)]) ⟨hx, hb, hml, hown, hts⟩ (c_X1_number l D pa0 pb0 pc0 kb0 kc0 n0 so0 nu0 wi 3 (by omega)) (cwV 2 hts (gV mU_416 mU_417 mU_418 mU_22 mU_419) rfl rfl rfl (by decide +kernel) ⟨Nat.le_of_ble_eq_true rfl, Nat.le_of_ble_eq_true rfl⟩) fbR (va_recv hK hP (ci := 1) (q0 := 4) rfl rfl) (PR.of hPc hKc) rfl hl.1 rfl (Nat.le_of_ble_eq_true rfl) dX0_touched_142 ⟨Nat.zero_le _, Nat.zero_le _⟩ ?_
      refine cSi (As := [.int (nI 0), .int (nI (nu0 (wi * 4 + 3)))]) (rest := [.long (lN sx)]) ⟨hx, hb, hml, hown, hts⟩ (c_X0_registerAt l  0 (nu0 (wi * 4 + 3)) ) (va_cwS 2 hts (gS mU_423 mU_424 mU_27 mU_425) rfl rfl rfl (by decide +kernel) ⟨Nat.le_of_ble_eq_true rfl, Nat.le_of_ble_eq_true rfl⟩) fbU (fun _ _ _ => trivial) rfl hl.1 rfl (Nat.le_of_ble_eq_true rfl) dX0_touched_145 ⟨Nat.zero_le _, Nat.zero_le _⟩ ?_
      refine lv_iconst (v := nI 3) hx hb dX0_touched_148 (by decide) ?_
      refine lv_iload hx hb dX0_touched_149 (lv_at hl 1 rfl) ?_
      refine cSl (As := [.long (lN sx), .int (nI (8 + 2 * (nu0 (wi * 4 + 3)))), .int (nI 3), .int (nI (bitsN sx (2 * (nu0 (wi * 4 + 0))) 2))]) (rest := []) ⟨hx, hb, hml, hown, hts⟩ (c_X0_with l  sx (8 + 2 * (nu0 (wi * 4 + 3))) 2 (bitsN sx (2 * (nu0 (wi * 4 + 0))) 2) (by omega) (by omega) (by omega) (by omega) (by omega)) (va_cwS 4 hts (gS mU_420 mU_421 mU_27 mU_422) rfl rfl rfl (by decide +kernel) ⟨Nat.le_of_ble_eq_true rfl, Nat.le_of_ble_eq_true rfl⟩) fbU (fun _ _ _ => trivial) rfl hl.1 rfl (Nat.le_of_ble_eq_true rfl) dX0_touched_151 ⟨Nat.zero_le _, Nat.zero_le _⟩ ?_
      have hf_6 : withN sx (8 + 2 * (nu0 (wi * 4 + 3))) 2 (bitsN sx (2 * (nu0 (wi * 4 + 0))) 2) < 2 ^ 44 := withN_lt (by omega) (by omega) (by omega)
      subst hQ
      exact rtl hx hb hr hlocks rfl (by first | (unfold touchC; (try rw [c37_2]); (try first | rw [if_pos c110_5] | rw [if_neg c110_5]); (try rfl); done) | (exfalso; omega)) dX0_touched_154
    · have c110_5 : bitsN sx (2 * (nu0 (wi * 4 + 0))) 2 = nu0 (wi * 4 + 1) := (nI_eqG (a := bitsN sx (2 * (nu0 (wi * 4 + 0))) 2) (b := nu0 (wi * 4 + 1)) (by omega) (by omega)).mp c110_5
      refine lv_lload_n hx hb dX0_touched_113 rfl (lv_at hl 4 rfl) ?_
      refine lv_iload hx hb dX0_touched_114 (lv_at hl 1 rfl) ?_
      refine lv_iconst (v := nI 3) hx hb dX0_touched_116 (by decide) ?_
      refine lv_aload hx hb dX0_touched_117 (lv_at hl 2 rfl) ?_
      refine lv_iload hx hb dX0_touched_119 (lv_at hl 6 rfl) ?_
      refine lv_iconst (v := nI 2) hx hb dX0_touched_121 (by decide) ?_
      have hPc := hP.sub (ws' := [(pa0, .inr (1, [.int (nI n0), .ref pb0, .ref pc0])), (pb0, .inl (kb0, 8, .inl (nA so0))), (pc0, .inl (kc0, 32, .inl (nA nu0)))]) [4, 5, 6] rfl
      have hKc := hK.sub (tys' := [(kb0, .int), (kc0, .int)]) [3, 4] rfl
      refine cVi (As := [.int (nI wi), .int (nI 2)]) (rest := [.int (nI 3), .int (nI (2 * (nu0 (wi * 4 + 0)))), .long (lN sx)]) ⟨hx, hb, hml, hown, hts⟩ (c_X1_number l D pa0 pb0 pc0 kb0 kc0 n0 so0 nu0 wi 2 (by omega)) (cwV 2 hts (gV mU_416 mU_417 mU_418 mU_22 mU_419) rfl rfl rfl (by decide +kernel) ⟨Nat.le_of_ble_eq_true rfl, Nat.le_of_ble_eq_true rfl⟩) fbR (va_recv hK hP (ci := 1) (q0 := 4) rfl rfl) (PR.of hPc hKc) rfl hl.1 rfl (Nat.le_of_ble_eq_true rfl) dX0_touched_122 ⟨Nat.zero_le _, Nat.zero_le _⟩ ?_
      refine cSl (As := [.long (lN sx), .int (nI (2 * (nu0 (wi * 4 + 0)))), .int (nI 3), .int (nI (nu0 (wi * 4 + 2)))]) (rest := []) ⟨hx, hb, hml, hown, hts⟩ (c_X0_with l  sx (2 * (nu0 (wi * 4 + 0))) 2 (nu0 (wi * 4 + 2)) (by omega) (by omega) (by omega) (by omega) (by omega)) (va_cwS 4 hts (gS mU_420 mU_421 mU_27 mU_422) rfl rfl rfl (by decide +kernel) ⟨Nat.le_of_ble_eq_true rfl, Nat.le_of_ble_eq_true rfl⟩) fbU (fun _ _ _ => trivial) rfl hl.1 rfl (Nat.le_of_ble_eq_true rfl) dX0_touched_125 ⟨Nat.zero_le _, Nat.zero_le _⟩ ?_
      have hf_7 : withN sx (2 * (nu0 (wi * 4 + 0))) 2 (nu0 (wi * 4 + 2)) < 2 ^ 44 := withN_lt (by omega) (by omega) (by omega)
      refine lv_goto (tgt := 132) hx hb dX0_touched_128 (by decide) ?_
      refine lv_lstore (lv' := [(8, .long (lN (withN sx (2 * (nu0 (wi * 4 + 0))) 2 (nu0 (wi * 4 + 2))))), (7, .int (nI (bitsN sx (2 * (nu0 (wi * 4 + 0))) 2))), (6, .int (nI (2 * (nu0 (wi * 4 + 0))))), (5, .ref pa0), (0, .ref ma), (1, .long (lN sx)), (3, .int (nI 0)), (4, .int (nI wi))]) hx hb dX0_touched_132 hl (by decide) rfl (fun ls hl => ?_)
      refine lv_lload hx hb dX0_touched_134 (lv_at hl 0 rfl) ?_
      refine lv_iload_n hx hb dX0_touched_136 rfl (lv_at hl 6 rfl) ?_
      refine lv_aload hx hb dX0_touched_137 (lv_at hl 3 rfl) ?_
      refine lv_iload hx hb dX0_touched_139 (lv_at hl 7 rfl) ?_
      refine lv_iconst (v := nI 3) hx hb dX0_touched_141 (by decide) ?_
      have hPc := hP.sub (ws' := [(pa0, .inr (1, [.int (nI n0), .ref pb0, .ref pc0])), (pb0, .inl (kb0, 8, .inl (nA so0))), (pc0, .inl (kc0, 32, .inl (nA nu0)))]) [4, 5, 6] rfl
      have hKc := hK.sub (tys' := [(kb0, .int), (kc0, .int)]) [3, 4] rfl
      refine cVi (As := [.int (nI wi), .int (nI 3)]) (rest := [.int (nI 0), .long (lN (withN sx (2 * (nu0 (wi * 4 + 0))) 2 (nu0 (wi * 4 + 2))))]) ⟨hx, hb, hml, hown, hts⟩ (c_X1_number l D pa0 pb0 pc0 kb0 kc0 n0 so0 nu0 wi 3 (by omega)) (cwV 2 hts (gV mU_416 mU_417 mU_418 mU_22 mU_419) rfl rfl rfl (by decide +kernel) ⟨Nat.le_of_ble_eq_true rfl, Nat.le_of_ble_eq_true rfl⟩) fbR (va_recv hK hP (ci := 1) (q0 := 4) rfl rfl) (PR.of hPc hKc) rfl hl.1 rfl (Nat.le_of_ble_eq_true rfl) dX0_touched_142 ⟨Nat.zero_le _, Nat.zero_le _⟩ ?_
      refine cSi (As := [.int (nI 0), .int (nI (nu0 (wi * 4 + 3)))]) (rest := [.long (lN (withN sx (2 * (nu0 (wi * 4 + 0))) 2 (nu0 (wi * 4 + 2))))]) ⟨hx, hb, hml, hown, hts⟩ (c_X0_registerAt l  0 (nu0 (wi * 4 + 3)) ) (va_cwS 2 hts (gS mU_423 mU_424 mU_27 mU_425) rfl rfl rfl (by decide +kernel) ⟨Nat.le_of_ble_eq_true rfl, Nat.le_of_ble_eq_true rfl⟩) fbU (fun _ _ _ => trivial) rfl hl.1 rfl (Nat.le_of_ble_eq_true rfl) dX0_touched_145 ⟨Nat.zero_le _, Nat.zero_le _⟩ ?_
      refine lv_iconst (v := nI 3) hx hb dX0_touched_148 (by decide) ?_
      refine lv_iload hx hb dX0_touched_149 (lv_at hl 1 rfl) ?_
      refine cSl (As := [.long (lN (withN sx (2 * (nu0 (wi * 4 + 0))) 2 (nu0 (wi * 4 + 2)))), .int (nI (8 + 2 * (nu0 (wi * 4 + 3)))), .int (nI 3), .int (nI (bitsN sx (2 * (nu0 (wi * 4 + 0))) 2))]) (rest := []) ⟨hx, hb, hml, hown, hts⟩ (c_X0_with l  (withN sx (2 * (nu0 (wi * 4 + 0))) 2 (nu0 (wi * 4 + 2))) (8 + 2 * (nu0 (wi * 4 + 3))) 2 (bitsN sx (2 * (nu0 (wi * 4 + 0))) 2) (by omega) (by omega) (by omega) (by omega) (by omega)) (va_cwS 4 hts (gS mU_420 mU_421 mU_27 mU_422) rfl rfl rfl (by decide +kernel) ⟨Nat.le_of_ble_eq_true rfl, Nat.le_of_ble_eq_true rfl⟩) fbU (fun _ _ _ => trivial) rfl hl.1 rfl (Nat.le_of_ble_eq_true rfl) dX0_touched_151 ⟨Nat.zero_le _, Nat.zero_le _⟩ ?_
      have hf_8 : withN (withN sx (2 * (nu0 (wi * 4 + 0))) 2 (nu0 (wi * 4 + 2))) (8 + 2 * (nu0 (wi * 4 + 3))) 2 (bitsN sx (2 * (nu0 (wi * 4 + 0))) 2) < 2 ^ 44 := withN_lt (by omega) (by omega) (by omega)
      subst hQ
      exact rtl hx hb hr hlocks rfl (by first | (unfold touchC; (try rw [c37_2]); (try first | rw [if_pos c110_5] | rw [if_neg c110_5]); (try rfl); done) | (exfalso; omega)) dX0_touched_154
  · refine lv_tableOut (tgt := 155) hx hb dX0_touched_37 (by rw [nI_toInt (show so0 wi < 2 ^ 31 by omega)]; omega) (by decide) ?_
    have n37_0 : ¬ (so0 wi = 0) := by omega
    have n37_1 : ¬ (so0 wi = 1) := by omega
    have n37_2 : ¬ (so0 wi = 2) := by omega
    refine lv_lload_n hx hb dX0_touched_155 rfl (lv_at hl 4 rfl) ?_
    refine lv_iload hx hb dX0_touched_156 (lv_at hl 1 rfl) ?_
    refine lv_iconst (v := nI 3) hx hb dX0_touched_158 (by decide) ?_
    refine lv_iload hx hb dX0_touched_159 (lv_at hl 0 rfl) ?_
    refine lv_aload hx hb dX0_touched_161 (lv_at hl 2 rfl) ?_
    refine lv_iload hx hb dX0_touched_163 (lv_at hl 6 rfl) ?_
    refine lv_iconst (v := nI 1) hx hb dX0_touched_165 (by decide) ?_
    have hPc := hP.sub (ws' := [(pa0, .inr (1, [.int (nI n0), .ref pb0, .ref pc0])), (pb0, .inl (kb0, 8, .inl (nA so0))), (pc0, .inl (kc0, 32, .inl (nA nu0)))]) [4, 5, 6] rfl
    have hKc := hK.sub (tys' := [(kb0, .int), (kc0, .int)]) [3, 4] rfl
    refine cVi (As := [.int (nI wi), .int (nI 1)]) (rest := [.int (nI (bitsN sx (2 * (nu0 (wi * 4 + 0))) 2)), .int (nI 3), .int (nI (2 * (nu0 (wi * 4 + 0)))), .long (lN sx)]) ⟨hx, hb, hml, hown, hts⟩ (c_X1_number l D pa0 pb0 pc0 kb0 kc0 n0 so0 nu0 wi 1 (by omega)) (cwV 2 hts (gV mU_416 mU_417 mU_418 mU_22 mU_419) rfl rfl rfl (by decide +kernel) ⟨Nat.le_of_ble_eq_true rfl, Nat.le_of_ble_eq_true rfl⟩) fbR (va_recv hK hP (ci := 1) (q0 := 4) rfl rfl) (PR.of hPc hKc) rfl hl.1 rfl (Nat.le_of_ble_eq_true rfl) dX0_touched_166 ⟨Nat.zero_le _, Nat.zero_le _⟩ ?_
    refine lv_iadd hx hb dX0_touched_169 ?_
    refine lv_topE (nI ((bitsN sx (2 * (nu0 (wi * 4 + 0))) 2) + (nu0 (wi * 4 + 1)))) (nI_add _ _) ?_
    refine lv_iconst (v := nI 3) hx hb dX0_touched_170 (by decide) ?_
    refine lv_iand hx hb dX0_touched_171 ?_
    refine lv_topE (nI ((bitsN sx (2 * nu0 (wi * 4 + 0)) 2 + nu0 (wi * 4 + 1)) % 4)) (fa_mask _ 2) ?_
    refine cSl (As := [.long (lN sx), .int (nI (2 * (nu0 (wi * 4 + 0)))), .int (nI 3), .int (nI ((bitsN sx (2 * nu0 (wi * 4 + 0)) 2 + nu0 (wi * 4 + 1)) % 4))]) (rest := []) ⟨hx, hb, hml, hown, hts⟩ (c_X0_with l  sx (2 * (nu0 (wi * 4 + 0))) 2 ((bitsN sx (2 * nu0 (wi * 4 + 0)) 2 + nu0 (wi * 4 + 1)) % 4) (by omega) (by omega) (by omega) (by omega) (by omega)) (va_cwS 4 hts (gS mU_420 mU_421 mU_27 mU_422) rfl rfl rfl (by decide +kernel) ⟨Nat.le_of_ble_eq_true rfl, Nat.le_of_ble_eq_true rfl⟩) fbU (fun _ _ _ => trivial) rfl hl.1 rfl (Nat.le_of_ble_eq_true rfl) dX0_touched_172 ⟨Nat.zero_le _, Nat.zero_le _⟩ ?_
    have hf_9 : withN sx (2 * (nu0 (wi * 4 + 0))) 2 ((bitsN sx (2 * nu0 (wi * 4 + 0)) 2 + nu0 (wi * 4 + 1)) % 4) < 2 ^ 44 := withN_lt (by omega) (by omega) (by omega)
    refine lv_lstore (lv' := [(10, .long (lN (withN sx (2 * (nu0 (wi * 4 + 0))) 2 ((bitsN sx (2 * nu0 (wi * 4 + 0)) 2 + nu0 (wi * 4 + 1)) % 4)))), (7, .int (nI (bitsN sx (2 * (nu0 (wi * 4 + 0))) 2))), (6, .int (nI (2 * (nu0 (wi * 4 + 0))))), (5, .ref pa0), (0, .ref ma), (1, .long (lN sx)), (3, .int (nI 0)), (4, .int (nI wi))]) hx hb dX0_touched_175 hl (by decide) rfl (fun ls hl => ?_)
    refine lv_lload hx hb dX0_touched_177 (lv_at hl 0 rfl) ?_
    refine lv_iload_n hx hb dX0_touched_179 rfl (lv_at hl 6 rfl) ?_
    refine lv_aload hx hb dX0_touched_180 (lv_at hl 3 rfl) ?_
    refine lv_iload hx hb dX0_touched_182 (lv_at hl 7 rfl) ?_
    refine lv_iconst (v := nI 2) hx hb dX0_touched_184 (by decide) ?_
    have hPc := hP.sub (ws' := [(pa0, .inr (1, [.int (nI n0), .ref pb0, .ref pc0])), (pb0, .inl (kb0, 8, .inl (nA so0))), (pc0, .inl (kc0, 32, .inl (nA nu0)))]) [4, 5, 6] rfl
    have hKc := hK.sub (tys' := [(kb0, .int), (kc0, .int)]) [3, 4] rfl
    refine cVi (As := [.int (nI wi), .int (nI 2)]) (rest := [.int (nI 0), .long (lN (withN sx (2 * (nu0 (wi * 4 + 0))) 2 ((bitsN sx (2 * nu0 (wi * 4 + 0)) 2 + nu0 (wi * 4 + 1)) % 4)))]) ⟨hx, hb, hml, hown, hts⟩ (c_X1_number l D pa0 pb0 pc0 kb0 kc0 n0 so0 nu0 wi 2 (by omega)) (cwV 2 hts (gV mU_416 mU_417 mU_418 mU_22 mU_419) rfl rfl rfl (by decide +kernel) ⟨Nat.le_of_ble_eq_true rfl, Nat.le_of_ble_eq_true rfl⟩) fbR (va_recv hK hP (ci := 1) (q0 := 4) rfl rfl) (PR.of hPc hKc) rfl hl.1 rfl (Nat.le_of_ble_eq_true rfl) dX0_touched_185 ⟨Nat.zero_le _, Nat.zero_le _⟩ ?_
    refine cSi (As := [.int (nI 0), .int (nI (nu0 (wi * 4 + 2)))]) (rest := [.long (lN (withN sx (2 * (nu0 (wi * 4 + 0))) 2 ((bitsN sx (2 * nu0 (wi * 4 + 0)) 2 + nu0 (wi * 4 + 1)) % 4)))]) ⟨hx, hb, hml, hown, hts⟩ (c_X0_registerAt l  0 (nu0 (wi * 4 + 2)) ) (va_cwS 2 hts (gS mU_423 mU_424 mU_27 mU_425) rfl rfl rfl (by decide +kernel) ⟨Nat.le_of_ble_eq_true rfl, Nat.le_of_ble_eq_true rfl⟩) fbU (fun _ _ _ => trivial) rfl hl.1 rfl (Nat.le_of_ble_eq_true rfl) dX0_touched_188 ⟨Nat.zero_le _, Nat.zero_le _⟩ ?_
    refine lv_iconst (v := nI 3) hx hb dX0_touched_191 (by decide) ?_
    refine lv_iload hx hb dX0_touched_192 (lv_at hl 1 rfl) ?_
    refine cSl (As := [.long (lN (withN sx (2 * (nu0 (wi * 4 + 0))) 2 ((bitsN sx (2 * nu0 (wi * 4 + 0)) 2 + nu0 (wi * 4 + 1)) % 4))), .int (nI (8 + 2 * (nu0 (wi * 4 + 2)))), .int (nI 3), .int (nI (bitsN sx (2 * (nu0 (wi * 4 + 0))) 2))]) (rest := []) ⟨hx, hb, hml, hown, hts⟩ (c_X0_with l  (withN sx (2 * (nu0 (wi * 4 + 0))) 2 ((bitsN sx (2 * nu0 (wi * 4 + 0)) 2 + nu0 (wi * 4 + 1)) % 4)) (8 + 2 * (nu0 (wi * 4 + 2))) 2 (bitsN sx (2 * (nu0 (wi * 4 + 0))) 2) (by omega) (by omega) (by omega) (by omega) (by omega)) (va_cwS 4 hts (gS mU_420 mU_421 mU_27 mU_422) rfl rfl rfl (by decide +kernel) ⟨Nat.le_of_ble_eq_true rfl, Nat.le_of_ble_eq_true rfl⟩) fbU (fun _ _ _ => trivial) rfl hl.1 rfl (Nat.le_of_ble_eq_true rfl) dX0_touched_194 ⟨Nat.zero_le _, Nat.zero_le _⟩ ?_
    have hf_10 : withN (withN sx (2 * (nu0 (wi * 4 + 0))) 2 ((bitsN sx (2 * nu0 (wi * 4 + 0)) 2 + nu0 (wi * 4 + 1)) % 4)) (8 + 2 * (nu0 (wi * 4 + 2))) 2 (bitsN sx (2 * (nu0 (wi * 4 + 0))) 2) < 2 ^ 44 := withN_lt (by omega) (by omega) (by omega)
    subst hQ
    exact rtl hx hb hr hlocks rfl (by first | (unfold touchC; (try rw [if_neg n37_0, if_neg n37_1, if_neg n37_2]); (try rfl); done) | (exfalso; omega)) dX0_touched_197

set_option maxHeartbeats 4000000 in
set_option maxRecDepth 100000 in
theorem c_X0_touched1 (l : Launch) (D : va_G) (ma mb mc md : Nat) (k0 k1 k2 : ClassId) (mf : Nat) (wo ri : Nat → Nat) (pa0 pb0 pc0 : Nat) (kb0 kc0 : ClassId) (n0 : Nat) (so0 nu0 : Nat → Nat) (pa1 pb1 pc1 : Nat) (kb1 kc1 : ClassId) (n1 : Nat) (so1 nu1 : Nat → Nat) (sx : Nat) (wi : Nat) (hsx : sx < 2 ^ 44) (hwi : wi < 7) (hs4 : so1 wi < 4) (hok : okS (so1 wi) (nu1 (wi * 4 + 0)) (nu1 (wi * 4 + 1)) (nu1 (wi * 4 + 2)) (nu1 (wi * 4 + 3))) : Met l yX0_touched (.code yX0_touched cX0_touched 12 (some .long) :: wsL_law) ({ frames := 1, cells := 0, slots := 0, locals := 24 }) (va_Pc [.ref ma, .long (lN sx), .int (nI 1), .int (nI wi)] (PR D (kW ma mb mc md k0 k1 k2 mf wo ri pa0 pb0 pc0 kb0 kc0 n0 so0 nu0 pa1 pb1 pc1 kb1 kc1 n1 so1 nu1) (kT k0 k1 k2 kb0 kc0 kb1 kc1))) (QrL (lN (touchC so1 nu1 sx 1 wi))) 0 0 (fun _ => False) := by
  refine Met.ofW (cc := cX0_touched) (maxL := 12) (ret := (some .long)) (by decide) rfl ?_
  intro p e s m args below meth c s₁ B hml hv
  obtain ⟨rfl, hP, hK⟩ := hv
  have hx := B.exec
  have hb := B.bytes
  have hr := B.returns
  have hts := atoms_spec (ws := .code yX0_touched cX0_touched 12 (some .long) :: wsL_law) B.pre
  have hU : ∀ w ∈ wsL_law, w.before _ s = true := fun w h => hts w (List.mem_cons_of_mem _ h)
  have hown : s.vm.findClass RX0 = some m.cls := findClass_of_methodNamed B.named
  have hlocks := B.notSynchronized
  generalize hQ : MQ _ _ _ _ _ _ _ = Q
  have hl := lv_entry ([.ref ma, .long (lN sx), .int (nI 1), .int (nI wi)]) (n := 12) (Nat.le_of_ble_eq_true rfl)
  rw [lg_entry_eq]
  generalize (lg_sl ([.ref ma, .long (lN sx), .int (nI 1), .int (nI wi)]) ++ List.replicate (12 - (lg_sl ([.ref ma, .long (lN sx), .int (nI 1), .int (nI wi)])).length) Slot.unset).toArray = ls at hl ⊢
  have hl : lv_has ls 12 [(0, .ref ma), (1, .long (lN sx)), (3, .int (nI 1)), (4, .int (nI wi))] := hl
  have hka := okS_a hok hs4
  have hkc := okS_c hok
  have hkd := okS_d hok
  have hkb := okS_b hok
  refine lv_aload_n hx hb dX0_touched_0 rfl (lv_at hl 0 rfl) ?_
  refine va_get (D := D) (ci := 0) (v := .ref mb) (C := RX0) (T := TX0) (N := 4) hx hb hU iX0 hown hK hP 0 rfl rfl 0 (by decide) (hU _ mU_54) (fun _ h9 => h9) rfl dX0_touched_1 ?_
  refine lv_iload_n hx hb dX0_touched_4 rfl (lv_at hl 2 rfl) ?_
  refine va_aldq hx hb hK hP 1 0 rfl rfl (vp_in_nI (n := 1) (by decide) (by decide)) dX0_touched_5 ?_
  refine W.eq (g2 := F0 m 6 ls [.ref pa1]) (by rw [nI_clamp (show 1 < 2 ^ 31 by decide)]; rfl) ?_
  refine lv_astore (lv' := [(5, .ref pa1), (0, .ref ma), (1, .long (lN sx)), (3, .int (nI 1)), (4, .int (nI wi))]) hx hb dX0_touched_6 hl (by decide) rfl (fun ls hl => ?_)
  refine lv_iconst (v := nI 2) hx hb dX0_touched_8 (by decide) ?_
  refine lv_aload hx hb dX0_touched_9 (lv_at hl 0 rfl) ?_
  refine lv_iload hx hb dX0_touched_11 (lv_at hl 4 rfl) ?_
  refine lv_iconst (v := nI 0) hx hb dX0_touched_13 (by decide) ?_
  have hPc := hP.sub (ws' := [(pa1, .inr (1, [.int (nI n1), .ref pb1, .ref pc1])), (pb1, .inl (kb1, 8, .inl (nA so1))), (pc1, .inl (kc1, 32, .inl (nA nu1)))]) [7, 8, 9] rfl
  have hKc := hK.sub (tys' := [(kb1, .int), (kc1, .int)]) [5, 6] rfl
  refine cVi (As := [.int (nI wi), .int (nI 0)]) (rest := [.int (nI 2)]) ⟨hx, hb, hml, hown, hts⟩ (c_X1_number l D pa1 pb1 pc1 kb1 kc1 n1 so1 nu1 wi 0 (by omega)) (cwV 2 hts (gV mU_416 mU_417 mU_418 mU_22 mU_419) rfl rfl rfl (by decide +kernel) ⟨Nat.le_of_ble_eq_true rfl, Nat.le_of_ble_eq_true rfl⟩) fbR (va_recv hK hP (ci := 1) (q0 := 7) rfl rfl) (PR.of hPc hKc) rfl hl.1 rfl (Nat.le_of_ble_eq_true rfl) dX0_touched_14 ⟨Nat.zero_le _, Nat.zero_le _⟩ ?_
  refine lv_imul hx hb dX0_touched_17 ?_
  refine lv_topE (nI (2 * (nu1 (wi * 4 + 0)))) (pk_mul _ _) ?_
  refine lv_istore (lv' := [(6, .int (nI (2 * (nu1 (wi * 4 + 0))))), (5, .ref pa1), (0, .ref ma), (1, .long (lN sx)), (3, .int (nI 1)), (4, .int (nI wi))]) hx hb dX0_touched_18 hl (by decide) rfl (fun ls hl => ?_)
  refine lv_lload_n hx hb dX0_touched_20 rfl (lv_at hl 3 rfl) ?_
  refine lv_iload hx hb dX0_touched_21 (lv_at hl 0 rfl) ?_
  refine lv_iconst (v := nI 3) hx hb dX0_touched_23 (by decide) ?_
  refine cSi (As := [.long (lN sx), .int (nI (2 * (nu1 (wi * 4 + 0)))), .int (nI 3)]) (rest := []) ⟨hx, hb, hml, hown, hts⟩ (c_X0_bits l  sx (2 * (nu1 (wi * 4 + 0))) 2 (by omega) (by omega)) (va_cwS 3 hts (gS mU_398 mU_399 mU_27 mU_400) rfl rfl rfl (by decide +kernel) ⟨Nat.le_of_ble_eq_true rfl, Nat.le_of_ble_eq_true rfl⟩) fbU (fun _ _ _ => trivial) rfl hl.1 rfl (Nat.le_of_ble_eq_true rfl) dX0_touched_24 ⟨Nat.zero_le _, Nat.zero_le _⟩ ?_
  have hf_1 : bitsN sx (2 * (nu1 (wi * 4 + 0))) 2 < 2 ^ 2 := bitsN_lt _ _ _
  refine lv_istore (lv' := [(7, .int (nI (bitsN sx (2 * (nu1 (wi * 4 + 0))) 2))), (6, .int (nI (2 * (nu1 (wi * 4 + 0))))), (5, .ref pa1), (0, .ref ma), (1, .long (lN sx)), (3, .int (nI 1)), (4, .int (nI wi))]) hx hb dX0_touched_27 hl (by decide) rfl (fun ls hl => ?_)
  refine lv_aload hx hb dX0_touched_29 (lv_at hl 2 rfl) ?_
  refine va_get (D := D) (ci := 1) (v := .ref pb1) (C := RX1) (T := TX1) (N := 3) hx hb hU iX1 hown hK hP 7 rfl rfl 1 (by decide) (hU _ mU_397) (fun _ h9 => h9) rfl dX0_touched_31 ?_
  refine lv_iload hx hb dX0_touched_34 (lv_at hl 6 rfl) ?_
  refine n_iald hx hb hK hP 8 5 rfl rfl (i := wi) (by omega) (by decide) dX0_touched_36 ?_
  rcases (show so1 wi = 0 ∨ so1 wi = 1 ∨ so1 wi = 2 ∨ (so1 wi < 0 ∨ 2 < so1 wi) by omega) with c37_2 | c37_2 | c37_2 | c37_2
  · have hx9 : (nI (so1 wi)).toInt = 0 := by rw [nI_toInt (show so1 wi < 2 ^ 31 by omega)]; omega
    refine lv_tableIn (tgt := 64) (off := 27) hx hb dX0_touched_37 (by rw [hx9]; decide) (by rw [hx9]; decide) (by rw [hx9]; rfl) (by decide) ?_
    refine lv_lload_n hx hb dX0_touched_64 rfl (lv_at hl 4 rfl) ?_
    refine lv_iload hx hb dX0_touched_65 (lv_at hl 1 rfl) ?_
    refine lv_iconst (v := nI 3) hx hb dX0_touched_67 (by decide) ?_
    refine lv_aload hx hb dX0_touched_68 (lv_at hl 2 rfl) ?_
    refine lv_iload hx hb dX0_touched_70 (lv_at hl 6 rfl) ?_
    refine lv_iconst (v := nI 1) hx hb dX0_touched_72 (by decide) ?_
    have hPc := hP.sub (ws' := [(pa1, .inr (1, [.int (nI n1), .ref pb1, .ref pc1])), (pb1, .inl (kb1, 8, .inl (nA so1))), (pc1, .inl (kc1, 32, .inl (nA nu1)))]) [7, 8, 9] rfl
    have hKc := hK.sub (tys' := [(kb1, .int), (kc1, .int)]) [5, 6] rfl
    refine cVi (As := [.int (nI wi), .int (nI 1)]) (rest := [.int (nI 3), .int (nI (2 * (nu1 (wi * 4 + 0)))), .long (lN sx)]) ⟨hx, hb, hml, hown, hts⟩ (c_X1_number l D pa1 pb1 pc1 kb1 kc1 n1 so1 nu1 wi 1 (by omega)) (cwV 2 hts (gV mU_416 mU_417 mU_418 mU_22 mU_419) rfl rfl rfl (by decide +kernel) ⟨Nat.le_of_ble_eq_true rfl, Nat.le_of_ble_eq_true rfl⟩) fbR (va_recv hK hP (ci := 1) (q0 := 7) rfl rfl) (PR.of hPc hKc) rfl hl.1 rfl (Nat.le_of_ble_eq_true rfl) dX0_touched_73 ⟨Nat.zero_le _, Nat.zero_le _⟩ ?_
    refine cSl (As := [.long (lN sx), .int (nI (2 * (nu1 (wi * 4 + 0)))), .int (nI 3), .int (nI (nu1 (wi * 4 + 1)))]) (rest := []) ⟨hx, hb, hml, hown, hts⟩ (c_X0_with l  sx (2 * (nu1 (wi * 4 + 0))) 2 (nu1 (wi * 4 + 1)) (by omega) (by omega) (by omega) (by omega) (by omega)) (va_cwS 4 hts (gS mU_420 mU_421 mU_27 mU_422) rfl rfl rfl (by decide +kernel) ⟨Nat.le_of_ble_eq_true rfl, Nat.le_of_ble_eq_true rfl⟩) fbU (fun _ _ _ => trivial) rfl hl.1 rfl (Nat.le_of_ble_eq_true rfl) dX0_touched_76 ⟨Nat.zero_le _, Nat.zero_le _⟩ ?_
    have hf_3 : withN sx (2 * (nu1 (wi * 4 + 0))) 2 (nu1 (wi * 4 + 1)) < 2 ^ 44 := withN_lt (by omega) (by omega) (by omega)
    subst hQ
    exact rtl hx hb hr hlocks rfl (by first | (unfold touchC; (try rw [c37_2]); (try rfl); done) | (exfalso; omega)) dX0_touched_79
  · have hx9 : (nI (so1 wi)).toInt = 1 := by rw [nI_toInt (show so1 wi < 2 ^ 31 by omega)]; omega
    refine lv_tableIn (tgt := 80) (off := 43) hx hb dX0_touched_37 (by rw [hx9]; decide) (by rw [hx9]; decide) (by rw [hx9]; rfl) (by decide) ?_
    refine lv_lload_n hx hb dX0_touched_80 rfl (lv_at hl 4 rfl) ?_
    refine lv_iload_n hx hb dX0_touched_81 rfl (lv_at hl 5 rfl) ?_
    refine lv_aload hx hb dX0_touched_82 (lv_at hl 2 rfl) ?_
    refine lv_iload hx hb dX0_touched_84 (lv_at hl 6 rfl) ?_
    refine lv_iconst (v := nI 1) hx hb dX0_touched_86 (by decide) ?_
    have hPc := hP.sub (ws' := [(pa1, .inr (1, [.int (nI n1), .ref pb1, .ref pc1])), (pb1, .inl (kb1, 8, .inl (nA so1))), (pc1, .inl (kc1, 32, .inl (nA nu1)))]) [7, 8, 9] rfl
    have hKc := hK.sub (tys' := [(kb1, .int), (kc1, .int)]) [5, 6] rfl
    refine cVi (As := [.int (nI wi), .int (nI 1)]) (rest := [.int (nI 1), .long (lN sx)]) ⟨hx, hb, hml, hown, hts⟩ (c_X1_number l D pa1 pb1 pc1 kb1 kc1 n1 so1 nu1 wi 1 (by omega)) (cwV 2 hts (gV mU_416 mU_417 mU_418 mU_22 mU_419) rfl rfl rfl (by decide +kernel) ⟨Nat.le_of_ble_eq_true rfl, Nat.le_of_ble_eq_true rfl⟩) fbR (va_recv hK hP (ci := 1) (q0 := 7) rfl rfl) (PR.of hPc hKc) rfl hl.1 rfl (Nat.le_of_ble_eq_true rfl) dX0_touched_87 ⟨Nat.zero_le _, Nat.zero_le _⟩ ?_
    refine cSi (As := [.int (nI 1), .int (nI (nu1 (wi * 4 + 1)))]) (rest := [.long (lN sx)]) ⟨hx, hb, hml, hown, hts⟩ (c_X0_registerAt l  1 (nu1 (wi * 4 + 1)) ) (va_cwS 2 hts (gS mU_423 mU_424 mU_27 mU_425) rfl rfl rfl (by decide +kernel) ⟨Nat.le_of_ble_eq_true rfl, Nat.le_of_ble_eq_true rfl⟩) fbU (fun _ _ _ => trivial) rfl hl.1 rfl (Nat.le_of_ble_eq_true rfl) dX0_touched_90 ⟨Nat.zero_le _, Nat.zero_le _⟩ ?_
    refine lv_iconst (v := nI 3) hx hb dX0_touched_93 (by decide) ?_
    refine lv_iload hx hb dX0_touched_94 (lv_at hl 0 rfl) ?_
    refine cSl (As := [.long (lN sx), .int (nI (12 + 2 * (nu1 (wi * 4 + 1)))), .int (nI 3), .int (nI (bitsN sx (2 * (nu1 (wi * 4 + 0))) 2))]) (rest := []) ⟨hx, hb, hml, hown, hts⟩ (c_X0_with l  sx (12 + 2 * (nu1 (wi * 4 + 1))) 2 (bitsN sx (2 * (nu1 (wi * 4 + 0))) 2) (by omega) (by omega) (by omega) (by omega) (by omega)) (va_cwS 4 hts (gS mU_420 mU_421 mU_27 mU_422) rfl rfl rfl (by decide +kernel) ⟨Nat.le_of_ble_eq_true rfl, Nat.le_of_ble_eq_true rfl⟩) fbU (fun _ _ _ => trivial) rfl hl.1 rfl (Nat.le_of_ble_eq_true rfl) dX0_touched_96 ⟨Nat.zero_le _, Nat.zero_le _⟩ ?_
    have hf_4 : withN sx (12 + 2 * (nu1 (wi * 4 + 1))) 2 (bitsN sx (2 * (nu1 (wi * 4 + 0))) 2) < 2 ^ 44 := withN_lt (by omega) (by omega) (by omega)
    subst hQ
    exact rtl hx hb hr hlocks rfl (by first | (unfold touchC; (try rw [c37_2]); (try rfl); done) | (exfalso; omega)) dX0_touched_99
  · have hx9 : (nI (so1 wi)).toInt = 2 := by rw [nI_toInt (show so1 wi < 2 ^ 31 by omega)]; omega
    refine lv_tableIn (tgt := 100) (off := 63) hx hb dX0_touched_37 (by rw [hx9]; decide) (by rw [hx9]; decide) (by rw [hx9]; rfl) (by decide) ?_
    refine lv_iload hx hb dX0_touched_100 (lv_at hl 0 rfl) ?_
    refine lv_aload hx hb dX0_touched_102 (lv_at hl 2 rfl) ?_
    refine lv_iload hx hb dX0_touched_104 (lv_at hl 6 rfl) ?_
    refine lv_iconst (v := nI 1) hx hb dX0_touched_106 (by decide) ?_
    have hPc := hP.sub (ws' := [(pa1, .inr (1, [.int (nI n1), .ref pb1, .ref pc1])), (pb1, .inl (kb1, 8, .inl (nA so1))), (pc1, .inl (kc1, 32, .inl (nA nu1)))]) [7, 8, 9] rfl
    have hKc := hK.sub (tys' := [(kb1, .int), (kc1, .int)]) [5, 6] rfl
    refine cVi (As := [.int (nI wi), .int (nI 1)]) (rest := [.int (nI (bitsN sx (2 * (nu1 (wi * 4 + 0))) 2))]) ⟨hx, hb, hml, hown, hts⟩ (c_X1_number l D pa1 pb1 pc1 kb1 kc1 n1 so1 nu1 wi 1 (by omega)) (cwV 2 hts (gV mU_416 mU_417 mU_418 mU_22 mU_419) rfl rfl rfl (by decide +kernel) ⟨Nat.le_of_ble_eq_true rfl, Nat.le_of_ble_eq_true rfl⟩) fbR (va_recv hK hP (ci := 1) (q0 := 7) rfl rfl) (PR.of hPc hKc) rfl hl.1 rfl (Nat.le_of_ble_eq_true rfl) dX0_touched_107 ⟨Nat.zero_le _, Nat.zero_le _⟩ ?_
    refine lv_icmp_ne (tgt := 131) hx hb dX0_touched_110 (by decide) (fun c110_5 => ?_) (fun c110_5 => ?_)
    · have c110_5 : ¬ (bitsN sx (2 * (nu1 (wi * 4 + 0))) 2 = nu1 (wi * 4 + 1)) := fun h9 => c110_5 ((nI_eqG (a := bitsN sx (2 * (nu1 (wi * 4 + 0))) 2) (b := nu1 (wi * 4 + 1)) (by omega) (by omega)).mpr h9)
      refine lv_lload_n hx hb dX0_touched_131 rfl (lv_at hl 4 rfl) ?_
      refine lv_lstore (lv' := [(8, .long (lN sx)), (7, .int (nI (bitsN sx (2 * (nu1 (wi * 4 + 0))) 2))), (6, .int (nI (2 * (nu1 (wi * 4 + 0))))), (5, .ref pa1), (0, .ref ma), (1, .long (lN sx)), (3, .int (nI 1)), (4, .int (nI wi))]) hx hb dX0_touched_132 hl (by decide) rfl (fun ls hl => ?_)
      refine lv_lload hx hb dX0_touched_134 (lv_at hl 0 rfl) ?_
      refine lv_iload_n hx hb dX0_touched_136 rfl (lv_at hl 6 rfl) ?_
      refine lv_aload hx hb dX0_touched_137 (lv_at hl 3 rfl) ?_
      refine lv_iload hx hb dX0_touched_139 (lv_at hl 7 rfl) ?_
      refine lv_iconst (v := nI 3) hx hb dX0_touched_141 (by decide) ?_
      have hPc := hP.sub (ws' := [(pa1, .inr (1, [.int (nI n1), .ref pb1, .ref pc1])), (pb1, .inl (kb1, 8, .inl (nA so1))), (pc1, .inl (kc1, 32, .inl (nA nu1)))]) [7, 8, 9] rfl
      have hKc := hK.sub (tys' := [(kb1, .int), (kc1, .int)]) [5, 6] rfl
      refine cVi (As := [.int (nI wi), .int (nI 3)]) (rest := [.int (nI 1), .long (lN sx)]) ⟨hx, hb, hml, hown, hts⟩ (c_X1_number l D pa1 pb1 pc1 kb1 kc1 n1 so1 nu1 wi 3 (by omega)) (cwV 2 hts (gV mU_416 mU_417 mU_418 mU_22 mU_419) rfl rfl rfl (by decide +kernel) ⟨Nat.le_of_ble_eq_true rfl, Nat.le_of_ble_eq_true rfl⟩) fbR (va_recv hK hP (ci := 1) (q0 := 7) rfl rfl) (PR.of hPc hKc) rfl hl.1 rfl (Nat.le_of_ble_eq_true rfl) dX0_touched_142 ⟨Nat.zero_le _, Nat.zero_le _⟩ ?_
      refine cSi (As := [.int (nI 1), .int (nI (nu1 (wi * 4 + 3)))]) (rest := [.long (lN sx)]) ⟨hx, hb, hml, hown, hts⟩ (c_X0_registerAt l  1 (nu1 (wi * 4 + 3)) ) (va_cwS 2 hts (gS mU_423 mU_424 mU_27 mU_425) rfl rfl rfl (by decide +kernel) ⟨Nat.le_of_ble_eq_true rfl, Nat.le_of_ble_eq_true rfl⟩) fbU (fun _ _ _ => trivial) rfl hl.1 rfl (Nat.le_of_ble_eq_true rfl) dX0_touched_145 ⟨Nat.zero_le _, Nat.zero_le _⟩ ?_
      refine lv_iconst (v := nI 3) hx hb dX0_touched_148 (by decide) ?_
      refine lv_iload hx hb dX0_touched_149 (lv_at hl 1 rfl) ?_
      refine cSl (As := [.long (lN sx), .int (nI (12 + 2 * (nu1 (wi * 4 + 3)))), .int (nI 3), .int (nI (bitsN sx (2 * (nu1 (wi * 4 + 0))) 2))]) (rest := []) ⟨hx, hb, hml, hown, hts⟩ (c_X0_with l  sx (12 + 2 * (nu1 (wi * 4 + 3))) 2 (bitsN sx (2 * (nu1 (wi * 4 + 0))) 2) (by omega) (by omega) (by omega) (by omega) (by omega)) (va_cwS 4 hts (gS mU_420 mU_421 mU_27 mU_422) rfl rfl rfl (by decide +kernel) ⟨Nat.le_of_ble_eq_true rfl, Nat.le_of_ble_eq_true rfl⟩) fbU (fun _ _ _ => trivial) rfl hl.1 rfl (Nat.le_of_ble_eq_true rfl) dX0_touched_151 ⟨Nat.zero_le _, Nat.zero_le _⟩ ?_
      have hf_6 : withN sx (12 + 2 * (nu1 (wi * 4 + 3))) 2 (bitsN sx (2 * (nu1 (wi * 4 + 0))) 2) < 2 ^ 44 := withN_lt (by omega) (by omega) (by omega)
      subst hQ
      exact rtl hx hb hr hlocks rfl (by first | (unfold touchC; (try rw [c37_2]); (try first | rw [if_pos c110_5] | rw [if_neg c110_5]); (try rfl); done) | (exfalso; omega)) dX0_touched_154
    · have c110_5 : bitsN sx (2 * (nu1 (wi * 4 + 0))) 2 = nu1 (wi * 4 + 1) := (nI_eqG (a := bitsN sx (2 * (nu1 (wi * 4 + 0))) 2) (b := nu1 (wi * 4 + 1)) (by omega) (by omega)).mp c110_5
      refine lv_lload_n hx hb dX0_touched_113 rfl (lv_at hl 4 rfl) ?_
      refine lv_iload hx hb dX0_touched_114 (lv_at hl 1 rfl) ?_
      refine lv_iconst (v := nI 3) hx hb dX0_touched_116 (by decide) ?_
      refine lv_aload hx hb dX0_touched_117 (lv_at hl 2 rfl) ?_
      refine lv_iload hx hb dX0_touched_119 (lv_at hl 6 rfl) ?_
      refine lv_iconst (v := nI 2) hx hb dX0_touched_121 (by decide) ?_
      have hPc := hP.sub (ws' := [(pa1, .inr (1, [.int (nI n1), .ref pb1, .ref pc1])), (pb1, .inl (kb1, 8, .inl (nA so1))), (pc1, .inl (kc1, 32, .inl (nA nu1)))]) [7, 8, 9] rfl
      have hKc := hK.sub (tys' := [(kb1, .int), (kc1, .int)]) [5, 6] rfl
      refine cVi (As := [.int (nI wi), .int (nI 2)]) (rest := [.int (nI 3), .int (nI (2 * (nu1 (wi * 4 + 0)))), .long (lN sx)]) ⟨hx, hb, hml, hown, hts⟩ (c_X1_number l D pa1 pb1 pc1 kb1 kc1 n1 so1 nu1 wi 2 (by omega)) (cwV 2 hts (gV mU_416 mU_417 mU_418 mU_22 mU_419) rfl rfl rfl (by decide +kernel) ⟨Nat.le_of_ble_eq_true rfl, Nat.le_of_ble_eq_true rfl⟩) fbR (va_recv hK hP (ci := 1) (q0 := 7) rfl rfl) (PR.of hPc hKc) rfl hl.1 rfl (Nat.le_of_ble_eq_true rfl) dX0_touched_122 ⟨Nat.zero_le _, Nat.zero_le _⟩ ?_
      refine cSl (As := [.long (lN sx), .int (nI (2 * (nu1 (wi * 4 + 0)))), .int (nI 3), .int (nI (nu1 (wi * 4 + 2)))]) (rest := []) ⟨hx, hb, hml, hown, hts⟩ (c_X0_with l  sx (2 * (nu1 (wi * 4 + 0))) 2 (nu1 (wi * 4 + 2)) (by omega) (by omega) (by omega) (by omega) (by omega)) (va_cwS 4 hts (gS mU_420 mU_421 mU_27 mU_422) rfl rfl rfl (by decide +kernel) ⟨Nat.le_of_ble_eq_true rfl, Nat.le_of_ble_eq_true rfl⟩) fbU (fun _ _ _ => trivial) rfl hl.1 rfl (Nat.le_of_ble_eq_true rfl) dX0_touched_125 ⟨Nat.zero_le _, Nat.zero_le _⟩ ?_
      have hf_7 : withN sx (2 * (nu1 (wi * 4 + 0))) 2 (nu1 (wi * 4 + 2)) < 2 ^ 44 := withN_lt (by omega) (by omega) (by omega)
      refine lv_goto (tgt := 132) hx hb dX0_touched_128 (by decide) ?_
      refine lv_lstore (lv' := [(8, .long (lN (withN sx (2 * (nu1 (wi * 4 + 0))) 2 (nu1 (wi * 4 + 2))))), (7, .int (nI (bitsN sx (2 * (nu1 (wi * 4 + 0))) 2))), (6, .int (nI (2 * (nu1 (wi * 4 + 0))))), (5, .ref pa1), (0, .ref ma), (1, .long (lN sx)), (3, .int (nI 1)), (4, .int (nI wi))]) hx hb dX0_touched_132 hl (by decide) rfl (fun ls hl => ?_)
      refine lv_lload hx hb dX0_touched_134 (lv_at hl 0 rfl) ?_
      refine lv_iload_n hx hb dX0_touched_136 rfl (lv_at hl 6 rfl) ?_
      refine lv_aload hx hb dX0_touched_137 (lv_at hl 3 rfl) ?_
      refine lv_iload hx hb dX0_touched_139 (lv_at hl 7 rfl) ?_
      refine lv_iconst (v := nI 3) hx hb dX0_touched_141 (by decide) ?_
      have hPc := hP.sub (ws' := [(pa1, .inr (1, [.int (nI n1), .ref pb1, .ref pc1])), (pb1, .inl (kb1, 8, .inl (nA so1))), (pc1, .inl (kc1, 32, .inl (nA nu1)))]) [7, 8, 9] rfl
      have hKc := hK.sub (tys' := [(kb1, .int), (kc1, .int)]) [5, 6] rfl
      refine cVi (As := [.int (nI wi), .int (nI 3)]) (rest := [.int (nI 1), .long (lN (withN sx (2 * (nu1 (wi * 4 + 0))) 2 (nu1 (wi * 4 + 2))))]) ⟨hx, hb, hml, hown, hts⟩ (c_X1_number l D pa1 pb1 pc1 kb1 kc1 n1 so1 nu1 wi 3 (by omega)) (cwV 2 hts (gV mU_416 mU_417 mU_418 mU_22 mU_419) rfl rfl rfl (by decide +kernel) ⟨Nat.le_of_ble_eq_true rfl, Nat.le_of_ble_eq_true rfl⟩) fbR (va_recv hK hP (ci := 1) (q0 := 7) rfl rfl) (PR.of hPc hKc) rfl hl.1 rfl (Nat.le_of_ble_eq_true rfl) dX0_touched_142 ⟨Nat.zero_le _, Nat.zero_le _⟩ ?_
      refine cSi (As := [.int (nI 1), .int (nI (nu1 (wi * 4 + 3)))]) (rest := [.long (lN (withN sx (2 * (nu1 (wi * 4 + 0))) 2 (nu1 (wi * 4 + 2))))]) ⟨hx, hb, hml, hown, hts⟩ (c_X0_registerAt l  1 (nu1 (wi * 4 + 3)) ) (va_cwS 2 hts (gS mU_423 mU_424 mU_27 mU_425) rfl rfl rfl (by decide +kernel) ⟨Nat.le_of_ble_eq_true rfl, Nat.le_of_ble_eq_true rfl⟩) fbU (fun _ _ _ => trivial) rfl hl.1 rfl (Nat.le_of_ble_eq_true rfl) dX0_touched_145 ⟨Nat.zero_le _, Nat.zero_le _⟩ ?_
      refine lv_iconst (v := nI 3) hx hb dX0_touched_148 (by decide) ?_
      refine lv_iload hx hb dX0_touched_149 (lv_at hl 1 rfl) ?_
      refine cSl (As := [.long (lN (withN sx (2 * (nu1 (wi * 4 + 0))) 2 (nu1 (wi * 4 + 2)))), .int (nI (12 + 2 * (nu1 (wi * 4 + 3)))), .int (nI 3), .int (nI (bitsN sx (2 * (nu1 (wi * 4 + 0))) 2))]) (rest := []) ⟨hx, hb, hml, hown, hts⟩ (c_X0_with l  (withN sx (2 * (nu1 (wi * 4 + 0))) 2 (nu1 (wi * 4 + 2))) (12 + 2 * (nu1 (wi * 4 + 3))) 2 (bitsN sx (2 * (nu1 (wi * 4 + 0))) 2) (by omega) (by omega) (by omega) (by omega) (by omega)) (va_cwS 4 hts (gS mU_420 mU_421 mU_27 mU_422) rfl rfl rfl (by decide +kernel) ⟨Nat.le_of_ble_eq_true rfl, Nat.le_of_ble_eq_true rfl⟩) fbU (fun _ _ _ => trivial) rfl hl.1 rfl (Nat.le_of_ble_eq_true rfl) dX0_touched_151 ⟨Nat.zero_le _, Nat.zero_le _⟩ ?_
      have hf_8 : withN (withN sx (2 * (nu1 (wi * 4 + 0))) 2 (nu1 (wi * 4 + 2))) (12 + 2 * (nu1 (wi * 4 + 3))) 2 (bitsN sx (2 * (nu1 (wi * 4 + 0))) 2) < 2 ^ 44 := withN_lt (by omega) (by omega) (by omega)
      subst hQ
      exact rtl hx hb hr hlocks rfl (by first | (unfold touchC; (try rw [c37_2]); (try first | rw [if_pos c110_5] | rw [if_neg c110_5]); (try rfl); done) | (exfalso; omega)) dX0_touched_154
  · refine lv_tableOut (tgt := 155) hx hb dX0_touched_37 (by rw [nI_toInt (show so1 wi < 2 ^ 31 by omega)]; omega) (by decide) ?_
    have n37_0 : ¬ (so1 wi = 0) := by omega
    have n37_1 : ¬ (so1 wi = 1) := by omega
    have n37_2 : ¬ (so1 wi = 2) := by omega
    refine lv_lload_n hx hb dX0_touched_155 rfl (lv_at hl 4 rfl) ?_
    refine lv_iload hx hb dX0_touched_156 (lv_at hl 1 rfl) ?_
    refine lv_iconst (v := nI 3) hx hb dX0_touched_158 (by decide) ?_
    refine lv_iload hx hb dX0_touched_159 (lv_at hl 0 rfl) ?_
    refine lv_aload hx hb dX0_touched_161 (lv_at hl 2 rfl) ?_
    refine lv_iload hx hb dX0_touched_163 (lv_at hl 6 rfl) ?_
    refine lv_iconst (v := nI 1) hx hb dX0_touched_165 (by decide) ?_
    have hPc := hP.sub (ws' := [(pa1, .inr (1, [.int (nI n1), .ref pb1, .ref pc1])), (pb1, .inl (kb1, 8, .inl (nA so1))), (pc1, .inl (kc1, 32, .inl (nA nu1)))]) [7, 8, 9] rfl
    have hKc := hK.sub (tys' := [(kb1, .int), (kc1, .int)]) [5, 6] rfl
    refine cVi (As := [.int (nI wi), .int (nI 1)]) (rest := [.int (nI (bitsN sx (2 * (nu1 (wi * 4 + 0))) 2)), .int (nI 3), .int (nI (2 * (nu1 (wi * 4 + 0)))), .long (lN sx)]) ⟨hx, hb, hml, hown, hts⟩ (c_X1_number l D pa1 pb1 pc1 kb1 kc1 n1 so1 nu1 wi 1 (by omega)) (cwV 2 hts (gV mU_416 mU_417 mU_418 mU_22 mU_419) rfl rfl rfl (by decide +kernel) ⟨Nat.le_of_ble_eq_true rfl, Nat.le_of_ble_eq_true rfl⟩) fbR (va_recv hK hP (ci := 1) (q0 := 7) rfl rfl) (PR.of hPc hKc) rfl hl.1 rfl (Nat.le_of_ble_eq_true rfl) dX0_touched_166 ⟨Nat.zero_le _, Nat.zero_le _⟩ ?_
    refine lv_iadd hx hb dX0_touched_169 ?_
    refine lv_topE (nI ((bitsN sx (2 * (nu1 (wi * 4 + 0))) 2) + (nu1 (wi * 4 + 1)))) (nI_add _ _) ?_
    refine lv_iconst (v := nI 3) hx hb dX0_touched_170 (by decide) ?_
    refine lv_iand hx hb dX0_touched_171 ?_
    refine lv_topE (nI ((bitsN sx (2 * nu1 (wi * 4 + 0)) 2 + nu1 (wi * 4 + 1)) % 4)) (fa_mask _ 2) ?_
    refine cSl (As := [.long (lN sx), .int (nI (2 * (nu1 (wi * 4 + 0)))), .int (nI 3), .int (nI ((bitsN sx (2 * nu1 (wi * 4 + 0)) 2 + nu1 (wi * 4 + 1)) % 4))]) (rest := []) ⟨hx, hb, hml, hown, hts⟩ (c_X0_with l  sx (2 * (nu1 (wi * 4 + 0))) 2 ((bitsN sx (2 * nu1 (wi * 4 + 0)) 2 + nu1 (wi * 4 + 1)) % 4) (by omega) (by omega) (by omega) (by omega) (by omega)) (va_cwS 4 hts (gS mU_420 mU_421 mU_27 mU_422) rfl rfl rfl (by decide +kernel) ⟨Nat.le_of_ble_eq_true rfl, Nat.le_of_ble_eq_true rfl⟩) fbU (fun _ _ _ => trivial) rfl hl.1 rfl (Nat.le_of_ble_eq_true rfl) dX0_touched_172 ⟨Nat.zero_le _, Nat.zero_le _⟩ ?_
    have hf_9 : withN sx (2 * (nu1 (wi * 4 + 0))) 2 ((bitsN sx (2 * nu1 (wi * 4 + 0)) 2 + nu1 (wi * 4 + 1)) % 4) < 2 ^ 44 := withN_lt (by omega) (by omega) (by omega)
    refine lv_lstore (lv' := [(10, .long (lN (withN sx (2 * (nu1 (wi * 4 + 0))) 2 ((bitsN sx (2 * nu1 (wi * 4 + 0)) 2 + nu1 (wi * 4 + 1)) % 4)))), (7, .int (nI (bitsN sx (2 * (nu1 (wi * 4 + 0))) 2))), (6, .int (nI (2 * (nu1 (wi * 4 + 0))))), (5, .ref pa1), (0, .ref ma), (1, .long (lN sx)), (3, .int (nI 1)), (4, .int (nI wi))]) hx hb dX0_touched_175 hl (by decide) rfl (fun ls hl => ?_)
    refine lv_lload hx hb dX0_touched_177 (lv_at hl 0 rfl) ?_
    refine lv_iload_n hx hb dX0_touched_179 rfl (lv_at hl 6 rfl) ?_
    refine lv_aload hx hb dX0_touched_180 (lv_at hl 3 rfl) ?_
    refine lv_iload hx hb dX0_touched_182 (lv_at hl 7 rfl) ?_
    refine lv_iconst (v := nI 2) hx hb dX0_touched_184 (by decide) ?_
    have hPc := hP.sub (ws' := [(pa1, .inr (1, [.int (nI n1), .ref pb1, .ref pc1])), (pb1, .inl (kb1, 8, .inl (nA so1))), (pc1, .inl (kc1, 32, .inl (nA nu1)))]) [7, 8, 9] rfl
    have hKc := hK.sub (tys' := [(kb1, .int), (kc1, .int)]) [5, 6] rfl
    refine cVi (As := [.int (nI wi), .int (nI 2)]) (rest := [.int (nI 1), .long (lN (withN sx (2 * (nu1 (wi * 4 + 0))) 2 ((bitsN sx (2 * nu1 (wi * 4 + 0)) 2 + nu1 (wi * 4 + 1)) % 4)))]) ⟨hx, hb, hml, hown, hts⟩ (c_X1_number l D pa1 pb1 pc1 kb1 kc1 n1 so1 nu1 wi 2 (by omega)) (cwV 2 hts (gV mU_416 mU_417 mU_418 mU_22 mU_419) rfl rfl rfl (by decide +kernel) ⟨Nat.le_of_ble_eq_true rfl, Nat.le_of_ble_eq_true rfl⟩) fbR (va_recv hK hP (ci := 1) (q0 := 7) rfl rfl) (PR.of hPc hKc) rfl hl.1 rfl (Nat.le_of_ble_eq_true rfl) dX0_touched_185 ⟨Nat.zero_le _, Nat.zero_le _⟩ ?_
    refine cSi (As := [.int (nI 1), .int (nI (nu1 (wi * 4 + 2)))]) (rest := [.long (lN (withN sx (2 * (nu1 (wi * 4 + 0))) 2 ((bitsN sx (2 * nu1 (wi * 4 + 0)) 2 + nu1 (wi * 4 + 1)) % 4)))]) ⟨hx, hb, hml, hown, hts⟩ (c_X0_registerAt l  1 (nu1 (wi * 4 + 2)) ) (va_cwS 2 hts (gS mU_423 mU_424 mU_27 mU_425) rfl rfl rfl (by decide +kernel) ⟨Nat.le_of_ble_eq_true rfl, Nat.le_of_ble_eq_true rfl⟩) fbU (fun _ _ _ => trivial) rfl hl.1 rfl (Nat.le_of_ble_eq_true rfl) dX0_touched_188 ⟨Nat.zero_le _, Nat.zero_le _⟩ ?_
    refine lv_iconst (v := nI 3) hx hb dX0_touched_191 (by decide) ?_
    refine lv_iload hx hb dX0_touched_192 (lv_at hl 1 rfl) ?_
    refine cSl (As := [.long (lN (withN sx (2 * (nu1 (wi * 4 + 0))) 2 ((bitsN sx (2 * nu1 (wi * 4 + 0)) 2 + nu1 (wi * 4 + 1)) % 4))), .int (nI (12 + 2 * (nu1 (wi * 4 + 2)))), .int (nI 3), .int (nI (bitsN sx (2 * (nu1 (wi * 4 + 0))) 2))]) (rest := []) ⟨hx, hb, hml, hown, hts⟩ (c_X0_with l  (withN sx (2 * (nu1 (wi * 4 + 0))) 2 ((bitsN sx (2 * nu1 (wi * 4 + 0)) 2 + nu1 (wi * 4 + 1)) % 4)) (12 + 2 * (nu1 (wi * 4 + 2))) 2 (bitsN sx (2 * (nu1 (wi * 4 + 0))) 2) (by omega) (by omega) (by omega) (by omega) (by omega)) (va_cwS 4 hts (gS mU_420 mU_421 mU_27 mU_422) rfl rfl rfl (by decide +kernel) ⟨Nat.le_of_ble_eq_true rfl, Nat.le_of_ble_eq_true rfl⟩) fbU (fun _ _ _ => trivial) rfl hl.1 rfl (Nat.le_of_ble_eq_true rfl) dX0_touched_194 ⟨Nat.zero_le _, Nat.zero_le _⟩ ?_
    have hf_10 : withN (withN sx (2 * (nu1 (wi * 4 + 0))) 2 ((bitsN sx (2 * nu1 (wi * 4 + 0)) 2 + nu1 (wi * 4 + 1)) % 4)) (12 + 2 * (nu1 (wi * 4 + 2))) 2 (bitsN sx (2 * (nu1 (wi * 4 + 0))) 2) < 2 ^ 44 := withN_lt (by omega) (by omega) (by omega)
    subst hQ
    exact rtl hx hb hr hlocks rfl (by first | (unfold touchC; (try rw [if_neg n37_0, if_neg n37_1, if_neg n37_2]); (try rfl); done) | (exfalso; omega)) dX0_touched_197

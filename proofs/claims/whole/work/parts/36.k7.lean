theorem z_next0 {x : Nat} (hx : x < 2 ^ 62) (hb : bitsN x 16 3 < 7) : lN x + (lN 1 <<< ((nI 16).toInt64 &&& 63)) = lN (withN x 16 3 (bitsN x 16 3 + 1)) := by
  rw [wb_shl 1 (by decide), lN_add]
  congr 1
  unfold withN bitsN at *
  omega
theorem z_next1 {x : Nat} (hx : x < 2 ^ 62) (hb : bitsN x 19 3 < 7) : lN x + (lN 1 <<< ((nI 19).toInt64 &&& 63)) = lN (withN x 19 3 (bitsN x 19 3 + 1)) := by
  rw [wb_shl 1 (by decide), lN_add]
  congr 1
  unfold withN bitsN at *
  omega
def stmtC2 (so nu : Nat → Nat) (n x h p qu nx : Nat) : Option Nat :=
  if so p = 4 then (if hasGetC so qu then none else some nx)
  else if so p = 5 then (if qu = 0 then some nx else none)
  else if so p = 6 then some (withN nx (2 * nu (p * 4 + 0)) 2 (nu (p * 4 + 1)))
  else if so p = 7 then some (withN nx (8 + 4 * h + 2 * nu (p * 4 + 1)) 2 (bitsN x (2 * nu (p * 4 + 0)) 2))
  else if so p = 8 then (if bitsN x (8 + 4 * h + 2 * nu (p * 4 + 0)) 2 = nu (p * 4 + 1) then some (withN nx (16 + 3 * h) 3 (if n < p + 1 + nu (p * 4 + 2) then n else p + 1 + nu (p * 4 + 2))) else some nx)
  else withWishC nx h qu p
/-- what host h's statement makes of a state of the class -/
def stmtC (so nu : Nat → Nat) (n x h : Nat) : Option Nat :=
  if n ≤ bitsN x (16 + 3 * h) 3 then none
  else if ¬ bitsN x (40 + h) 1 = 0 ∨ ¬ bitsN x (42 + h) 1 = 0 then none
  else stmtC2 so nu n x h (bitsN x (16 + 3 * h) 3) (bitsN x (22 + 9 * h) 9) (withN x (16 + 3 * h) 3 (bitsN x (16 + 3 * h) 3 + 1))
set_option maxHeartbeats 4000000 in
set_option maxRecDepth 100000 in
theorem c_X0_afterStatement0 (l : Launch) (D : va_G) (ma mb mc md : Nat) (k0 k1 k2 : ClassId) (mf : Nat) (wo ri : Nat → Nat) (pa0 pb0 pc0 : Nat) (kb0 kc0 : ClassId) (n0 : Nat) (so0 nu0 : Nat → Nat) (pa1 pb1 pc1 : Nat) (kb1 kc1 : ClassId) (n1 : Nat) (so1 nu1 : Nat → Nat) (sx : Nat) (hsx : sx < 2 ^ 44) (hn : n0 ≤ 7) (hso : ∀ j, so0 j < 2147483648) (hok : ∀ i, i < n0 → okS (so0 i) (nu0 (i * 4 + 0)) (nu0 (i * 4 + 1)) (nu0 (i * 4 + 2)) (nu0 (i * 4 + 3))) : Met l yX0_afterStatement (.code yX0_afterStatement cX0_afterStatement 10 (some .long) :: wsL_law) ({ frames := 3, cells := 0, slots := 0, locals := 65 }) (va_Pc [.ref ma, .long (lN sx), .int (nI 0)] (PR D (kW ma mb mc md k0 k1 k2 mf wo ri pa0 pb0 pc0 kb0 kc0 n0 so0 nu0 pa1 pb1 pc1 kb1 kc1 n1 so1 nu1) (kT k0 k1 k2 kb0 kc0 kb1 kc1))) (QrL (eO (stmtC so0 nu0 n0 sx 0))) 0 0 (fun _ => False) := by
  refine Met.ofW (cc := cX0_afterStatement) (maxL := 10) (ret := (some .long)) (by decide) rfl ?_
  intro p e s m args below meth c s₁ B hml hv
  obtain ⟨rfl, hP, hK⟩ := hv
  have hx := B.exec
  have hb := B.bytes
  have hr := B.returns
  have hts := atoms_spec (ws := .code yX0_afterStatement cX0_afterStatement 10 (some .long) :: wsL_law) B.pre
  have hU : ∀ w ∈ wsL_law, w.before _ s = true := fun w h => hts w (List.mem_cons_of_mem _ h)
  have hown : s.vm.findClass RX0 = some m.cls := findClass_of_methodNamed B.named
  have hlocks := B.notSynchronized
  generalize hQ : MQ _ _ _ _ _ _ _ = Q
  have hl := lv_entry ([.ref ma, .long (lN sx), .int (nI 0)]) (n := 10) (Nat.le_of_ble_eq_true rfl)
  rw [lg_entry_eq]
  generalize (lg_sl ([.ref ma, .long (lN sx), .int (nI 0)]) ++ List.replicate (10 - (lg_sl ([.ref ma, .long (lN sx), .int (nI 0)])).length) Slot.unset).toArray = ls at hl ⊢
  have hl : lv_has ls 10 [(0, .ref ma), (1, .long (lN sx)), (3, .int (nI 0))] := hl
  refine lv_lload_n hx hb dX0_afterStatement_0 rfl (lv_at hl 1 rfl) ?_
  refine lv_bipush (v := nI 16) hx hb dX0_afterStatement_1 (by decide) ?_
  refine lv_iconst (v := nI 3) hx hb dX0_afterStatement_3 (by decide) ?_
  refine lv_iload_n hx hb dX0_afterStatement_4 rfl (lv_at hl 2 rfl) ?_
  refine lv_imul hx hb dX0_afterStatement_5 ?_
  refine lv_topE (nI 0) (pk_mul _ _) ?_
  refine lv_iadd hx hb dX0_afterStatement_6 ?_
  refine lv_topE (nI 16) (nI_add _ _) ?_
  refine lv_bipush (v := nI 7) hx hb dX0_afterStatement_7 (by decide) ?_
  refine cSi (As := [.long (lN sx), .int (nI 16), .int (nI 7)]) (rest := []) ⟨hx, hb, hml, hown, hts⟩ (c_X0_bits l  sx 16 3 (by omega) (by omega)) (va_cwS 3 hts (gS mU_398 mU_399 mU_27 mU_400) rfl rfl rfl (by decide +kernel) ⟨Nat.le_of_ble_eq_true rfl, Nat.le_of_ble_eq_true rfl⟩) fbU (fun _ _ _ => trivial) rfl hl.1 rfl (Nat.le_of_ble_eq_true rfl) dX0_afterStatement_9 ⟨Nat.zero_le _, Nat.zero_le _⟩ ?_
  have hf_1 : bitsN sx 16 3 < 2 ^ 3 := bitsN_lt _ _ _
  refine lv_istore (lv' := [(4, .int (nI (bitsN sx 16 3))), (0, .ref ma), (1, .long (lN sx)), (3, .int (nI 0))]) hx hb dX0_afterStatement_12 hl (by decide) rfl (fun ls hl => ?_)
  refine lv_aload_n hx hb dX0_afterStatement_14 rfl (lv_at hl 1 rfl) ?_
  refine va_get (D := D) (ci := 0) (v := .ref mb) (C := RX0) (T := TX0) (N := 4) hx hb hU iX0 hown hK hP 0 rfl rfl 0 (by decide) (hU _ mU_54) (fun _ h9 => h9) rfl dX0_afterStatement_15 ?_
  refine lv_iload_n hx hb dX0_afterStatement_18 rfl (lv_at hl 3 rfl) ?_
  refine va_aldq hx hb hK hP 1 0 rfl rfl (vp_in_nI (n := 0) (by decide) (by decide)) dX0_afterStatement_19 ?_
  refine W.eq (g2 := F0 m 20 ls [.ref pa0]) (by rw [nI_clamp (show 0 < 2 ^ 31 by decide)]; rfl) ?_
  refine lv_astore (lv' := [(5, .ref pa0), (4, .int (nI (bitsN sx 16 3))), (0, .ref ma), (1, .long (lN sx)), (3, .int (nI 0))]) hx hb dX0_afterStatement_20 hl (by decide) rfl (fun ls hl => ?_)
  refine lv_iload hx hb dX0_afterStatement_22 (lv_at hl 1 rfl) ?_
  refine lv_aload hx hb dX0_afterStatement_24 (lv_at hl 0 rfl) ?_
  refine va_get (D := D) (ci := 1) (v := .int (nI n0)) (C := RX1) (T := TX1) (N := 3) hx hb hU iX1 hown hK hP 4 rfl rfl 0 (by decide) (hU _ mU_396) (fun _ h9 => h9) rfl dX0_afterStatement_26 ?_
  refine lv_icmp_ge (tgt := 40) hx hb dX0_afterStatement_29 (by decide) (fun c29_2 => ?_) (fun c29_2 => ?_)
  · have c29_2 : n0 ≤ bitsN sx 16 3 := (nI_leI (a := n0) (b := bitsN sx 16 3) (by omega) (by omega)).mp c29_2
    refine lv_ldc2 (v := (-1)) hx hb hown (hU _ mU_391) dX0_afterStatement_40 ?_
    subst hQ
    exact rtl hx hb hr hlocks rfl (by first | (unfold stmtC; unfold stmtC2; (try first | rw [if_pos c29_2] | rw [if_neg c29_2]); (try rfl); done) | (exfalso; omega)) dX0_afterStatement_43
  · have c29_2 : ¬ (n0 ≤ bitsN sx 16 3) := fun h9 => c29_2 ((nI_leI (a := n0) (b := bitsN sx 16 3) (by omega) (by omega)).mpr h9)
    refine lv_lload_n hx hb dX0_afterStatement_32 rfl (lv_at hl 3 rfl) ?_
    refine lv_iload_n hx hb dX0_afterStatement_33 rfl (lv_at hl 4 rfl) ?_
    refine cSi (As := [.long (lN sx), .int (nI 0)]) (rest := []) ⟨hx, hb, hml, hown, hts⟩ (c_X0_isStopped l  sx 0 (by omega) (by omega)) (va_cwS 2 hts (gS mU_401 mU_402 mU_27 mU_403) rfl rfl rfl (by decide +kernel) ⟨Nat.le_of_ble_eq_true rfl, Nat.le_of_ble_eq_true rfl⟩) fbU (fun _ _ _ => trivial) rfl hl.1 rfl (Nat.le_of_ble_eq_true rfl) dX0_afterStatement_34 ⟨Nat.zero_le _, Nat.zero_le _⟩ ?_
    refine lv_if_eq (tgt := 44) hx hb dX0_afterStatement_37 (by decide) (fun c37_3 => ?_) (fun c37_3 => ?_)
    · have c37_3 : ¬ (¬ bitsN sx (40) 1 = 0 ∨ ¬ bitsN sx (42) 1 = 0) := bP_f c37_3
      refine lv_lload_n hx hb dX0_afterStatement_44 rfl (lv_at hl 3 rfl) ?_
      refine lv_iload_n hx hb dX0_afterStatement_45 rfl (lv_at hl 4 rfl) ?_
      refine cSi (As := [.long (lN sx), .int (nI 0)]) (rest := []) ⟨hx, hb, hml, hown, hts⟩ (c_X0_queueOf l  sx 0 (by omega) (by omega)) (va_cwS 2 hts (gS mU_404 mU_405 mU_27 mU_406) rfl rfl rfl (by decide +kernel) ⟨Nat.le_of_ble_eq_true rfl, Nat.le_of_ble_eq_true rfl⟩) fbU (fun _ _ _ => trivial) rfl hl.1 rfl (Nat.le_of_ble_eq_true rfl) dX0_afterStatement_46 ⟨Nat.zero_le _, Nat.zero_le _⟩ ?_
      have hf_4 : bitsN sx (22) 9 < 512 := bitsN_lt _ _ _
      refine lv_istore (lv' := [(6, .int (nI (bitsN sx (22) 9))), (5, .ref pa0), (4, .int (nI (bitsN sx 16 3))), (0, .ref ma), (1, .long (lN sx)), (3, .int (nI 0))]) hx hb dX0_afterStatement_49 hl (by decide) rfl (fun ls hl => ?_)
      refine lv_lload_n hx hb dX0_afterStatement_51 rfl (lv_at hl 4 rfl) ?_
      refine lv_lconst (v := lN 1) hx hb dX0_afterStatement_52 rfl ?_
      refine lv_bipush (v := nI 16) hx hb dX0_afterStatement_53 (by decide) ?_
      refine lv_iconst (v := nI 3) hx hb dX0_afterStatement_55 (by decide) ?_
      refine lv_iload_n hx hb dX0_afterStatement_56 rfl (lv_at hl 5 rfl) ?_
      refine lv_imul hx hb dX0_afterStatement_57 ?_
      refine lv_topE (nI 0) (pk_mul _ _) ?_
      refine lv_iadd hx hb dX0_afterStatement_58 ?_
      refine lv_topE (nI 16) (nI_add _ _) ?_
      refine lv_lshl hx hb dX0_afterStatement_59 rfl ?_
      refine lv_ladd hx hb dX0_afterStatement_60 ?_
      refine lv_topEl (lN (withN sx 16 3 (bitsN sx 16 3 + 1))) (z_next0 (by omega) (by omega)) ?_
      have hnx : withN sx 16 3 (bitsN sx 16 3 + 1) < 2 ^ 44 := withN_lt (by omega) (by omega) (by omega)
      have hso9 := (hok (bitsN sx 16 3) (by omega)).1
      refine lv_lstore (lv' := [(7, .long (lN (withN sx 16 3 (bitsN sx 16 3 + 1)))), (6, .int (nI (bitsN sx (22) 9))), (5, .ref pa0), (4, .int (nI (bitsN sx 16 3))), (0, .ref ma), (1, .long (lN sx)), (3, .int (nI 0))]) hx hb dX0_afterStatement_61 hl (by decide) rfl (fun ls hl => ?_)
      refine lv_aload hx hb dX0_afterStatement_63 (lv_at hl 2 rfl) ?_
      refine va_get (D := D) (ci := 1) (v := .ref pb0) (C := RX1) (T := TX1) (N := 3) hx hb hU iX1 hown hK hP 4 rfl rfl 1 (by decide) (hU _ mU_397) (fun _ h9 => h9) rfl dX0_afterStatement_65 ?_
      refine lv_iload hx hb dX0_afterStatement_68 (lv_at hl 3 rfl) ?_
      refine n_iald hx hb hK hP 5 3 rfl rfl (i := bitsN sx 16 3) (by omega) (by decide) dX0_afterStatement_70 ?_
      have hb_5 := hso  (bitsN sx 16 3)
      rcases (show so0 (bitsN sx 16 3) = 4 ∨ so0 (bitsN sx 16 3) = 5 ∨ so0 (bitsN sx 16 3) = 6 ∨ so0 (bitsN sx 16 3) = 7 ∨ so0 (bitsN sx 16 3) = 8 ∨ (so0 (bitsN sx 16 3) < 4 ∨ 8 < so0 (bitsN sx 16 3)) by omega) with c71_6 | c71_6 | c71_6 | c71_6 | c71_6 | c71_6
      · have hx9 : (nI (so0 (bitsN sx 16 3))).toInt = 4 := by rw [nI_toInt (show so0 (bitsN sx 16 3) < 2 ^ 31 by omega)]; omega
        refine lv_tableIn (tgt := 104) (off := 33) hx hb dX0_afterStatement_71 (by rw [hx9]; decide) (by rw [hx9]; decide) (by rw [hx9]; rfl) (by decide) ?_
        refine lv_aload hx hb dX0_afterStatement_104 (lv_at hl 2 rfl) ?_
        refine lv_iload hx hb dX0_afterStatement_106 (lv_at hl 1 rfl) ?_
        have hPc := hP.sub (ws' := [(pa0, .inr (1, [.int (nI n0), .ref pb0, .ref pc0])), (pb0, .inl (kb0, 8, .inl (nA so0))), (pc0, .inl (kc0, 32, .inl (nA nu0)))]) [4, 5, 6] rfl
        have hKc := hK.sub (tys' := [(kb0, .int), (kc0, .int)]) [3, 4] rfl
        refine cSi (As := [.ref pa0, .int (nI (bitsN sx (22) 9))]) (rest := []) ⟨hx, hb, hml, hown, hts⟩ (c_X0_hasGet l D pb0 pc0 kb0 kc0 n0 so0 nu0 pa0 (bitsN sx (22) 9) (by omega) (hso)) (va_cwS 2 hts (gS mU_407 mU_408 mU_27 mU_409) rfl rfl rfl (by decide +kernel) ⟨Nat.le_of_ble_eq_true rfl, Nat.le_of_ble_eq_true rfl⟩) fbR (PR.of hPc hKc) rfl hl.1 rfl (Nat.le_of_ble_eq_true rfl) dX0_afterStatement_108 ⟨Nat.zero_le _, Nat.zero_le _⟩ ?_
        refine lv_if_eq (tgt := 120) hx hb dX0_afterStatement_111 (by decide) (fun c111_7 => ?_) (fun c111_7 => ?_)
        · have c111_7 : ¬ (hasGetC so0 (bitsN sx (22) 9)) := bP_f c111_7
          refine lv_lload hx hb dX0_afterStatement_120 (lv_at hl 0 rfl) ?_
          subst hQ
          exact rtl hx hb hr hlocks rfl (by first | (unfold stmtC; unfold stmtC2; (try first | rw [if_pos c29_2] | rw [if_neg c29_2]); (try first | rw [if_pos c37_3] | rw [if_neg c37_3]); (try rw [c71_6]); (try first | rw [if_pos c111_7] | rw [if_neg c111_7]); (try rfl); done) | (exfalso; omega)) dX0_afterStatement_122
        · have c111_7 : hasGetC so0 (bitsN sx (22) 9) := bP_t c111_7
          refine lv_ldc2 (v := (-1)) hx hb hown (hU _ mU_391) dX0_afterStatement_114 ?_
          refine lv_goto (tgt := 122) hx hb dX0_afterStatement_117 (by decide) ?_
          subst hQ
          exact rtl hx hb hr hlocks rfl (by first | (unfold stmtC; unfold stmtC2; (try first | rw [if_pos c29_2] | rw [if_neg c29_2]); (try first | rw [if_pos c37_3] | rw [if_neg c37_3]); (try rw [c71_6]); (try first | rw [if_pos c111_7] | rw [if_neg c111_7]); (try rfl); done) | (exfalso; omega)) dX0_afterStatement_122
      · have hx9 : (nI (so0 (bitsN sx 16 3))).toInt = 5 := by rw [nI_toInt (show so0 (bitsN sx 16 3) < 2 ^ 31 by omega)]; omega
        refine lv_tableIn (tgt := 123) (off := 52) hx hb dX0_afterStatement_71 (by rw [hx9]; decide) (by rw [hx9]; decide) (by rw [hx9]; rfl) (by decide) ?_
        refine lv_iload hx hb dX0_afterStatement_123 (lv_at hl 1 rfl) ?_
        refine lv_if_ne (tgt := 133) hx hb dX0_afterStatement_125 (by decide) (fun c125_8 => ?_) (fun c125_8 => ?_)
        · have c125_8 : ¬ (bitsN sx (22) 9 = 0) := fun h9 => c125_8 ((nI_eqG (a := bitsN sx (22) 9) (b := 0) (by omega) (by omega)).mpr h9)
          refine lv_ldc2 (v := (-1)) hx hb hown (hU _ mU_391) dX0_afterStatement_133 ?_
          subst hQ
          exact rtl hx hb hr hlocks rfl (by first | (unfold stmtC; unfold stmtC2; (try first | rw [if_pos c29_2] | rw [if_neg c29_2]); (try first | rw [if_pos c37_3] | rw [if_neg c37_3]); (try rw [c71_6]); (try first | rw [if_pos c125_8] | rw [if_neg c125_8]); (try rfl); done) | (exfalso; omega)) dX0_afterStatement_136
        · have c125_8 : bitsN sx (22) 9 = 0 := (nI_eqG (a := bitsN sx (22) 9) (b := 0) (by omega) (by omega)).mp c125_8
          refine lv_lload hx hb dX0_afterStatement_128 (lv_at hl 0 rfl) ?_
          refine lv_goto (tgt := 136) hx hb dX0_afterStatement_130 (by decide) ?_
          subst hQ
          exact rtl hx hb hr hlocks rfl (by first | (unfold stmtC; unfold stmtC2; (try first | rw [if_pos c29_2] | rw [if_neg c29_2]); (try first | rw [if_pos c37_3] | rw [if_neg c37_3]); (try rw [c71_6]); (try first | rw [if_pos c125_8] | rw [if_neg c125_8]); (try rfl); done) | (exfalso; omega)) dX0_afterStatement_136
      · have hx9 : (nI (so0 (bitsN sx 16 3))).toInt = 6 := by rw [nI_toInt (show so0 (bitsN sx 16 3) < 2 ^ 31 by omega)]; omega
        refine lv_tableIn (tgt := 137) (off := 66) hx hb dX0_afterStatement_71 (by rw [hx9]; decide) (by rw [hx9]; decide) (by rw [hx9]; rfl) (by decide) ?_
        have hk6 := okS_6 (hok (bitsN sx 16 3) (by omega)) c71_6
        refine lv_lload hx hb dX0_afterStatement_137 (lv_at hl 0 rfl) ?_
        refine lv_iconst (v := nI 2) hx hb dX0_afterStatement_139 (by decide) ?_
        refine lv_aload hx hb dX0_afterStatement_140 (lv_at hl 2 rfl) ?_
        refine lv_iload hx hb dX0_afterStatement_142 (lv_at hl 3 rfl) ?_
        refine lv_iconst (v := nI 0) hx hb dX0_afterStatement_144 (by decide) ?_
        have hPc := hP.sub (ws' := [(pa0, .inr (1, [.int (nI n0), .ref pb0, .ref pc0])), (pb0, .inl (kb0, 8, .inl (nA so0))), (pc0, .inl (kc0, 32, .inl (nA nu0)))]) [4, 5, 6] rfl
        have hKc := hK.sub (tys' := [(kb0, .int), (kc0, .int)]) [3, 4] rfl
        refine cVi (As := [.int (nI (bitsN sx 16 3)), .int (nI 0)]) (rest := [.int (nI 2), .long (lN (withN sx 16 3 (bitsN sx 16 3 + 1)))]) ⟨hx, hb, hml, hown, hts⟩ (c_X1_number l D pa0 pb0 pc0 kb0 kc0 n0 so0 nu0 (bitsN sx 16 3) 0 (by omega)) (cwV 2 hts (gV mU_416 mU_417 mU_418 mU_22 mU_419) rfl rfl rfl (by decide +kernel) ⟨Nat.le_of_ble_eq_true rfl, Nat.le_of_ble_eq_true rfl⟩) fbR (va_recv hK hP (ci := 1) (q0 := 4) rfl rfl) (PR.of hPc hKc) rfl hl.1 rfl (Nat.le_of_ble_eq_true rfl) dX0_afterStatement_145 ⟨Nat.zero_le _, Nat.zero_le _⟩ ?_
        refine lv_imul hx hb dX0_afterStatement_148 ?_
        refine lv_topE (nI (2 * (nu0 ((bitsN sx 16 3) * 4 + 0)))) (pk_mul _ _) ?_
        refine lv_iconst (v := nI 3) hx hb dX0_afterStatement_149 (by decide) ?_
        refine lv_aload hx hb dX0_afterStatement_150 (lv_at hl 2 rfl) ?_
        refine lv_iload hx hb dX0_afterStatement_152 (lv_at hl 3 rfl) ?_
        refine lv_iconst (v := nI 1) hx hb dX0_afterStatement_154 (by decide) ?_
        have hPc := hP.sub (ws' := [(pa0, .inr (1, [.int (nI n0), .ref pb0, .ref pc0])), (pb0, .inl (kb0, 8, .inl (nA so0))), (pc0, .inl (kc0, 32, .inl (nA nu0)))]) [4, 5, 6] rfl
        have hKc := hK.sub (tys' := [(kb0, .int), (kc0, .int)]) [3, 4] rfl
        refine cVi (As := [.int (nI (bitsN sx 16 3)), .int (nI 1)]) (rest := [.int (nI 3), .int (nI (2 * (nu0 ((bitsN sx 16 3) * 4 + 0)))), .long (lN (withN sx 16 3 (bitsN sx 16 3 + 1)))]) ⟨hx, hb, hml, hown, hts⟩ (c_X1_number l D pa0 pb0 pc0 kb0 kc0 n0 so0 nu0 (bitsN sx 16 3) 1 (by omega)) (cwV 2 hts (gV mU_416 mU_417 mU_418 mU_22 mU_419) rfl rfl rfl (by decide +kernel) ⟨Nat.le_of_ble_eq_true rfl, Nat.le_of_ble_eq_true rfl⟩) fbR (va_recv hK hP (ci := 1) (q0 := 4) rfl rfl) (PR.of hPc hKc) rfl hl.1 rfl (Nat.le_of_ble_eq_true rfl) dX0_afterStatement_155 ⟨Nat.zero_le _, Nat.zero_le _⟩ ?_
        refine cSl (As := [.long (lN (withN sx 16 3 (bitsN sx 16 3 + 1))), .int (nI (2 * (nu0 ((bitsN sx 16 3) * 4 + 0)))), .int (nI 3), .int (nI (nu0 ((bitsN sx 16 3) * 4 + 1)))]) (rest := []) ⟨hx, hb, hml, hown, hts⟩ (c_X0_with l  (withN sx 16 3 (bitsN sx 16 3 + 1)) (2 * (nu0 ((bitsN sx 16 3) * 4 + 0))) 2 (nu0 ((bitsN sx 16 3) * 4 + 1)) (by omega) (by omega) (by omega) (by omega) (by omega)) (va_cwS 4 hts (gS mU_420 mU_421 mU_27 mU_422) rfl rfl rfl (by decide +kernel) ⟨Nat.le_of_ble_eq_true rfl, Nat.le_of_ble_eq_true rfl⟩) fbU (fun _ _ _ => trivial) rfl hl.1 rfl (Nat.le_of_ble_eq_true rfl) dX0_afterStatement_158 ⟨Nat.zero_le _, Nat.zero_le _⟩ ?_
        have hf_9 : withN (withN sx 16 3 (bitsN sx 16 3 + 1)) (2 * (nu0 ((bitsN sx 16 3) * 4 + 0))) 2 (nu0 ((bitsN sx 16 3) * 4 + 1)) < 2 ^ 44 := withN_lt (by omega) (by omega) (by omega)
        subst hQ
        exact rtl hx hb hr hlocks rfl (by first | (unfold stmtC; unfold stmtC2; (try first | rw [if_pos c29_2] | rw [if_neg c29_2]); (try first | rw [if_pos c37_3] | rw [if_neg c37_3]); (try rw [c71_6]); (try rfl); done) | (exfalso; omega)) dX0_afterStatement_161
      · have hx9 : (nI (so0 (bitsN sx 16 3))).toInt = 7 := by rw [nI_toInt (show so0 (bitsN sx 16 3) < 2 ^ 31 by omega)]; omega
        refine lv_tableIn (tgt := 162) (off := 91) hx hb dX0_afterStatement_71 (by rw [hx9]; decide) (by rw [hx9]; decide) (by rw [hx9]; rfl) (by decide) ?_
        have hk7 := okS_7 (hok (bitsN sx 16 3) (by omega)) c71_6
        refine lv_lload hx hb dX0_afterStatement_162 (lv_at hl 0 rfl) ?_
        refine lv_iload_n hx hb dX0_afterStatement_164 rfl (lv_at hl 6 rfl) ?_
        refine lv_aload hx hb dX0_afterStatement_165 (lv_at hl 2 rfl) ?_
        refine lv_iload hx hb dX0_afterStatement_167 (lv_at hl 3 rfl) ?_
        refine lv_iconst (v := nI 1) hx hb dX0_afterStatement_169 (by decide) ?_
        have hPc := hP.sub (ws' := [(pa0, .inr (1, [.int (nI n0), .ref pb0, .ref pc0])), (pb0, .inl (kb0, 8, .inl (nA so0))), (pc0, .inl (kc0, 32, .inl (nA nu0)))]) [4, 5, 6] rfl
        have hKc := hK.sub (tys' := [(kb0, .int), (kc0, .int)]) [3, 4] rfl
        refine cVi (As := [.int (nI (bitsN sx 16 3)), .int (nI 1)]) (rest := [.int (nI 0), .long (lN (withN sx 16 3 (bitsN sx 16 3 + 1)))]) ⟨hx, hb, hml, hown, hts⟩ (c_X1_number l D pa0 pb0 pc0 kb0 kc0 n0 so0 nu0 (bitsN sx 16 3) 1 (by omega)) (cwV 2 hts (gV mU_416 mU_417 mU_418 mU_22 mU_419) rfl rfl rfl (by decide +kernel) ⟨Nat.le_of_ble_eq_true rfl, Nat.le_of_ble_eq_true rfl⟩) fbR (va_recv hK hP (ci := 1) (q0 := 4) rfl rfl) (PR.of hPc hKc) rfl hl.1 rfl (Nat.le_of_ble_eq_true rfl) dX0_afterStatement_170 ⟨Nat.zero_le _, Nat.zero_le _⟩ ?_
        refine cSi (As := [.int (nI 0), .int (nI (nu0 ((bitsN sx 16 3) * 4 + 1)))]) (rest := [.long (lN (withN sx 16 3 (bitsN sx 16 3 + 1)))]) ⟨hx, hb, hml, hown, hts⟩ (c_X0_registerAt l  0 (nu0 ((bitsN sx 16 3) * 4 + 1)) ) (va_cwS 2 hts (gS mU_423 mU_424 mU_27 mU_425) rfl rfl rfl (by decide +kernel) ⟨Nat.le_of_ble_eq_true rfl, Nat.le_of_ble_eq_true rfl⟩) fbU (fun _ _ _ => trivial) rfl hl.1 rfl (Nat.le_of_ble_eq_true rfl) dX0_afterStatement_173 ⟨Nat.zero_le _, Nat.zero_le _⟩ ?_
        refine lv_iconst (v := nI 3) hx hb dX0_afterStatement_176 (by decide) ?_
        refine lv_lload_n hx hb dX0_afterStatement_177 rfl (lv_at hl 5 rfl) ?_
        refine lv_iconst (v := nI 2) hx hb dX0_afterStatement_178 (by decide) ?_
        refine lv_aload hx hb dX0_afterStatement_179 (lv_at hl 2 rfl) ?_
        refine lv_iload hx hb dX0_afterStatement_181 (lv_at hl 3 rfl) ?_
        refine lv_iconst (v := nI 0) hx hb dX0_afterStatement_183 (by decide) ?_
        have hPc := hP.sub (ws' := [(pa0, .inr (1, [.int (nI n0), .ref pb0, .ref pc0])), (pb0, .inl (kb0, 8, .inl (nA so0))), (pc0, .inl (kc0, 32, .inl (nA nu0)))]) [4, 5, 6] rfl
        have hKc := hK.sub (tys' := [(kb0, .int), (kc0, .int)]) [3, 4] rfl
        refine cVi (As := [.int (nI (bitsN sx 16 3)), .int (nI 0)]) (rest := [.int (nI 2), .long (lN sx), .int (nI 3), .int (nI (8 + 2 * (nu0 ((bitsN sx 16 3) * 4 + 1)))), .long (lN (withN sx 16 3 (bitsN sx 16 3 + 1)))]) ⟨hx, hb, hml, hown, hts⟩ (c_X1_number l D pa0 pb0 pc0 kb0 kc0 n0 so0 nu0 (bitsN sx 16 3) 0 (by omega)) (cwV 2 hts (gV mU_416 mU_417 mU_418 mU_22 mU_419) rfl rfl rfl (by decide +kernel) ⟨Nat.le_of_ble_eq_true rfl, Nat.le_of_ble_eq_true rfl⟩) fbR (va_recv hK hP (ci := 1) (q0 := 4) rfl rfl) (PR.of hPc hKc) rfl hl.1 rfl (Nat.le_of_ble_eq_true rfl) dX0_afterStatement_184 ⟨Nat.zero_le _, Nat.zero_le _⟩ ?_
        refine lv_imul hx hb dX0_afterStatement_187 ?_
        refine lv_topE (nI (2 * (nu0 ((bitsN sx 16 3) * 4 + 0)))) (pk_mul _ _) ?_
        refine lv_iconst (v := nI 3) hx hb dX0_afterStatement_188 (by decide) ?_
        refine cSi (As := [.long (lN sx), .int (nI (2 * (nu0 ((bitsN sx 16 3) * 4 + 0)))), .int (nI 3)]) (rest := [.int (nI 3), .int (nI (8 + 2 * (nu0 ((bitsN sx 16 3) * 4 + 1)))), .long (lN (withN sx 16 3 (bitsN sx 16 3 + 1)))]) ⟨hx, hb, hml, hown, hts⟩ (c_X0_bits l  sx (2 * (nu0 ((bitsN sx 16 3) * 4 + 0))) 2 (by omega) (by omega)) (va_cwS 3 hts (gS mU_398 mU_399 mU_27 mU_400) rfl rfl rfl (by decide +kernel) ⟨Nat.le_of_ble_eq_true rfl, Nat.le_of_ble_eq_true rfl⟩) fbU (fun _ _ _ => trivial) rfl hl.1 rfl (Nat.le_of_ble_eq_true rfl) dX0_afterStatement_189 ⟨Nat.zero_le _, Nat.zero_le _⟩ ?_
        have hf_10 : bitsN sx (2 * (nu0 ((bitsN sx 16 3) * 4 + 0))) 2 < 2 ^ 2 := bitsN_lt _ _ _
        refine cSl (As := [.long (lN (withN sx 16 3 (bitsN sx 16 3 + 1))), .int (nI (8 + 2 * (nu0 ((bitsN sx 16 3) * 4 + 1)))), .int (nI 3), .int (nI (bitsN sx (2 * (nu0 ((bitsN sx 16 3) * 4 + 0))) 2))]) (rest := []) ⟨hx, hb, hml, hown, hts⟩ (c_X0_with l  (withN sx 16 3 (bitsN sx 16 3 + 1)) (8 + 2 * (nu0 ((bitsN sx 16 3) * 4 + 1))) 2 (bitsN sx (2 * (nu0 ((bitsN sx 16 3) * 4 + 0))) 2) (by omega) (by omega) (by omega) (by omega) (by omega)) (va_cwS 4 hts (gS mU_420 mU_421 mU_27 mU_422) rfl rfl rfl (by decide +kernel) ⟨Nat.le_of_ble_eq_true rfl, Nat.le_of_ble_eq_true rfl⟩) fbU (fun _ _ _ => trivial) rfl hl.1 rfl (Nat.le_of_ble_eq_true rfl) dX0_afterStatement_192 ⟨Nat.zero_le _, Nat.zero_le _⟩ ?_
        have hf_11 : withN (withN sx 16 3 (bitsN sx 16 3 + 1)) (8 + 2 * (nu0 ((bitsN sx 16 3) * 4 + 1))) 2 (bitsN sx (2 * (nu0 ((bitsN sx 16 3) * 4 + 0))) 2) < 2 ^ 44 := withN_lt (by omega) (by omega) (by omega)
        subst hQ
        exact rtl hx hb hr hlocks rfl (by first | (unfold stmtC; unfold stmtC2; (try first | rw [if_pos c29_2] | rw [if_neg c29_2]); (try first | rw [if_pos c37_3] | rw [if_neg c37_3]); (try rw [c71_6]); (try rfl); done) | (exfalso; omega)) dX0_afterStatement_195
      · have hx9 : (nI (so0 (bitsN sx 16 3))).toInt = 8 := by rw [nI_toInt (show so0 (bitsN sx 16 3) < 2 ^ 31 by omega)]; omega
        refine lv_tableIn (tgt := 196) (off := 125) hx hb dX0_afterStatement_71 (by rw [hx9]; decide) (by rw [hx9]; decide) (by rw [hx9]; rfl) (by decide) ?_
        have hk8 := okS_8 (hok (bitsN sx 16 3) (by omega)) c71_6
        refine lv_lload_n hx hb dX0_afterStatement_196 rfl (lv_at hl 5 rfl) ?_
        refine lv_iload_n hx hb dX0_afterStatement_197 rfl (lv_at hl 6 rfl) ?_
        refine lv_aload hx hb dX0_afterStatement_198 (lv_at hl 2 rfl) ?_
        refine lv_iload hx hb dX0_afterStatement_200 (lv_at hl 3 rfl) ?_
        refine lv_iconst (v := nI 0) hx hb dX0_afterStatement_202 (by decide) ?_
        have hPc := hP.sub (ws' := [(pa0, .inr (1, [.int (nI n0), .ref pb0, .ref pc0])), (pb0, .inl (kb0, 8, .inl (nA so0))), (pc0, .inl (kc0, 32, .inl (nA nu0)))]) [4, 5, 6] rfl
        have hKc := hK.sub (tys' := [(kb0, .int), (kc0, .int)]) [3, 4] rfl
        refine cVi (As := [.int (nI (bitsN sx 16 3)), .int (nI 0)]) (rest := [.int (nI 0), .long (lN sx)]) ⟨hx, hb, hml, hown, hts⟩ (c_X1_number l D pa0 pb0 pc0 kb0 kc0 n0 so0 nu0 (bitsN sx 16 3) 0 (by omega)) (cwV 2 hts (gV mU_416 mU_417 mU_418 mU_22 mU_419) rfl rfl rfl (by decide +kernel) ⟨Nat.le_of_ble_eq_true rfl, Nat.le_of_ble_eq_true rfl⟩) fbR (va_recv hK hP (ci := 1) (q0 := 4) rfl rfl) (PR.of hPc hKc) rfl hl.1 rfl (Nat.le_of_ble_eq_true rfl) dX0_afterStatement_203 ⟨Nat.zero_le _, Nat.zero_le _⟩ ?_
        refine cSi (As := [.int (nI 0), .int (nI (nu0 ((bitsN sx 16 3) * 4 + 0)))]) (rest := [.long (lN sx)]) ⟨hx, hb, hml, hown, hts⟩ (c_X0_registerAt l  0 (nu0 ((bitsN sx 16 3) * 4 + 0)) ) (va_cwS 2 hts (gS mU_423 mU_424 mU_27 mU_425) rfl rfl rfl (by decide +kernel) ⟨Nat.le_of_ble_eq_true rfl, Nat.le_of_ble_eq_true rfl⟩) fbU (fun _ _ _ => trivial) rfl hl.1 rfl (Nat.le_of_ble_eq_true rfl) dX0_afterStatement_206 ⟨Nat.zero_le _, Nat.zero_le _⟩ ?_
        refine lv_iconst (v := nI 3) hx hb dX0_afterStatement_209 (by decide) ?_
        refine cSi (As := [.long (lN sx), .int (nI (8 + 2 * (nu0 ((bitsN sx 16 3) * 4 + 0)))), .int (nI 3)]) (rest := []) ⟨hx, hb, hml, hown, hts⟩ (c_X0_bits l  sx (8 + 2 * (nu0 ((bitsN sx 16 3) * 4 + 0))) 2 (by omega) (by omega)) (va_cwS 3 hts (gS mU_398 mU_399 mU_27 mU_400) rfl rfl rfl (by decide +kernel) ⟨Nat.le_of_ble_eq_true rfl, Nat.le_of_ble_eq_true rfl⟩) fbU (fun _ _ _ => trivial) rfl hl.1 rfl (Nat.le_of_ble_eq_true rfl) dX0_afterStatement_210 ⟨Nat.zero_le _, Nat.zero_le _⟩ ?_
        have hf_12 : bitsN sx (8 + 2 * (nu0 ((bitsN sx 16 3) * 4 + 0))) 2 < 2 ^ 2 := bitsN_lt _ _ _
        refine lv_aload hx hb dX0_afterStatement_213 (lv_at hl 2 rfl) ?_
        refine lv_iload hx hb dX0_afterStatement_215 (lv_at hl 3 rfl) ?_
        refine lv_iconst (v := nI 1) hx hb dX0_afterStatement_217 (by decide) ?_
        have hPc := hP.sub (ws' := [(pa0, .inr (1, [.int (nI n0), .ref pb0, .ref pc0])), (pb0, .inl (kb0, 8, .inl (nA so0))), (pc0, .inl (kc0, 32, .inl (nA nu0)))]) [4, 5, 6] rfl
        have hKc := hK.sub (tys' := [(kb0, .int), (kc0, .int)]) [3, 4] rfl
        refine cVi (As := [.int (nI (bitsN sx 16 3)), .int (nI 1)]) (rest := [.int (nI (bitsN sx (8 + 2 * (nu0 ((bitsN sx 16 3) * 4 + 0))) 2))]) ⟨hx, hb, hml, hown, hts⟩ (c_X1_number l D pa0 pb0 pc0 kb0 kc0 n0 so0 nu0 (bitsN sx 16 3) 1 (by omega)) (cwV 2 hts (gV mU_416 mU_417 mU_418 mU_22 mU_419) rfl rfl rfl (by decide +kernel) ⟨Nat.le_of_ble_eq_true rfl, Nat.le_of_ble_eq_true rfl⟩) fbR (va_recv hK hP (ci := 1) (q0 := 4) rfl rfl) (PR.of hPc hKc) rfl hl.1 rfl (Nat.le_of_ble_eq_true rfl) dX0_afterStatement_218 ⟨Nat.zero_le _, Nat.zero_le _⟩ ?_
        refine lv_icmp_ne (tgt := 228) hx hb dX0_afterStatement_221 (by decide) (fun c221_13 => ?_) (fun c221_13 => ?_)
        · have c221_13 : ¬ (bitsN sx (8 + 2 * (nu0 ((bitsN sx 16 3) * 4 + 0))) 2 = nu0 ((bitsN sx 16 3) * 4 + 1)) := fun h9 => c221_13 ((nI_eqG (a := bitsN sx (8 + 2 * (nu0 ((bitsN sx 16 3) * 4 + 0))) 2) (b := nu0 ((bitsN sx 16 3) * 4 + 1)) (by omega) (by omega)).mpr h9)
          refine lv_iconst (v := nI 0) hx hb dX0_afterStatement_228 (by decide) ?_
          refine lv_istore (lv' := [(9, .int (nI 0)), (7, .long (lN (withN sx 16 3 (bitsN sx 16 3 + 1)))), (6, .int (nI (bitsN sx (22) 9))), (5, .ref pa0), (4, .int (nI (bitsN sx 16 3))), (0, .ref ma), (1, .long (lN sx)), (3, .int (nI 0))]) hx hb dX0_afterStatement_229 hl (by decide) rfl (fun ls hl => ?_)
          refine lv_iload hx hb dX0_afterStatement_231 (lv_at hl 0 rfl) ?_
          refine lv_if_eq (tgt := 259) hx hb dX0_afterStatement_233 (by decide) (fun c233_14 => ?_) (fun c233_14 => absurd (by decide) c233_14)
          refine lv_lload hx hb dX0_afterStatement_259 (lv_at hl 1 rfl) ?_
          subst hQ
          exact rtl hx hb hr hlocks rfl (by first | (unfold stmtC; unfold stmtC2; (try first | rw [if_pos c29_2] | rw [if_neg c29_2]); (try first | rw [if_pos c37_3] | rw [if_neg c37_3]); (try rw [c71_6]); (try first | rw [if_pos c221_13] | rw [if_neg c221_13]); (try rfl); done) | (exfalso; omega)) dX0_afterStatement_261
        · have c221_13 : bitsN sx (8 + 2 * (nu0 ((bitsN sx 16 3) * 4 + 0))) 2 = nu0 ((bitsN sx 16 3) * 4 + 1) := (nI_eqG (a := bitsN sx (8 + 2 * (nu0 ((bitsN sx 16 3) * 4 + 0))) 2) (b := nu0 ((bitsN sx 16 3) * 4 + 1)) (by omega) (by omega)).mp c221_13
          refine lv_iconst (v := nI 1) hx hb dX0_afterStatement_224 (by decide) ?_
          refine lv_goto (tgt := 229) hx hb dX0_afterStatement_225 (by decide) ?_
          refine lv_istore (lv' := [(9, .int (nI 1)), (7, .long (lN (withN sx 16 3 (bitsN sx 16 3 + 1)))), (6, .int (nI (bitsN sx (22) 9))), (5, .ref pa0), (4, .int (nI (bitsN sx 16 3))), (0, .ref ma), (1, .long (lN sx)), (3, .int (nI 0))]) hx hb dX0_afterStatement_229 hl (by decide) rfl (fun ls hl => ?_)
          refine lv_iload hx hb dX0_afterStatement_231 (lv_at hl 0 rfl) ?_
          refine lv_if_eq (tgt := 259) hx hb dX0_afterStatement_233 (by decide) (fun c233_15 => absurd c233_15 (by decide)) (fun c233_15 => ?_)
          refine lv_lload hx hb dX0_afterStatement_236 (lv_at hl 1 rfl) ?_
          refine lv_bipush (v := nI 16) hx hb dX0_afterStatement_238 (by decide) ?_
          refine lv_iconst (v := nI 3) hx hb dX0_afterStatement_240 (by decide) ?_
          refine lv_iload_n hx hb dX0_afterStatement_241 rfl (lv_at hl 7 rfl) ?_
          refine lv_imul hx hb dX0_afterStatement_242 ?_
          refine lv_topE (nI 0) (pk_mul _ _) ?_
          refine lv_iadd hx hb dX0_afterStatement_243 ?_
          refine lv_topE (nI 16) (nI_add _ _) ?_
          refine lv_bipush (v := nI 7) hx hb dX0_afterStatement_244 (by decide) ?_
          refine lv_aload hx hb dX0_afterStatement_246 (lv_at hl 3 rfl) ?_
          refine lv_iload hx hb dX0_afterStatement_248 (lv_at hl 4 rfl) ?_
          have hPc := hP.sub (ws' := [(pa0, .inr (1, [.int (nI n0), .ref pb0, .ref pc0])), (pb0, .inl (kb0, 8, .inl (nA so0))), (pc0, .inl (kc0, 32, .inl (nA nu0)))]) [4, 5, 6] rfl
          have hKc := hK.sub (tys' := [(kb0, .int), (kc0, .int)]) [3, 4] rfl
          refine cVi (As := [.int (nI (bitsN sx 16 3))]) (rest := [.int (nI 7), .int (nI 16), .long (lN (withN sx 16 3 (bitsN sx 16 3 + 1)))]) ⟨hx, hb, hml, hown, hts⟩ (c_X1_placeBehindIf l D pa0 pb0 pc0 kb0 kc0 n0 so0 nu0 (bitsN sx 16 3) (by omega) (by omega) (by omega)) (cwV 1 hts (gV mU_426 mU_427 mU_428 mU_22 mU_429) rfl rfl rfl (by decide +kernel) ⟨Nat.le_of_ble_eq_true rfl, Nat.le_of_ble_eq_true rfl⟩) fbR (va_recv hK hP (ci := 1) (q0 := 4) rfl rfl) (PR.of hPc hKc) rfl hl.1 rfl (Nat.le_of_ble_eq_true rfl) dX0_afterStatement_250 ⟨Nat.zero_le _, Nat.zero_le _⟩ ?_
          have hmin : (if n0 < bitsN sx 16 3 + 1 + nu0 ((bitsN sx 16 3) * 4 + 2) then n0 else bitsN sx 16 3 + 1 + nu0 ((bitsN sx 16 3) * 4 + 2)) ≤ n0 := by split <;> omega
          refine cSl (As := [.long (lN (withN sx 16 3 (bitsN sx 16 3 + 1))), .int (nI 16), .int (nI 7), .int (nI (if n0 < (bitsN sx 16 3) + 1 + nu0 ((bitsN sx 16 3) * 4 + 2) then n0 else (bitsN sx 16 3) + 1 + nu0 ((bitsN sx 16 3) * 4 + 2)))]) (rest := []) ⟨hx, hb, hml, hown, hts⟩ (c_X0_with l  (withN sx 16 3 (bitsN sx 16 3 + 1)) 16 3 (if n0 < (bitsN sx 16 3) + 1 + nu0 ((bitsN sx 16 3) * 4 + 2) then n0 else (bitsN sx 16 3) + 1 + nu0 ((bitsN sx 16 3) * 4 + 2)) (by omega) (by omega) (by omega) (by omega) (by omega)) (va_cwS 4 hts (gS mU_420 mU_421 mU_27 mU_422) rfl rfl rfl (by decide +kernel) ⟨Nat.le_of_ble_eq_true rfl, Nat.le_of_ble_eq_true rfl⟩) fbU (fun _ _ _ => trivial) rfl hl.1 rfl (Nat.le_of_ble_eq_true rfl) dX0_afterStatement_253 ⟨Nat.zero_le _, Nat.zero_le _⟩ ?_
          have hf_16 : withN (withN sx 16 3 (bitsN sx 16 3 + 1)) 16 3 (if n0 < (bitsN sx 16 3) + 1 + nu0 ((bitsN sx 16 3) * 4 + 2) then n0 else (bitsN sx 16 3) + 1 + nu0 ((bitsN sx 16 3) * 4 + 2)) < 2 ^ 44 := withN_lt (by omega) (by omega) (by omega)
          refine lv_goto (tgt := 261) hx hb dX0_afterStatement_256 (by decide) ?_
          subst hQ
          exact rtl hx hb hr hlocks rfl (by first | (unfold stmtC; unfold stmtC2; (try first | rw [if_pos c29_2] | rw [if_neg c29_2]); (try first | rw [if_pos c37_3] | rw [if_neg c37_3]); (try rw [c71_6]); (try first | rw [if_pos c221_13] | rw [if_neg c221_13]); (try rfl); done) | (exfalso; omega)) dX0_afterStatement_261
      · refine lv_tableOut (tgt := 262) hx hb dX0_afterStatement_71 (by rw [nI_toInt (show so0 (bitsN sx 16 3) < 2 ^ 31 by omega)]; omega) (by decide) ?_
        have n71_4 : ¬ (so0 (bitsN sx 16 3) = 4) := by omega
        have n71_5 : ¬ (so0 (bitsN sx 16 3) = 5) := by omega
        have n71_6 : ¬ (so0 (bitsN sx 16 3) = 6) := by omega
        have n71_7 : ¬ (so0 (bitsN sx 16 3) = 7) := by omega
        have n71_8 : ¬ (so0 (bitsN sx 16 3) = 8) := by omega
        refine lv_lload hx hb dX0_afterStatement_262 (lv_at hl 0 rfl) ?_
        refine lv_iload_n hx hb dX0_afterStatement_264 rfl (lv_at hl 6 rfl) ?_
        refine lv_iload hx hb dX0_afterStatement_265 (lv_at hl 1 rfl) ?_
        refine lv_iload hx hb dX0_afterStatement_267 (lv_at hl 3 rfl) ?_
        refine cSl (As := [.long (lN (withN sx 16 3 (bitsN sx 16 3 + 1))), .int (nI 0), .int (nI (bitsN sx (22) 9)), .int (nI (bitsN sx 16 3))]) (rest := []) ⟨hx, hb, hml, hown, hts⟩ (c_X0_withWish l  (withN sx 16 3 (bitsN sx 16 3 + 1)) 0 (bitsN sx (22) 9) (bitsN sx 16 3) (by omega) (by omega) (by omega) (by omega)) (va_cwS 4 hts (gS mU_432 mU_433 mU_27 mU_434) rfl rfl rfl (by decide +kernel) ⟨Nat.le_of_ble_eq_true rfl, Nat.le_of_ble_eq_true rfl⟩) fbU (fun _ _ _ => trivial) rfl hl.1 rfl (Nat.le_of_ble_eq_true rfl) dX0_afterStatement_269 ⟨Nat.zero_le _, Nat.zero_le _⟩ ?_
        subst hQ
        exact rtl hx hb hr hlocks rfl (by first | (unfold stmtC; unfold stmtC2; (try first | rw [if_pos c29_2] | rw [if_neg c29_2]); (try first | rw [if_pos c37_3] | rw [if_neg c37_3]); (try rw [if_neg n71_4, if_neg n71_5, if_neg n71_6, if_neg n71_7, if_neg n71_8]); (try rfl); done) | (exfalso; omega)) dX0_afterStatement_272
    · have c37_3 : ¬ bitsN sx (40) 1 = 0 ∨ ¬ bitsN sx (42) 1 = 0 := bP_t c37_3
      refine lv_ldc2 (v := (-1)) hx hb hown (hU _ mU_391) dX0_afterStatement_40 ?_
      subst hQ
      exact rtl hx hb hr hlocks rfl (by first | (unfold stmtC; unfold stmtC2; (try first | rw [if_pos c29_2] | rw [if_neg c29_2]); (try first | rw [if_pos c37_3] | rw [if_neg c37_3]); (try rfl); done) | (exfalso; omega)) dX0_afterStatement_43

set_option maxHeartbeats 4000000 in
set_option maxRecDepth 100000 in
theorem c_X0_afterStatement1 (l : Launch) (D : va_G) (ma mb mc md : Nat) (k0 k1 k2 : ClassId) (mf : Nat) (wo ri : Nat → Nat) (pa0 pb0 pc0 : Nat) (kb0 kc0 : ClassId) (n0 : Nat) (so0 nu0 : Nat → Nat) (pa1 pb1 pc1 : Nat) (kb1 kc1 : ClassId) (n1 : Nat) (so1 nu1 : Nat → Nat) (sx : Nat) (hsx : sx < 2 ^ 44) (hn : n1 ≤ 7) (hso : ∀ j, so1 j < 2147483648) (hok : ∀ i, i < n1 → okS (so1 i) (nu1 (i * 4 + 0)) (nu1 (i * 4 + 1)) (nu1 (i * 4 + 2)) (nu1 (i * 4 + 3))) : Met l yX0_afterStatement (.code yX0_afterStatement cX0_afterStatement 10 (some .long) :: wsL_law) ({ frames := 3, cells := 0, slots := 0, locals := 65 }) (va_Pc [.ref ma, .long (lN sx), .int (nI 1)] (PR D (kW ma mb mc md k0 k1 k2 mf wo ri pa0 pb0 pc0 kb0 kc0 n0 so0 nu0 pa1 pb1 pc1 kb1 kc1 n1 so1 nu1) (kT k0 k1 k2 kb0 kc0 kb1 kc1))) (QrL (eO (stmtC so1 nu1 n1 sx 1))) 0 0 (fun _ => False) := by
  refine Met.ofW (cc := cX0_afterStatement) (maxL := 10) (ret := (some .long)) (by decide) rfl ?_
  intro p e s m args below meth c s₁ B hml hv
  obtain ⟨rfl, hP, hK⟩ := hv
  have hx := B.exec
  have hb := B.bytes
  have hr := B.returns
  have hts := atoms_spec (ws := .code yX0_afterStatement cX0_afterStatement 10 (some .long) :: wsL_law) B.pre
  have hU : ∀ w ∈ wsL_law, w.before _ s = true := fun w h => hts w (List.mem_cons_of_mem _ h)
  have hown : s.vm.findClass RX0 = some m.cls := findClass_of_methodNamed B.named
  have hlocks := B.notSynchronized
  generalize hQ : MQ _ _ _ _ _ _ _ = Q
  have hl := lv_entry ([.ref ma, .long (lN sx), .int (nI 1)]) (n := 10) (Nat.le_of_ble_eq_true rfl)
  rw [lg_entry_eq]
  generalize (lg_sl ([.ref ma, .long (lN sx), .int (nI 1)]) ++ List.replicate (10 - (lg_sl ([.ref ma, .long (lN sx), .int (nI 1)])).length) Slot.unset).toArray = ls at hl ⊢
  have hl : lv_has ls 10 [(0, .ref ma), (1, .long (lN sx)), (3, .int (nI 1))] := hl
  refine lv_lload_n hx hb dX0_afterStatement_0 rfl (lv_at hl 1 rfl) ?_
  refine lv_bipush (v := nI 16) hx hb dX0_afterStatement_1 (by decide) ?_
  refine lv_iconst (v := nI 3) hx hb dX0_afterStatement_3 (by decide) ?_
  refine lv_iload_n hx hb dX0_afterStatement_4 rfl (lv_at hl 2 rfl) ?_
  refine lv_imul hx hb dX0_afterStatement_5 ?_
  refine lv_topE (nI 3) (pk_mul _ _) ?_
  refine lv_iadd hx hb dX0_afterStatement_6 ?_
  refine lv_topE (nI 19) (nI_add _ _) ?_
  refine lv_bipush (v := nI 7) hx hb dX0_afterStatement_7 (by decide) ?_
  refine cSi (As := [.long (lN sx), .int (nI 19), .int (nI 7)]) (rest := []) ⟨hx, hb, hml, hown, hts⟩ (c_X0_bits l  sx 19 3 (by omega) (by omega)) (va_cwS 3 hts (gS mU_398 mU_399 mU_27 mU_400) rfl rfl rfl (by decide +kernel) ⟨Nat.le_of_ble_eq_true rfl, Nat.le_of_ble_eq_true rfl⟩) fbU (fun _ _ _ => trivial) rfl hl.1 rfl (Nat.le_of_ble_eq_true rfl) dX0_afterStatement_9 ⟨Nat.zero_le _, Nat.zero_le _⟩ ?_
  have hf_1 : bitsN sx 19 3 < 2 ^ 3 := bitsN_lt _ _ _
  refine lv_istore (lv' := [(4, .int (nI (bitsN sx 19 3))), (0, .ref ma), (1, .long (lN sx)), (3, .int (nI 1))]) hx hb dX0_afterStatement_12 hl (by decide) rfl (fun ls hl => ?_)
  refine lv_aload_n hx hb dX0_afterStatement_14 rfl (lv_at hl 1 rfl) ?_
  refine va_get (D := D) (ci := 0) (v := .ref mb) (C := RX0) (T := TX0) (N := 4) hx hb hU iX0 hown hK hP 0 rfl rfl 0 (by decide) (hU _ mU_54) (fun _ h9 => h9) rfl dX0_afterStatement_15 ?_
  refine lv_iload_n hx hb dX0_afterStatement_18 rfl (lv_at hl 3 rfl) ?_
  refine va_aldq hx hb hK hP 1 0 rfl rfl (vp_in_nI (n := 1) (by decide) (by decide)) dX0_afterStatement_19 ?_
  refine W.eq (g2 := F0 m 20 ls [.ref pa1]) (by rw [nI_clamp (show 1 < 2 ^ 31 by decide)]; rfl) ?_
  refine lv_astore (lv' := [(5, .ref pa1), (4, .int (nI (bitsN sx 19 3))), (0, .ref ma), (1, .long (lN sx)), (3, .int (nI 1))]) hx hb dX0_afterStatement_20 hl (by decide) rfl (fun ls hl => ?_)
  refine lv_iload hx hb dX0_afterStatement_22 (lv_at hl 1 rfl) ?_
  refine lv_aload hx hb dX0_afterStatement_24 (lv_at hl 0 rfl) ?_
  refine va_get (D := D) (ci := 1) (v := .int (nI n1)) (C := RX1) (T := TX1) (N := 3) hx hb hU iX1 hown hK hP 7 rfl rfl 0 (by decide) (hU _ mU_396) (fun _ h9 => h9) rfl dX0_afterStatement_26 ?_
  refine lv_icmp_ge (tgt := 40) hx hb dX0_afterStatement_29 (by decide) (fun c29_2 => ?_) (fun c29_2 => ?_)
  · have c29_2 : n1 ≤ bitsN sx 19 3 := (nI_leI (a := n1) (b := bitsN sx 19 3) (by omega) (by omega)).mp c29_2
    refine lv_ldc2 (v := (-1)) hx hb hown (hU _ mU_391) dX0_afterStatement_40 ?_
    subst hQ
    exact rtl hx hb hr hlocks rfl (by first | (unfold stmtC; unfold stmtC2; (try first | rw [if_pos c29_2] | rw [if_neg c29_2]); (try rfl); done) | (exfalso; omega)) dX0_afterStatement_43
  · have c29_2 : ¬ (n1 ≤ bitsN sx 19 3) := fun h9 => c29_2 ((nI_leI (a := n1) (b := bitsN sx 19 3) (by omega) (by omega)).mpr h9)
    refine lv_lload_n hx hb dX0_afterStatement_32 rfl (lv_at hl 3 rfl) ?_
    refine lv_iload_n hx hb dX0_afterStatement_33 rfl (lv_at hl 4 rfl) ?_
    refine cSi (As := [.long (lN sx), .int (nI 1)]) (rest := []) ⟨hx, hb, hml, hown, hts⟩ (c_X0_isStopped l  sx 1 (by omega) (by omega)) (va_cwS 2 hts (gS mU_401 mU_402 mU_27 mU_403) rfl rfl rfl (by decide +kernel) ⟨Nat.le_of_ble_eq_true rfl, Nat.le_of_ble_eq_true rfl⟩) fbU (fun _ _ _ => trivial) rfl hl.1 rfl (Nat.le_of_ble_eq_true rfl) dX0_afterStatement_34 ⟨Nat.zero_le _, Nat.zero_le _⟩ ?_
    refine lv_if_eq (tgt := 44) hx hb dX0_afterStatement_37 (by decide) (fun c37_3 => ?_) (fun c37_3 => ?_)
    · have c37_3 : ¬ (¬ bitsN sx (41) 1 = 0 ∨ ¬ bitsN sx (43) 1 = 0) := bP_f c37_3
      refine lv_lload_n hx hb dX0_afterStatement_44 rfl (lv_at hl 3 rfl) ?_
      refine lv_iload_n hx hb dX0_afterStatement_45 rfl (lv_at hl 4 rfl) ?_
      refine cSi (As := [.long (lN sx), .int (nI 1)]) (rest := []) ⟨hx, hb, hml, hown, hts⟩ (c_X0_queueOf l  sx 1 (by omega) (by omega)) (va_cwS 2 hts (gS mU_404 mU_405 mU_27 mU_406) rfl rfl rfl (by decide +kernel) ⟨Nat.le_of_ble_eq_true rfl, Nat.le_of_ble_eq_true rfl⟩) fbU (fun _ _ _ => trivial) rfl hl.1 rfl (Nat.le_of_ble_eq_true rfl) dX0_afterStatement_46 ⟨Nat.zero_le _, Nat.zero_le _⟩ ?_
      have hf_4 : bitsN sx (31) 9 < 512 := bitsN_lt _ _ _
      refine lv_istore (lv' := [(6, .int (nI (bitsN sx (31) 9))), (5, .ref pa1), (4, .int (nI (bitsN sx 19 3))), (0, .ref ma), (1, .long (lN sx)), (3, .int (nI 1))]) hx hb dX0_afterStatement_49 hl (by decide) rfl (fun ls hl => ?_)
      refine lv_lload_n hx hb dX0_afterStatement_51 rfl (lv_at hl 4 rfl) ?_
      refine lv_lconst (v := lN 1) hx hb dX0_afterStatement_52 rfl ?_
      refine lv_bipush (v := nI 16) hx hb dX0_afterStatement_53 (by decide) ?_
      refine lv_iconst (v := nI 3) hx hb dX0_afterStatement_55 (by decide) ?_
      refine lv_iload_n hx hb dX0_afterStatement_56 rfl (lv_at hl 5 rfl) ?_
      refine lv_imul hx hb dX0_afterStatement_57 ?_
      refine lv_topE (nI 3) (pk_mul _ _) ?_
      refine lv_iadd hx hb dX0_afterStatement_58 ?_
      refine lv_topE (nI 19) (nI_add _ _) ?_
      refine lv_lshl hx hb dX0_afterStatement_59 rfl ?_
      refine lv_ladd hx hb dX0_afterStatement_60 ?_
      refine lv_topEl (lN (withN sx 19 3 (bitsN sx 19 3 + 1))) (z_next1 (by omega) (by omega)) ?_
      have hnx : withN sx 19 3 (bitsN sx 19 3 + 1) < 2 ^ 44 := withN_lt (by omega) (by omega) (by omega)
      have hso9 := (hok (bitsN sx 19 3) (by omega)).1
      refine lv_lstore (lv' := [(7, .long (lN (withN sx 19 3 (bitsN sx 19 3 + 1)))), (6, .int (nI (bitsN sx (31) 9))), (5, .ref pa1), (4, .int (nI (bitsN sx 19 3))), (0, .ref ma), (1, .long (lN sx)), (3, .int (nI 1))]) hx hb dX0_afterStatement_61 hl (by decide) rfl (fun ls hl => ?_)
      refine lv_aload hx hb dX0_afterStatement_63 (lv_at hl 2 rfl) ?_
      refine va_get (D := D) (ci := 1) (v := .ref pb1) (C := RX1) (T := TX1) (N := 3) hx hb hU iX1 hown hK hP 7 rfl rfl 1 (by decide) (hU _ mU_397) (fun _ h9 => h9) rfl dX0_afterStatement_65 ?_
      refine lv_iload hx hb dX0_afterStatement_68 (lv_at hl 3 rfl) ?_
      refine n_iald hx hb hK hP 8 5 rfl rfl (i := bitsN sx 19 3) (by omega) (by decide) dX0_afterStatement_70 ?_
      have hb_5 := hso  (bitsN sx 19 3)
      rcases (show so1 (bitsN sx 19 3) = 4 ∨ so1 (bitsN sx 19 3) = 5 ∨ so1 (bitsN sx 19 3) = 6 ∨ so1 (bitsN sx 19 3) = 7 ∨ so1 (bitsN sx 19 3) = 8 ∨ (so1 (bitsN sx 19 3) < 4 ∨ 8 < so1 (bitsN sx 19 3)) by omega) with c71_6 | c71_6 | c71_6 | c71_6 | c71_6 | c71_6
      · have hx9 : (nI (so1 (bitsN sx 19 3))).toInt = 4 := by rw [nI_toInt (show so1 (bitsN sx 19 3) < 2 ^ 31 by omega)]; omega
        refine lv_tableIn (tgt := 104) (off := 33) hx hb dX0_afterStatement_71 (by rw [hx9]; decide) (by rw [hx9]; decide) (by rw [hx9]; rfl) (by decide) ?_
        refine lv_aload hx hb dX0_afterStatement_104 (lv_at hl 2 rfl) ?_
        refine lv_iload hx hb dX0_afterStatement_106 (lv_at hl 1 rfl) ?_
        have hPc := hP.sub (ws' := [(pa1, .inr (1, [.int (nI n1), .ref pb1, .ref pc1])), (pb1, .inl (kb1, 8, .inl (nA so1))), (pc1, .inl (kc1, 32, .inl (nA nu1)))]) [7, 8, 9] rfl
        have hKc := hK.sub (tys' := [(kb1, .int), (kc1, .int)]) [5, 6] rfl
        refine cSi (As := [.ref pa1, .int (nI (bitsN sx (31) 9))]) (rest := []) ⟨hx, hb, hml, hown, hts⟩ (c_X0_hasGet l D pb1 pc1 kb1 kc1 n1 so1 nu1 pa1 (bitsN sx (31) 9) (by omega) (hso)) (va_cwS 2 hts (gS mU_407 mU_408 mU_27 mU_409) rfl rfl rfl (by decide +kernel) ⟨Nat.le_of_ble_eq_true rfl, Nat.le_of_ble_eq_true rfl⟩) fbR (PR.of hPc hKc) rfl hl.1 rfl (Nat.le_of_ble_eq_true rfl) dX0_afterStatement_108 ⟨Nat.zero_le _, Nat.zero_le _⟩ ?_
        refine lv_if_eq (tgt := 120) hx hb dX0_afterStatement_111 (by decide) (fun c111_7 => ?_) (fun c111_7 => ?_)
        · have c111_7 : ¬ (hasGetC so1 (bitsN sx (31) 9)) := bP_f c111_7
          refine lv_lload hx hb dX0_afterStatement_120 (lv_at hl 0 rfl) ?_
          subst hQ
          exact rtl hx hb hr hlocks rfl (by first | (unfold stmtC; unfold stmtC2; (try first | rw [if_pos c29_2] | rw [if_neg c29_2]); (try first | rw [if_pos c37_3] | rw [if_neg c37_3]); (try rw [c71_6]); (try first | rw [if_pos c111_7] | rw [if_neg c111_7]); (try rfl); done) | (exfalso; omega)) dX0_afterStatement_122
        · have c111_7 : hasGetC so1 (bitsN sx (31) 9) := bP_t c111_7
          refine lv_ldc2 (v := (-1)) hx hb hown (hU _ mU_391) dX0_afterStatement_114 ?_
          refine lv_goto (tgt := 122) hx hb dX0_afterStatement_117 (by decide) ?_
          subst hQ
          exact rtl hx hb hr hlocks rfl (by first | (unfold stmtC; unfold stmtC2; (try first | rw [if_pos c29_2] | rw [if_neg c29_2]); (try first | rw [if_pos c37_3] | rw [if_neg c37_3]); (try rw [c71_6]); (try first | rw [if_pos c111_7] | rw [if_neg c111_7]); (try rfl); done) | (exfalso; omega)) dX0_afterStatement_122
      · have hx9 : (nI (so1 (bitsN sx 19 3))).toInt = 5 := by rw [nI_toInt (show so1 (bitsN sx 19 3) < 2 ^ 31 by omega)]; omega
        refine lv_tableIn (tgt := 123) (off := 52) hx hb dX0_afterStatement_71 (by rw [hx9]; decide) (by rw [hx9]; decide) (by rw [hx9]; rfl) (by decide) ?_
        refine lv_iload hx hb dX0_afterStatement_123 (lv_at hl 1 rfl) ?_
        refine lv_if_ne (tgt := 133) hx hb dX0_afterStatement_125 (by decide) (fun c125_8 => ?_) (fun c125_8 => ?_)
        · have c125_8 : ¬ (bitsN sx (31) 9 = 0) := fun h9 => c125_8 ((nI_eqG (a := bitsN sx (31) 9) (b := 0) (by omega) (by omega)).mpr h9)
          refine lv_ldc2 (v := (-1)) hx hb hown (hU _ mU_391) dX0_afterStatement_133 ?_
          subst hQ
          exact rtl hx hb hr hlocks rfl (by first | (unfold stmtC; unfold stmtC2; (try first | rw [if_pos c29_2] | rw [if_neg c29_2]); (try first | rw [if_pos c37_3] | rw [if_neg c37_3]); (try rw [c71_6]); (try first | rw [if_pos c125_8] | rw [if_neg c125_8]); (try rfl); done) | (exfalso; omega)) dX0_afterStatement_136
        · have c125_8 : bitsN sx (31) 9 = 0 := (nI_eqG (a := bitsN sx (31) 9) (b := 0) (by omega) (by omega)).mp c125_8
          refine lv_lload hx hb dX0_afterStatement_128 (lv_at hl 0 rfl) ?_
          refine lv_goto (tgt := 136) hx hb dX0_afterStatement_130 (by decide) ?_
          subst hQ
          exact rtl hx hb hr hlocks rfl (by first | (unfold stmtC; unfold stmtC2; (try first | rw [if_pos c29_2] | rw [if_neg c29_2]); (try first | rw [if_pos c37_3] | rw [if_neg c37_3]); (try rw [c71_6]); (try first | rw [if_pos c125_8] | rw [if_neg c125_8]); (try rfl); done) | (exfalso; omega)) dX0_afterStatement_136
      · have hx9 : (nI (so1 (bitsN sx 19 3))).toInt = 6 := by rw [nI_toInt (show so1 (bitsN sx 19 3) < 2 ^ 31 by omega)]; omega
        refine lv_tableIn (tgt := 137) (off := 66) hx hb dX0_afterStatement_71 (by rw [hx9]; decide) (by rw [hx9]; decide) (by rw [hx9]; rfl) (by decide) ?_
        have hk6 := okS_6 (hok (bitsN sx 19 3) (by omega)) c71_6
        refine lv_lload hx hb dX0_afterStatement_137 (lv_at hl 0 rfl) ?_
        refine lv_iconst (v := nI 2) hx hb dX0_afterStatement_139 (by decide) ?_
        refine lv_aload hx hb dX0_afterStatement_140 (lv_at hl 2 rfl) ?_
        refine lv_iload hx hb dX0_afterStatement_142 (lv_at hl 3 rfl) ?_
        refine lv_iconst (v := nI 0) hx hb dX0_afterStatement_144 (by decide) ?_
        have hPc := hP.sub (ws' := [(pa1, .inr (1, [.int (nI n1), .ref pb1, .ref pc1])), (pb1, .inl (kb1, 8, .inl (nA so1))), (pc1, .inl (kc1, 32, .inl (nA nu1)))]) [7, 8, 9] rfl
        have hKc := hK.sub (tys' := [(kb1, .int), (kc1, .int)]) [5, 6] rfl
        refine cVi (As := [.int (nI (bitsN sx 19 3)), .int (nI 0)]) (rest := [.int (nI 2), .long (lN (withN sx 19 3 (bitsN sx 19 3 + 1)))]) ⟨hx, hb, hml, hown, hts⟩ (c_X1_number l D pa1 pb1 pc1 kb1 kc1 n1 so1 nu1 (bitsN sx 19 3) 0 (by omega)) (cwV 2 hts (gV mU_416 mU_417 mU_418 mU_22 mU_419) rfl rfl rfl (by decide +kernel) ⟨Nat.le_of_ble_eq_true rfl, Nat.le_of_ble_eq_true rfl⟩) fbR (va_recv hK hP (ci := 1) (q0 := 7) rfl rfl) (PR.of hPc hKc) rfl hl.1 rfl (Nat.le_of_ble_eq_true rfl) dX0_afterStatement_145 ⟨Nat.zero_le _, Nat.zero_le _⟩ ?_
        refine lv_imul hx hb dX0_afterStatement_148 ?_
        refine lv_topE (nI (2 * (nu1 ((bitsN sx 19 3) * 4 + 0)))) (pk_mul _ _) ?_
        refine lv_iconst (v := nI 3) hx hb dX0_afterStatement_149 (by decide) ?_
        refine lv_aload hx hb dX0_afterStatement_150 (lv_at hl 2 rfl) ?_
        refine lv_iload hx hb dX0_afterStatement_152 (lv_at hl 3 rfl) ?_
        refine lv_iconst (v := nI 1) hx hb dX0_afterStatement_154 (by decide) ?_
        have hPc := hP.sub (ws' := [(pa1, .inr (1, [.int (nI n1), .ref pb1, .ref pc1])), (pb1, .inl (kb1, 8, .inl (nA so1))), (pc1, .inl (kc1, 32, .inl (nA nu1)))]) [7, 8, 9] rfl
        have hKc := hK.sub (tys' := [(kb1, .int), (kc1, .int)]) [5, 6] rfl
        refine cVi (As := [.int (nI (bitsN sx 19 3)), .int (nI 1)]) (rest := [.int (nI 3), .int (nI (2 * (nu1 ((bitsN sx 19 3) * 4 + 0)))), .long (lN (withN sx 19 3 (bitsN sx 19 3 + 1)))]) ⟨hx, hb, hml, hown, hts⟩ (c_X1_number l D pa1 pb1 pc1 kb1 kc1 n1 so1 nu1 (bitsN sx 19 3) 1 (by omega)) (cwV 2 hts (gV mU_416 mU_417 mU_418 mU_22 mU_419) rfl rfl rfl (by decide +kernel) ⟨Nat.le_of_ble_eq_true rfl, Nat.le_of_ble_eq_true rfl⟩) fbR (va_recv hK hP (ci := 1) (q0 := 7) rfl rfl) (PR.of hPc hKc) rfl hl.1 rfl (Nat.le_of_ble_eq_true rfl) dX0_afterStatement_155 ⟨Nat.zero_le _, Nat.zero_le _⟩ ?_
        refine cSl (As := [.long (lN (withN sx 19 3 (bitsN sx 19 3 + 1))), .int (nI (2 * (nu1 ((bitsN sx 19 3) * 4 + 0)))), .int (nI 3), .int (nI (nu1 ((bitsN sx 19 3) * 4 + 1)))]) (rest := []) ⟨hx, hb, hml, hown, hts⟩ (c_X0_with l  (withN sx 19 3 (bitsN sx 19 3 + 1)) (2 * (nu1 ((bitsN sx 19 3) * 4 + 0))) 2 (nu1 ((bitsN sx 19 3) * 4 + 1)) (by omega) (by omega) (by omega) (by omega) (by omega)) (va_cwS 4 hts (gS mU_420 mU_421 mU_27 mU_422) rfl rfl rfl (by decide +kernel) ⟨Nat.le_of_ble_eq_true rfl, Nat.le_of_ble_eq_true rfl⟩) fbU (fun _ _ _ => trivial) rfl hl.1 rfl (Nat.le_of_ble_eq_true rfl) dX0_afterStatement_158 ⟨Nat.zero_le _, Nat.zero_le _⟩ ?_
        have hf_9 : withN (withN sx 19 3 (bitsN sx 19 3 + 1)) (2 * (nu1 ((bitsN sx 19 3) * 4 + 0))) 2 (nu1 ((bitsN sx 19 3) * 4 + 1)) < 2 ^ 44 := withN_lt (by omega) (by omega) (by omega)
        subst hQ
        exact rtl hx hb hr hlocks rfl (by first | (unfold stmtC; unfold stmtC2; (try first | rw [if_pos c29_2] | rw [if_neg c29_2]); (try first | rw [if_pos c37_3] | rw [if_neg c37_3]); (try rw [c71_6]); (try rfl); done) | (exfalso; omega)) dX0_afterStatement_161
      · have hx9 : (nI (so1 (bitsN sx 19 3))).toInt = 7 := by rw [nI_toInt (show so1 (bitsN sx 19 3) < 2 ^ 31 by omega)]; omega
        refine lv_tableIn (tgt := 162) (off := 91) hx hb dX0_afterStatement_71 (by rw [hx9]; decide) (by rw [hx9]; decide) (by rw [hx9]; rfl) (by decide) ?_
        have hk7 := okS_7 (hok (bitsN sx 19 3) (by omega)) c71_6
        refine lv_lload hx hb dX0_afterStatement_162 (lv_at hl 0 rfl) ?_
        refine lv_iload_n hx hb dX0_afterStatement_164 rfl (lv_at hl 6 rfl) ?_
        refine lv_aload hx hb dX0_afterStatement_165 (lv_at hl 2 rfl) ?_
        refine lv_iload hx hb dX0_afterStatement_167 (lv_at hl 3 rfl) ?_
        refine lv_iconst (v := nI 1) hx hb dX0_afterStatement_169 (by decide) ?_
        have hPc := hP.sub (ws' := [(pa1, .inr (1, [.int (nI n1), .ref pb1, .ref pc1])), (pb1, .inl (kb1, 8, .inl (nA so1))), (pc1, .inl (kc1, 32, .inl (nA nu1)))]) [7, 8, 9] rfl
        have hKc := hK.sub (tys' := [(kb1, .int), (kc1, .int)]) [5, 6] rfl
        refine cVi (As := [.int (nI (bitsN sx 19 3)), .int (nI 1)]) (rest := [.int (nI 1), .long (lN (withN sx 19 3 (bitsN sx 19 3 + 1)))]) ⟨hx, hb, hml, hown, hts⟩ (c_X1_number l D pa1 pb1 pc1 kb1 kc1 n1 so1 nu1 (bitsN sx 19 3) 1 (by omega)) (cwV 2 hts (gV mU_416 mU_417 mU_418 mU_22 mU_419) rfl rfl rfl (by decide +kernel) ⟨Nat.le_of_ble_eq_true rfl, Nat.le_of_ble_eq_true rfl⟩) fbR (va_recv hK hP (ci := 1) (q0 := 7) rfl rfl) (PR.of hPc hKc) rfl hl.1 rfl (Nat.le_of_ble_eq_true rfl) dX0_afterStatement_170 ⟨Nat.zero_le _, Nat.zero_le _⟩ ?_
        refine cSi (As := [.int (nI 1), .int (nI (nu1 ((bitsN sx 19 3) * 4 + 1)))]) (rest := [.long (lN (withN sx 19 3 (bitsN sx 19 3 + 1)))]) ⟨hx, hb, hml, hown, hts⟩ (c_X0_registerAt l  1 (nu1 ((bitsN sx 19 3) * 4 + 1)) ) (va_cwS 2 hts (gS mU_423 mU_424 mU_27 mU_425) rfl rfl rfl (by decide +kernel) ⟨Nat.le_of_ble_eq_true rfl, Nat.le_of_ble_eq_true rfl⟩) fbU (fun _ _ _ => trivial) rfl hl.1 rfl (Nat.le_of_ble_eq_true rfl) dX0_afterStatement_173 ⟨Nat.zero_le _, Nat.zero_le _⟩ ?_
        refine lv_iconst (v := nI 3) hx hb dX0_afterStatement_176 (by decide) ?_
        refine lv_lload_n hx hb dX0_afterStatement_177 rfl (lv_at hl 5 rfl) ?_
        refine lv_iconst (v := nI 2) hx hb dX0_afterStatement_178 (by decide) ?_
        refine lv_aload hx hb dX0_afterStatement_179 (lv_at hl 2 rfl) ?_
        refine lv_iload hx hb dX0_afterStatement_181 (lv_at hl 3 rfl) ?_
        refine lv_iconst (v := nI 0) hx hb dX0_afterStatement_183 (by decide) ?_
        have hPc := hP.sub (ws' := [(pa1, .inr (1, [.int (nI n1), .ref pb1, .ref pc1])), (pb1, .inl (kb1, 8, .inl (nA so1))), (pc1, .inl (kc1, 32, .inl (nA nu1)))]) [7, 8, 9] rfl
        have hKc := hK.sub (tys' := [(kb1, .int), (kc1, .int)]) [5, 6] rfl
        refine cVi (As := [.int (nI (bitsN sx 19 3)), .int (nI 0)]) (rest := [.int (nI 2), .long (lN sx), .int (nI 3), .int (nI (12 + 2 * (nu1 ((bitsN sx 19 3) * 4 + 1)))), .long (lN (withN sx 19 3 (bitsN sx 19 3 + 1)))]) ⟨hx, hb, hml, hown, hts⟩ (c_X1_number l D pa1 pb1 pc1 kb1 kc1 n1 so1 nu1 (bitsN sx 19 3) 0 (by omega)) (cwV 2 hts (gV mU_416 mU_417 mU_418 mU_22 mU_419) rfl rfl rfl (by decide +kernel) ⟨Nat.le_of_ble_eq_true rfl, Nat.le_of_ble_eq_true rfl⟩) fbR (va_recv hK hP (ci := 1) (q0 := 7) rfl rfl) (PR.of hPc hKc) rfl hl.1 rfl (Nat.le_of_ble_eq_true rfl) dX0_afterStatement_184 ⟨Nat.zero_le _, Nat.zero_le _⟩ ?_
        refine lv_imul hx hb dX0_afterStatement_187 ?_
        refine lv_topE (nI (2 * (nu1 ((bitsN sx 19 3) * 4 + 0)))) (pk_mul _ _) ?_
        refine lv_iconst (v := nI 3) hx hb dX0_afterStatement_188 (by decide) ?_
        refine cSi (As := [.long (lN sx), .int (nI (2 * (nu1 ((bitsN sx 19 3) * 4 + 0)))), .int (nI 3)]) (rest := [.int (nI 3), .int (nI (12 + 2 * (nu1 ((bitsN sx 19 3) * 4 + 1)))), .long (lN (withN sx 19 3 (bitsN sx 19 3 + 1)))]) ⟨hx, hb, hml, hown, hts⟩ (c_X0_bits l  sx (2 * (nu1 ((bitsN sx 19 3) * 4 + 0))) 2 (by omega) (by omega)) (va_cwS 3 hts (gS mU_398 mU_399 mU_27 mU_400) rfl rfl rfl (by decide +kernel) ⟨Nat.le_of_ble_eq_true rfl, Nat.le_of_ble_eq_true rfl⟩) fbU (fun _ _ _ => trivial) rfl hl.1 rfl (Nat.le_of_ble_eq_true rfl) dX0_afterStatement_189 ⟨Nat.zero_le _, Nat.zero_le _⟩ ?_
        have hf_10 : bitsN sx (2 * (nu1 ((bitsN sx 19 3) * 4 + 0))) 2 < 2 ^ 2 := bitsN_lt _ _ _
        refine cSl (As := [.long (lN (withN sx 19 3 (bitsN sx 19 3 + 1))), .int (nI (12 + 2 * (nu1 ((bitsN sx 19 3) * 4 + 1)))), .int (nI 3), .int (nI (bitsN sx (2 * (nu1 ((bitsN sx 19 3) * 4 + 0))) 2))]) (rest := []) ⟨hx, hb, hml, hown, hts⟩ (c_X0_with l  (withN sx 19 3 (bitsN sx 19 3 + 1)) (12 + 2 * (nu1 ((bitsN sx 19 3) * 4 + 1))) 2 (bitsN sx (2 * (nu1 ((bitsN sx 19 3) * 4 + 0))) 2) (by omega) (by omega) (by omega) (by omega) (by omega)) (va_cwS 4 hts (gS mU_420 mU_421 mU_27 mU_422) rfl rfl rfl (by decide +kernel) ⟨Nat.le_of_ble_eq_true rfl, Nat.le_of_ble_eq_true rfl⟩) fbU (fun _ _ _ => trivial) rfl hl.1 rfl (Nat.le_of_ble_eq_true rfl) dX0_afterStatement_192 ⟨Nat.zero_le _, Nat.zero_le _⟩ ?_
        have hf_11 : withN (withN sx 19 3 (bitsN sx 19 3 + 1)) (12 + 2 * (nu1 ((bitsN sx 19 3) * 4 + 1))) 2 (bitsN sx (2 * (nu1 ((bitsN sx 19 3) * 4 + 0))) 2) < 2 ^ 44 := withN_lt (by omega) (by omega) (by omega)
        subst hQ
        exact rtl hx hb hr hlocks rfl (by first | (unfold stmtC; unfold stmtC2; (try first | rw [if_pos c29_2] | rw [if_neg c29_2]); (try first | rw [if_pos c37_3] | rw [if_neg c37_3]); (try rw [c71_6]); (try rfl); done) | (exfalso; omega)) dX0_afterStatement_195
      · have hx9 : (nI (so1 (bitsN sx 19 3))).toInt = 8 := by rw [nI_toInt (show so1 (bitsN sx 19 3) < 2 ^ 31 by omega)]; omega
        refine lv_tableIn (tgt := 196) (off := 125) hx hb dX0_afterStatement_71 (by rw [hx9]; decide) (by rw [hx9]; decide) (by rw [hx9]; rfl) (by decide) ?_
        have hk8 := okS_8 (hok (bitsN sx 19 3) (by omega)) c71_6
        refine lv_lload_n hx hb dX0_afterStatement_196 rfl (lv_at hl 5 rfl) ?_
        refine lv_iload_n hx hb dX0_afterStatement_197 rfl (lv_at hl 6 rfl) ?_
        refine lv_aload hx hb dX0_afterStatement_198 (lv_at hl 2 rfl) ?_
        refine lv_iload hx hb dX0_afterStatement_200 (lv_at hl 3 rfl) ?_
        refine lv_iconst (v := nI 0) hx hb dX0_afterStatement_202 (by decide) ?_
        have hPc := hP.sub (ws' := [(pa1, .inr (1, [.int (nI n1), .ref pb1, .ref pc1])), (pb1, .inl (kb1, 8, .inl (nA so1))), (pc1, .inl (kc1, 32, .inl (nA nu1)))]) [7, 8, 9] rfl
        have hKc := hK.sub (tys' := [(kb1, .int), (kc1, .int)]) [5, 6] rfl
        refine cVi (As := [.int (nI (bitsN sx 19 3)), .int (nI 0)]) (rest := [.int (nI 1), .long (lN sx)]) ⟨hx, hb, hml, hown, hts⟩ (c_X1_number l D pa1 pb1 pc1 kb1 kc1 n1 so1 nu1 (bitsN sx 19 3) 0 (by omega)) (cwV 2 hts (gV mU_416 mU_417 mU_418 mU_22 mU_419) rfl rfl rfl (by decide +kernel) ⟨Nat.le_of_ble_eq_true rfl, Nat.le_of_ble_eq_true rfl⟩) fbR (va_recv hK hP (ci := 1) (q0 := 7) rfl rfl) (PR.of hPc hKc) rfl hl.1 rfl (Nat.le_of_ble_eq_true rfl) dX0_afterStatement_203 ⟨Nat.zero_le _, Nat.zero_le _⟩ ?_
        refine cSi (As := [.int (nI 1), .int (nI (nu1 ((bitsN sx 19 3) * 4 + 0)))]) (rest := [.long (lN sx)]) ⟨hx, hb, hml, hown, hts⟩ (c_X0_registerAt l  1 (nu1 ((bitsN sx 19 3) * 4 + 0)) ) (va_cwS 2 hts (gS mU_423 mU_424 mU_27 mU_425) rfl rfl rfl (by decide +kernel) ⟨Nat.le_of_ble_eq_true rfl, Nat.le_of_ble_eq_true rfl⟩) fbU (fun _ _ _ => trivial) rfl hl.1 rfl (Nat.le_of_ble_eq_true rfl) dX0_afterStatement_206 ⟨Nat.zero_le _, Nat.zero_le _⟩ ?_
        refine lv_iconst (v := nI 3) hx hb dX0_afterStatement_209 (by decide) ?_
        refine cSi (As := [.long (lN sx), .int (nI (12 + 2 * (nu1 ((bitsN sx 19 3) * 4 + 0)))), .int (nI 3)]) (rest := []) ⟨hx, hb, hml, hown, hts⟩ (c_X0_bits l  sx (12 + 2 * (nu1 ((bitsN sx 19 3) * 4 + 0))) 2 (by omega) (by omega)) (va_cwS 3 hts (gS mU_398 mU_399 mU_27 mU_400) rfl rfl rfl (by decide +kernel) ⟨Nat.le_of_ble_eq_true rfl, Nat.le_of_ble_eq_true rfl⟩) fbU (fun _ _ _ => trivial) rfl hl.1 rfl (Nat.le_of_ble_eq_true rfl) dX0_afterStatement_210 ⟨Nat.zero_le _, Nat.zero_le _⟩ ?_
        have hf_12 : bitsN sx (12 + 2 * (nu1 ((bitsN sx 19 3) * 4 + 0))) 2 < 2 ^ 2 := bitsN_lt _ _ _
        refine lv_aload hx hb dX0_afterStatement_213 (lv_at hl 2 rfl) ?_
        refine lv_iload hx hb dX0_afterStatement_215 (lv_at hl 3 rfl) ?_
        refine lv_iconst (v := nI 1) hx hb dX0_afterStatement_217 (by decide) ?_
        have hPc := hP.sub (ws' := [(pa1, .inr (1, [.int (nI n1), .ref pb1, .ref pc1])), (pb1, .inl (kb1, 8, .inl (nA so1))), (pc1, .inl (kc1, 32, .inl (nA nu1)))]) [7, 8, 9] rfl
        have hKc := hK.sub (tys' := [(kb1, .int), (kc1, .int)]) [5, 6] rfl
        refine cVi (As := [.int (nI (bitsN sx 19 3)), .int (nI 1)]) (rest := [.int (nI (bitsN sx (12 + 2 * (nu1 ((bitsN sx 19 3) * 4 + 0))) 2))]) ⟨hx, hb, hml, hown, hts⟩ (c_X1_number l D pa1 pb1 pc1 kb1 kc1 n1 so1 nu1 (bitsN sx 19 3) 1 (by omega)) (cwV 2 hts (gV mU_416 mU_417 mU_418 mU_22 mU_419) rfl rfl rfl (by decide +kernel) ⟨Nat.le_of_ble_eq_true rfl, Nat.le_of_ble_eq_true rfl⟩) fbR (va_recv hK hP (ci := 1) (q0 := 7) rfl rfl) (PR.of hPc hKc) rfl hl.1 rfl (Nat.le_of_ble_eq_true rfl) dX0_afterStatement_218 ⟨Nat.zero_le _, Nat.zero_le _⟩ ?_
        refine lv_icmp_ne (tgt := 228) hx hb dX0_afterStatement_221 (by decide) (fun c221_13 => ?_) (fun c221_13 => ?_)
        · have c221_13 : ¬ (bitsN sx (12 + 2 * (nu1 ((bitsN sx 19 3) * 4 + 0))) 2 = nu1 ((bitsN sx 19 3) * 4 + 1)) := fun h9 => c221_13 ((nI_eqG (a := bitsN sx (12 + 2 * (nu1 ((bitsN sx 19 3) * 4 + 0))) 2) (b := nu1 ((bitsN sx 19 3) * 4 + 1)) (by omega) (by omega)).mpr h9)
          refine lv_iconst (v := nI 0) hx hb dX0_afterStatement_228 (by decide) ?_
          refine lv_istore (lv' := [(9, .int (nI 0)), (7, .long (lN (withN sx 19 3 (bitsN sx 19 3 + 1)))), (6, .int (nI (bitsN sx (31) 9))), (5, .ref pa1), (4, .int (nI (bitsN sx 19 3))), (0, .ref ma), (1, .long (lN sx)), (3, .int (nI 1))]) hx hb dX0_afterStatement_229 hl (by decide) rfl (fun ls hl => ?_)
          refine lv_iload hx hb dX0_afterStatement_231 (lv_at hl 0 rfl) ?_
          refine lv_if_eq (tgt := 259) hx hb dX0_afterStatement_233 (by decide) (fun c233_14 => ?_) (fun c233_14 => absurd (by decide) c233_14)
          refine lv_lload hx hb dX0_afterStatement_259 (lv_at hl 1 rfl) ?_
          subst hQ
          exact rtl hx hb hr hlocks rfl (by first | (unfold stmtC; unfold stmtC2; (try first | rw [if_pos c29_2] | rw [if_neg c29_2]); (try first | rw [if_pos c37_3] | rw [if_neg c37_3]); (try rw [c71_6]); (try first | rw [if_pos c221_13] | rw [if_neg c221_13]); (try rfl); done) | (exfalso; omega)) dX0_afterStatement_261
        · have c221_13 : bitsN sx (12 + 2 * (nu1 ((bitsN sx 19 3) * 4 + 0))) 2 = nu1 ((bitsN sx 19 3) * 4 + 1) := (nI_eqG (a := bitsN sx (12 + 2 * (nu1 ((bitsN sx 19 3) * 4 + 0))) 2) (b := nu1 ((bitsN sx 19 3) * 4 + 1)) (by omega) (by omega)).mp c221_13
          refine lv_iconst (v := nI 1) hx hb dX0_afterStatement_224 (by decide) ?_
          refine lv_goto (tgt := 229) hx hb dX0_afterStatement_225 (by decide) ?_
          refine lv_istore (lv' := [(9, .int (nI 1)), (7, .long (lN (withN sx 19 3 (bitsN sx 19 3 + 1)))), (6, .int (nI (bitsN sx (31) 9))), (5, .ref pa1), (4, .int (nI (bitsN sx 19 3))), (0, .ref ma), (1, .long (lN sx)), (3, .int (nI 1))]) hx hb dX0_afterStatement_229 hl (by decide) rfl (fun ls hl => ?_)
          refine lv_iload hx hb dX0_afterStatement_231 (lv_at hl 0 rfl) ?_
          refine lv_if_eq (tgt := 259) hx hb dX0_afterStatement_233 (by decide) (fun c233_15 => absurd c233_15 (by decide)) (fun c233_15 => ?_)
          refine lv_lload hx hb dX0_afterStatement_236 (lv_at hl 1 rfl) ?_
          refine lv_bipush (v := nI 16) hx hb dX0_afterStatement_238 (by decide) ?_
          refine lv_iconst (v := nI 3) hx hb dX0_afterStatement_240 (by decide) ?_
          refine lv_iload_n hx hb dX0_afterStatement_241 rfl (lv_at hl 7 rfl) ?_
          refine lv_imul hx hb dX0_afterStatement_242 ?_
          refine lv_topE (nI 3) (pk_mul _ _) ?_
          refine lv_iadd hx hb dX0_afterStatement_243 ?_
          refine lv_topE (nI 19) (nI_add _ _) ?_
          refine lv_bipush (v := nI 7) hx hb dX0_afterStatement_244 (by decide) ?_
          refine lv_aload hx hb dX0_afterStatement_246 (lv_at hl 3 rfl) ?_
          refine lv_iload hx hb dX0_afterStatement_248 (lv_at hl 4 rfl) ?_
          have hPc := hP.sub (ws' := [(pa1, .inr (1, [.int (nI n1), .ref pb1, .ref pc1])), (pb1, .inl (kb1, 8, .inl (nA so1))), (pc1, .inl (kc1, 32, .inl (nA nu1)))]) [7, 8, 9] rfl
          have hKc := hK.sub (tys' := [(kb1, .int), (kc1, .int)]) [5, 6] rfl
          refine cVi (As := [.int (nI (bitsN sx 19 3))]) (rest := [.int (nI 7), .int (nI 19), .long (lN (withN sx 19 3 (bitsN sx 19 3 + 1)))]) ⟨hx, hb, hml, hown, hts⟩ (c_X1_placeBehindIf l D pa1 pb1 pc1 kb1 kc1 n1 so1 nu1 (bitsN sx 19 3) (by omega) (by omega) (by omega)) (cwV 1 hts (gV mU_426 mU_427 mU_428 mU_22 mU_429) rfl rfl rfl (by decide +kernel) ⟨Nat.le_of_ble_eq_true rfl, Nat.le_of_ble_eq_true rfl⟩) fbR (va_recv hK hP (ci := 1) (q0 := 7) rfl rfl) (PR.of hPc hKc) rfl hl.1 rfl (Nat.le_of_ble_eq_true rfl) dX0_afterStatement_250 ⟨Nat.zero_le _, Nat.zero_le _⟩ ?_
          have hmin : (if n1 < bitsN sx 19 3 + 1 + nu1 ((bitsN sx 19 3) * 4 + 2) then n1 else bitsN sx 19 3 + 1 + nu1 ((bitsN sx 19 3) * 4 + 2)) ≤ n1 := by split <;> omega
          refine cSl (As := [.long (lN (withN sx 19 3 (bitsN sx 19 3 + 1))), .int (nI 19), .int (nI 7), .int (nI (if n1 < (bitsN sx 19 3) + 1 + nu1 ((bitsN sx 19 3) * 4 + 2) then n1 else (bitsN sx 19 3) + 1 + nu1 ((bitsN sx 19 3) * 4 + 2)))]) (rest := []) ⟨hx, hb, hml, hown, hts⟩ (c_X0_with l  (withN sx 19 3 (bitsN sx 19 3 + 1)) 19 3 (if n1 < (bitsN sx 19 3) + 1 + nu1 ((bitsN sx 19 3) * 4 + 2) then n1 else (bitsN sx 19 3) + 1 + nu1 ((bitsN sx 19 3) * 4 + 2)) (by omega) (by omega) (by omega) (by omega) (by omega)) (va_cwS 4 hts (gS mU_420 mU_421 mU_27 mU_422) rfl rfl rfl (by decide +kernel) ⟨Nat.le_of_ble_eq_true rfl, Nat.le_of_ble_eq_true rfl⟩) fbU (fun _ _ _ => trivial) rfl hl.1 rfl (Nat.le_of_ble_eq_true rfl) dX0_afterStatement_253 ⟨Nat.zero_le _, Nat.zero_le _⟩ ?_
          have hf_16 : withN (withN sx 19 3 (bitsN sx 19 3 + 1)) 19 3 (if n1 < (bitsN sx 19 3) + 1 + nu1 ((bitsN sx 19 3) * 4 + 2) then n1 else (bitsN sx 19 3) + 1 + nu1 ((bitsN sx 19 3) * 4 + 2)) < 2 ^ 44 := withN_lt (by omega) (by omega) (by omega)
          refine lv_goto (tgt := 261) hx hb dX0_afterStatement_256 (by decide) ?_
          subst hQ
          exact rtl hx hb hr hlocks rfl (by first | (unfold stmtC; unfold stmtC2; (try first | rw [if_pos c29_2] | rw [if_neg c29_2]); (try first | rw [if_pos c37_3] | rw [if_neg c37_3]); (try rw [c71_6]); (try first | rw [if_pos c221_13] | rw [if_neg c221_13]); (try rfl); done) | (exfalso; omega)) dX0_afterStatement_261
      · refine lv_tableOut (tgt := 262) hx hb dX0_afterStatement_71 (by rw [nI_toInt (show so1 (bitsN sx 19 3) < 2 ^ 31 by omega)]; omega) (by decide) ?_
        have n71_4 : ¬ (so1 (bitsN sx 19 3) = 4) := by omega
        have n71_5 : ¬ (so1 (bitsN sx 19 3) = 5) := by omega
        have n71_6 : ¬ (so1 (bitsN sx 19 3) = 6) := by omega
        have n71_7 : ¬ (so1 (bitsN sx 19 3) = 7) := by omega
        have n71_8 : ¬ (so1 (bitsN sx 19 3) = 8) := by omega
        refine lv_lload hx hb dX0_afterStatement_262 (lv_at hl 0 rfl) ?_
        refine lv_iload_n hx hb dX0_afterStatement_264 rfl (lv_at hl 6 rfl) ?_
        refine lv_iload hx hb dX0_afterStatement_265 (lv_at hl 1 rfl) ?_
        refine lv_iload hx hb dX0_afterStatement_267 (lv_at hl 3 rfl) ?_
        refine cSl (As := [.long (lN (withN sx 19 3 (bitsN sx 19 3 + 1))), .int (nI 1), .int (nI (bitsN sx (31) 9)), .int (nI (bitsN sx 19 3))]) (rest := []) ⟨hx, hb, hml, hown, hts⟩ (c_X0_withWish l  (withN sx 19 3 (bitsN sx 19 3 + 1)) 1 (bitsN sx (31) 9) (bitsN sx 19 3) (by omega) (by omega) (by omega) (by omega)) (va_cwS 4 hts (gS mU_432 mU_433 mU_27 mU_434) rfl rfl rfl (by decide +kernel) ⟨Nat.le_of_ble_eq_true rfl, Nat.le_of_ble_eq_true rfl⟩) fbU (fun _ _ _ => trivial) rfl hl.1 rfl (Nat.le_of_ble_eq_true rfl) dX0_afterStatement_269 ⟨Nat.zero_le _, Nat.zero_le _⟩ ?_
        subst hQ
        exact rtl hx hb hr hlocks rfl (by first | (unfold stmtC; unfold stmtC2; (try first | rw [if_pos c29_2] | rw [if_neg c29_2]); (try first | rw [if_pos c37_3] | rw [if_neg c37_3]); (try rw [if_neg n71_4, if_neg n71_5, if_neg n71_6, if_neg n71_7, if_neg n71_8]); (try rfl); done) | (exfalso; omega)) dX0_afterStatement_272
    · have c37_3 : ¬ bitsN sx (41) 1 = 0 ∨ ¬ bitsN sx (43) 1 = 0 := bP_t c37_3
      refine lv_ldc2 (v := (-1)) hx hb hown (hU _ mU_391) dX0_afterStatement_40 ?_
      subst hQ
      exact rtl hx hb hr hlocks rfl (by first | (unfold stmtC; unfold stmtC2; (try first | rw [if_pos c29_2] | rw [if_neg c29_2]); (try first | rw [if_pos c37_3] | rw [if_neg c37_3]); (try rfl); done) | (exfalso; omega)) dX0_afterStatement_43

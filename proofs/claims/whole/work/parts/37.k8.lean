theorem z_orv {x v p : Nat} (hx : x < 2 ^ 62) (hv : v < 8) (hp : p ≤ 50) : lN x ||| (lN v <<< ((nI p).toInt64 &&& 63)) = lN (x ||| v * 2 ^ p) := by
  have h1 : v * 2 ^ p < 2 ^ 64 := Nat.lt_of_le_of_lt (Nat.mul_le_mul (show v ≤ 8 by omega) (Nat.pow_le_pow_right (show 0 < 2 by decide) hp)) (by decide)
  rw [wb_shl v (by omega), wb_or (by omega) h1]
theorem z_left (q b k : Nat) : nI (q % 2 ^ k) ||| nI (b * 2 ^ k) = nI (q % 2 ^ k + b * 2 ^ k) := by
  rw [fa_or, Nat.or_comm, Nat.mul_comm b, ← Nat.two_pow_add_eq_or_of_lt (Nat.mod_lt _ (Nat.two_pow_pos k)), Nat.add_comm]
def leftC (q pl : Nat) : Nat := q % 2 ^ (3 * pl) + q / 2 ^ (3 * pl + 3) * 2 ^ (3 * pl)
/-- what the wish at place pl of host h's queue, done, makes of a state of the class -/
def wishC (so nu ri : Nat → Nat) (x h pl : Nat) : Option Nat :=
  if wishA (bitsN x (22 + 9 * h) 9) pl = 4294967295 then none
  else if mayC so (bitsN x (22 + 9 * h) 9) pl then
    (if bitsN x (43 - h) 1 = 0 then
      (if rgtC ri so nu (wishA (bitsN x (22 + 9 * h) 9) pl) then some (touchC so nu (withN x (22 + 9 * h) 9 (leftC (bitsN x (22 + 9 * h) 9) pl)) h (wishA (bitsN x (22 + 9 * h) 9) pl)) else some (withN x (22 + 9 * h) 9 0 ||| 1 * 2 ^ (40 + h)))
    else some (withN x (22 + 9 * h) 9 0 ||| 1 * 2 ^ (40 + h)))
  else none
set_option maxHeartbeats 4000000 in
set_option maxRecDepth 100000 in
theorem c_X0_afterWish0 (l : Launch) (D : va_G) (ma mb mc md : Nat) (k0 k1 k2 : ClassId) (mf : Nat) (wo ri : Nat → Nat) (pa0 pb0 pc0 : Nat) (kb0 kc0 : ClassId) (n0 : Nat) (so0 nu0 : Nat → Nat) (pa1 pb1 pc1 : Nat) (kb1 kc1 : ClassId) (n1 : Nat) (so1 nu1 : Nat → Nat) (sx : Nat) (pl : Nat) (hsx : sx < 2 ^ 44) (hpl : pl < 3) (hn : n0 ≤ 7) (hso : ∀ j, so0 j < 2147483648) (hri : ∀ j, ri j < 2147483648) (hok : ∀ i, i < n0 → okS (so0 i) (nu0 (i * 4 + 0)) (nu0 (i * 4 + 1)) (nu0 (i * 4 + 2)) (nu0 (i * 4 + 3))) (hqv : ∀ k, k < 3 → ¬ wishA (bitsN sx 22 9) k = 4294967295 → wishA (bitsN sx 22 9) k < n0 ∧ so0 (wishA (bitsN sx 22 9) k) < 4) : Met l yX0_afterWish (.code yX0_afterWish cX0_afterWish 11 (some .long) :: wsL_law) ({ frames := 3, cells := 0, slots := 0, locals := 67 }) (va_Pc [.ref ma, .long (lN sx), .int (nI 0), .int (nI pl)] (PR D (kW ma mb mc md k0 k1 k2 mf wo ri pa0 pb0 pc0 kb0 kc0 n0 so0 nu0 pa1 pb1 pc1 kb1 kc1 n1 so1 nu1) (kT k0 k1 k2 kb0 kc0 kb1 kc1))) (QrL (eO (wishC so0 nu0 ri sx 0 pl))) 0 0 (fun _ => False) := by
  refine Met.ofW (cc := cX0_afterWish) (maxL := 11) (ret := (some .long)) (by decide) rfl ?_
  intro p e s m args below meth c s₁ B hml hv
  obtain ⟨rfl, hP, hK⟩ := hv
  have hx := B.exec
  have hb := B.bytes
  have hr := B.returns
  have hts := atoms_spec (ws := .code yX0_afterWish cX0_afterWish 11 (some .long) :: wsL_law) B.pre
  have hU : ∀ w ∈ wsL_law, w.before _ s = true := fun w h => hts w (List.mem_cons_of_mem _ h)
  have hown : s.vm.findClass RX0 = some m.cls := findClass_of_methodNamed B.named
  have hlocks := B.notSynchronized
  generalize hQ : MQ _ _ _ _ _ _ _ = Q
  have hl := lv_entry ([.ref ma, .long (lN sx), .int (nI 0), .int (nI pl)]) (n := 11) (Nat.le_of_ble_eq_true rfl)
  rw [lg_entry_eq]
  generalize (lg_sl ([.ref ma, .long (lN sx), .int (nI 0), .int (nI pl)]) ++ List.replicate (11 - (lg_sl ([.ref ma, .long (lN sx), .int (nI 0), .int (nI pl)])).length) Slot.unset).toArray = ls at hl ⊢
  have hl : lv_has ls 11 [(0, .ref ma), (1, .long (lN sx)), (3, .int (nI 0)), (4, .int (nI pl))] := hl
  rcases (show pl = 0 ∨ pl = 1 ∨ pl = 2 from by omega) with rfl | rfl | rfl
  · have hl : lv_has ls 11 [(0, .ref ma), (1, .long (lN sx)), (3, .int (nI 0)), (4, .int (nI 0))] := hl
    refine lv_lload_n hx hb dX0_afterWish_0 rfl (lv_at hl 1 rfl) ?_
    refine lv_iload_n hx hb dX0_afterWish_1 rfl (lv_at hl 2 rfl) ?_
    refine cSi (As := [.long (lN sx), .int (nI 0)]) (rest := []) ⟨hx, hb, hml, hown, hts⟩ (c_X0_queueOf l  sx 0 (by omega) (by omega)) (va_cwS 2 hts (gS mU_404 mU_405 mU_27 mU_406) rfl rfl rfl (by decide +kernel) ⟨Nat.le_of_ble_eq_true rfl, Nat.le_of_ble_eq_true rfl⟩) fbU (fun _ _ _ => trivial) rfl hl.1 rfl (Nat.le_of_ble_eq_true rfl) dX0_afterWish_2 ⟨Nat.zero_le _, Nat.zero_le _⟩ ?_
    have hf_1 : bitsN sx (22) 9 < 512 := bitsN_lt _ _ _
    refine lv_istore (lv' := [(5, .int (nI (bitsN sx (22) 9))), (0, .ref ma), (1, .long (lN sx)), (3, .int (nI 0)), (4, .int (nI 0))]) hx hb dX0_afterWish_5 hl (by decide) rfl (fun ls hl => ?_)
    refine lv_iload hx hb dX0_afterWish_7 (lv_at hl 0 rfl) ?_
    refine lv_iload hx hb dX0_afterWish_9 (lv_at hl 4 rfl) ?_
    refine cSi (As := [.int (nI (bitsN sx (22) 9)), .int (nI 0)]) (rest := []) ⟨hx, hb, hml, hown, hts⟩ (c_X0_wishAt l  (bitsN sx (22) 9) 0 (by omega) (by omega)) (va_cwS 2 hts (gS mU_413 mU_414 mU_27 mU_415) rfl rfl rfl (by decide +kernel) ⟨Nat.le_of_ble_eq_true rfl, Nat.le_of_ble_eq_true rfl⟩) fbU (fun _ _ _ => trivial) rfl hl.1 rfl (Nat.le_of_ble_eq_true rfl) dX0_afterWish_11 ⟨Nat.zero_le _, Nat.zero_le _⟩ ?_
    have hf_2 : wishA (bitsN sx (22) 9) 0 < 7 ∨ wishA (bitsN sx (22) 9) 0 = 4294967295 := wishA_or _ _
    refine lv_istore (lv' := [(6, .int (nI (wishA (bitsN sx (22) 9) 0))), (5, .int (nI (bitsN sx (22) 9))), (0, .ref ma), (1, .long (lN sx)), (3, .int (nI 0)), (4, .int (nI 0))]) hx hb dX0_afterWish_14 hl (by decide) rfl (fun ls hl => ?_)
    refine lv_iload hx hb dX0_afterWish_16 (lv_at hl 0 rfl) ?_
    refine lv_iconst (v := nI 4294967295) hx hb dX0_afterWish_18 (by decide) ?_
    refine lv_icmp_eq (tgt := 38) hx hb dX0_afterWish_19 (by decide) (fun c19_3 => ?_) (fun c19_3 => ?_)
    · have c19_3 : wishA (bitsN sx (22) 9) 0 = 4294967295 := (nI_eqG (a := wishA (bitsN sx (22) 9) 0) (b := 4294967295) (by omega) (by omega)).mp c19_3
      refine lv_ldc2 (v := (-1)) hx hb hown (hU _ mU_391) dX0_afterWish_38 ?_
      subst hQ
      exact rtl hx hb hr hlocks rfl (by first | (unfold wishC; (try first | rw [if_pos c19_3] | rw [if_neg c19_3]); (try rfl); done) | (exfalso; omega)) dX0_afterWish_41
    · have c19_3 : ¬ (wishA (bitsN sx (22) 9) 0 = 4294967295) := fun h9 => c19_3 ((nI_eqG (a := wishA (bitsN sx (22) 9) 0) (b := 4294967295) (by omega) (by omega)).mpr h9)
      refine lv_aload_n hx hb dX0_afterWish_22 rfl (lv_at hl 2 rfl) ?_
      refine va_get (D := D) (ci := 0) (v := .ref mb) (C := RX0) (T := TX0) (N := 4) hx hb hU iX0 hown hK hP 0 rfl rfl 0 (by decide) (hU _ mU_54) (fun _ h9 => h9) rfl dX0_afterWish_23 ?_
      refine lv_iload_n hx hb dX0_afterWish_26 rfl (lv_at hl 4 rfl) ?_
      refine va_aldq hx hb hK hP 1 0 rfl rfl (vp_in_nI (n := 0) (by decide) (by decide)) dX0_afterWish_27 ?_
      refine W.eq (g2 := F0 m 28 ls [.ref pa0]) (by rw [nI_clamp (show 0 < 2 ^ 31 by decide)]; rfl) ?_
      refine lv_iload hx hb dX0_afterWish_28 (lv_at hl 1 rfl) ?_
      refine lv_iload hx hb dX0_afterWish_30 (lv_at hl 5 rfl) ?_
      have hPc := hP.sub (ws' := [(pa0, .inr (1, [.int (nI n0), .ref pb0, .ref pc0])), (pb0, .inl (kb0, 8, .inl (nA so0))), (pc0, .inl (kc0, 32, .inl (nA nu0)))]) [4, 5, 6] rfl
      have hKc := hK.sub (tys' := [(kb0, .int), (kc0, .int)]) [3, 4] rfl
      refine cSi (As := [.ref pa0, .int (nI (bitsN sx (22) 9)), .int (nI 0)]) (rest := []) ⟨hx, hb, hml, hown, hts⟩ (c_X0_mayBeDone l D pb0 pc0 kb0 kc0 n0 so0 nu0 pa0 (bitsN sx (22) 9) 0 (by omega) (by omega) (hso)) (va_cwS 3 hts (gS mU_439 mU_440 mU_27 mU_441) rfl rfl rfl (by decide +kernel) ⟨Nat.le_of_ble_eq_true rfl, Nat.le_of_ble_eq_true rfl⟩) fbR (PR.of hPc hKc) rfl hl.1 rfl (Nat.le_of_ble_eq_true rfl) dX0_afterWish_32 ⟨Nat.zero_le _, Nat.zero_le _⟩ ?_
      refine lv_if_ne (tgt := 42) hx hb dX0_afterWish_35 (by decide) (fun c35_4 => ?_) (fun c35_4 => ?_)
      · have c35_4 : mayC so0 (bitsN sx (22) 9) 0 := bP_t c35_4
        have hv := hqv 0 (by decide) c19_3
        have hokw := hok _ hv.1
        have hka := okS_a hokw hv.2
        refine lv_lload_n hx hb dX0_afterWish_42 rfl (lv_at hl 3 rfl) ?_
        refine lv_bipush (v := nI 43) hx hb dX0_afterWish_43 (by decide) ?_
        refine lv_iload_n hx hb dX0_afterWish_45 rfl (lv_at hl 4 rfl) ?_
        refine lv_isub hx hb dX0_afterWish_46 ?_
        refine lv_topE (nI 43) (pk_sub (by omega)) ?_
        refine lv_iconst (v := nI 1) hx hb dX0_afterWish_47 (by decide) ?_
        refine cSi (As := [.long (lN sx), .int (nI 43), .int (nI 1)]) (rest := []) ⟨hx, hb, hml, hown, hts⟩ (c_X0_bits l  sx 43 1 (by omega) (by omega)) (va_cwS 3 hts (gS mU_398 mU_399 mU_27 mU_400) rfl rfl rfl (by decide +kernel) ⟨Nat.le_of_ble_eq_true rfl, Nat.le_of_ble_eq_true rfl⟩) fbU (fun _ _ _ => trivial) rfl hl.1 rfl (Nat.le_of_ble_eq_true rfl) dX0_afterWish_48 ⟨Nat.zero_le _, Nat.zero_le _⟩ ?_
        have hf_5 : bitsN sx 43 1 < 2 ^ 1 := bitsN_lt _ _ _
        refine lv_if_eq (tgt := 58) hx hb dX0_afterWish_51 (by decide) (fun c51_6 => ?_) (fun c51_6 => ?_)
        · have c51_6 : bitsN sx 43 1 = 0 := (nI_eqG (a := bitsN sx 43 1) (b := 0) (by omega) (by omega)).mp c51_6
          refine lv_iconst (v := nI 0) hx hb dX0_afterWish_58 (by decide) ?_
          refine lv_istore (lv' := [(7, .int (nI 0)), (6, .int (nI (wishA (bitsN sx (22) 9) 0))), (5, .int (nI (bitsN sx (22) 9))), (0, .ref ma), (1, .long (lN sx)), (3, .int (nI 0)), (4, .int (nI 0))]) hx hb dX0_afterWish_59 hl (by decide) rfl (fun ls hl => ?_)
          refine lv_iload hx hb dX0_afterWish_61 (lv_at hl 0 rfl) ?_
          refine lv_if_ne (tgt := 81) hx hb dX0_afterWish_63 (by decide) (fun c63_7 => by first | exact absurd c63_7 (by decide) | exact absurd (by decide) c63_7) (fun c63_7 => ?_)
          refine lv_aload_n hx hb dX0_afterWish_66 rfl (lv_at hl 3 rfl) ?_
          refine lv_aload_n hx hb dX0_afterWish_67 rfl (lv_at hl 3 rfl) ?_
          refine va_get (D := D) (ci := 0) (v := .ref mb) (C := RX0) (T := TX0) (N := 4) hx hb hU iX0 hown hK hP 0 rfl rfl 0 (by decide) (hU _ mU_54) (fun _ h9 => h9) rfl dX0_afterWish_68 ?_
          refine lv_iload_n hx hb dX0_afterWish_71 rfl (lv_at hl 5 rfl) ?_
          refine va_aldq hx hb hK hP 1 0 rfl rfl (vp_in_nI (n := 0) (by decide) (by decide)) dX0_afterWish_72 ?_
          refine W.eq (g2 := F0 m 73 ls [.ref pa0, .ref ma]) (by rw [nI_clamp (show 0 < 2 ^ 31 by decide)]; rfl) ?_
          refine lv_iload hx hb dX0_afterWish_73 (lv_at hl 1 rfl) ?_
          refine cVi (As := [.ref pa0, .int (nI (wishA (bitsN sx (22) 9) 0))]) (rest := []) ⟨hx, hb, hml, hown, hts⟩ (c_X0_hasRight0 l D ma mb mc md k0 k1 k2 mf wo ri pa0 pb0 pc0 kb0 kc0 n0 so0 nu0 pa1 pb1 pc1 kb1 kc1 n1 so1 nu1 (wishA (bitsN sx (22) 9) 0) (by omega) (hka.1) (hso _) (hri)) (cwV 2 hts (gV mU_442 mU_443 mU_444 mU_27 mU_445) rfl rfl rfl (by decide +kernel) ⟨Nat.le_of_ble_eq_true rfl, Nat.le_of_ble_eq_true rfl⟩) fbR (va_recv hK hP (ci := 0) (q0 := 0) rfl rfl) (PR.of hP hK) rfl hl.1 rfl (Nat.le_of_ble_eq_true rfl) dX0_afterWish_75 ⟨Nat.zero_le _, Nat.zero_le _⟩ ?_
          refine lv_if_ne (tgt := 104) hx hb dX0_afterWish_78 (by decide) (fun c78_8 => ?_) (fun c78_8 => ?_)
          · have c78_8 : rgtC ri so0 nu0 (wishA (bitsN sx (22) 9) 0) := bP_t c78_8
            refine lv_iload hx hb dX0_afterWish_104 (lv_at hl 2 rfl) ?_
            refine lv_iconst (v := nI 1) hx hb dX0_afterWish_106 (by decide) ?_
            refine lv_iconst (v := nI 3) hx hb dX0_afterWish_107 (by decide) ?_
            refine lv_iload hx hb dX0_afterWish_108 (lv_at hl 6 rfl) ?_
            refine lv_imul hx hb dX0_afterWish_110 ?_
            refine lv_topE (nI 0) (pk_mul _ _) ?_
            refine lv_ishl hx hb dX0_afterWish_111 ?_
            refine lv_iconst (v := nI 1) hx hb dX0_afterWish_112 (by decide) ?_
            refine lv_isub hx hb dX0_afterWish_113 ?_
            refine lv_iand hx hb dX0_afterWish_114 ?_
            refine lv_topE (nI (bitsN sx 22 9 % 2 ^ 0)) (by rw [z_one 0 (by decide), fa_mask]) ?_
            refine lv_istore (lv' := [(8, .int (nI (bitsN sx 22 9 % 2 ^ 0))), (7, .int (nI 0)), (6, .int (nI (wishA (bitsN sx (22) 9) 0))), (5, .int (nI (bitsN sx (22) 9))), (0, .ref ma), (1, .long (lN sx)), (3, .int (nI 0)), (4, .int (nI 0))]) hx hb dX0_afterWish_115 hl (by decide) rfl (fun ls hl => ?_)
            refine lv_iload hx hb dX0_afterWish_117 (lv_at hl 3 rfl) ?_
            refine lv_iconst (v := nI 3) hx hb dX0_afterWish_119 (by decide) ?_
            refine lv_iload hx hb dX0_afterWish_120 (lv_at hl 7 rfl) ?_
            refine lv_imul hx hb dX0_afterWish_122 ?_
            refine lv_topE (nI 0) (pk_mul _ _) ?_
            refine lv_iconst (v := nI 3) hx hb dX0_afterWish_123 (by decide) ?_
            refine lv_iadd hx hb dX0_afterWish_124 ?_
            refine lv_topE (nI 3) (nI_add _ _) ?_
            refine lv_ishr hx hb dX0_afterWish_125 ?_
            refine lv_topE (nI (bitsN sx 22 9 / 2 ^ 3)) (z_shr32 (by omega) (by decide)) ?_
            refine lv_istore (lv' := [(9, .int (nI (bitsN sx 22 9 / 2 ^ 3))), (8, .int (nI (bitsN sx 22 9 % 2 ^ 0))), (7, .int (nI 0)), (6, .int (nI (wishA (bitsN sx (22) 9) 0))), (5, .int (nI (bitsN sx (22) 9))), (0, .ref ma), (1, .long (lN sx)), (3, .int (nI 0)), (4, .int (nI 0))]) hx hb dX0_afterWish_126 hl (by decide) rfl (fun ls hl => ?_)
            refine lv_iload hx hb dX0_afterWish_128 (lv_at hl 1 rfl) ?_
            refine lv_iload hx hb dX0_afterWish_130 (lv_at hl 0 rfl) ?_
            refine lv_iconst (v := nI 3) hx hb dX0_afterWish_132 (by decide) ?_
            refine lv_iload hx hb dX0_afterWish_133 (lv_at hl 8 rfl) ?_
            refine lv_imul hx hb dX0_afterWish_135 ?_
            refine lv_topE (nI 0) (pk_mul _ _) ?_
            refine lv_ishl hx hb dX0_afterWish_136 ?_
            refine lv_topE (nI (bitsN sx 22 9 / 2 ^ 3 * 2 ^ 0)) (pk_shlN _ 0 (z_s32 0 (by decide)) (by omega)) ?_
            refine lv_ior hx hb dX0_afterWish_137 ?_
            refine lv_topE (nI (bitsN sx 22 9 % 2 ^ 0 + bitsN sx 22 9 / 2 ^ 3 * 2 ^ 0)) (z_left _ _ 0) ?_
            refine lv_istore (lv' := [(10, .int (nI (bitsN sx 22 9 % 2 ^ 0 + bitsN sx 22 9 / 2 ^ 3 * 2 ^ 0))), (9, .int (nI (bitsN sx 22 9 / 2 ^ 3))), (8, .int (nI (bitsN sx 22 9 % 2 ^ 0))), (7, .int (nI 0)), (6, .int (nI (wishA (bitsN sx (22) 9) 0))), (5, .int (nI (bitsN sx (22) 9))), (0, .ref ma), (1, .long (lN sx)), (3, .int (nI 0)), (4, .int (nI 0))]) hx hb dX0_afterWish_138 hl (by decide) rfl (fun ls hl => ?_)
            refine lv_aload_n hx hb dX0_afterWish_140 rfl (lv_at hl 6 rfl) ?_
            refine lv_lload_n hx hb dX0_afterWish_141 rfl (lv_at hl 7 rfl) ?_
            refine lv_bipush (v := nI 22) hx hb dX0_afterWish_142 (by decide) ?_
            refine lv_bipush (v := nI 9) hx hb dX0_afterWish_144 (by decide) ?_
            refine lv_iload_n hx hb dX0_afterWish_146 rfl (lv_at hl 8 rfl) ?_
            refine lv_imul hx hb dX0_afterWish_147 ?_
            refine lv_topE (nI 0) (pk_mul _ _) ?_
            refine lv_iadd hx hb dX0_afterWish_148 ?_
            refine lv_topE (nI 22) (nI_add _ _) ?_
            refine lv_sipush (v := nI 511) hx hb dX0_afterWish_149 (by decide) ?_
            refine lv_iload hx hb dX0_afterWish_152 (lv_at hl 0 rfl) ?_
            refine cSl (As := [.long (lN sx), .int (nI 22), .int (nI 511), .int (nI (bitsN sx 22 9 % 2 ^ 0 + bitsN sx 22 9 / 2 ^ 3 * 2 ^ 0))]) (rest := [.ref ma]) ⟨hx, hb, hml, hown, hts⟩ (c_X0_with l  sx 22 9 (bitsN sx 22 9 % 2 ^ 0 + bitsN sx 22 9 / 2 ^ 3 * 2 ^ 0) (by omega) (by omega) (by omega) (by omega) (by omega)) (va_cwS 4 hts (gS mU_420 mU_421 mU_27 mU_422) rfl rfl rfl (by decide +kernel) ⟨Nat.le_of_ble_eq_true rfl, Nat.le_of_ble_eq_true rfl⟩) fbU (fun _ _ _ => trivial) rfl hl.1 rfl (Nat.le_of_ble_eq_true rfl) dX0_afterWish_154 ⟨Nat.zero_le _, Nat.zero_le _⟩ ?_
            have hf_9 : withN sx 22 9 (bitsN sx 22 9 % 2 ^ 0 + bitsN sx 22 9 / 2 ^ 3 * 2 ^ 0) < 2 ^ 44 := withN_lt (by omega) (by omega) (by omega)
            refine lv_iload_n hx hb dX0_afterWish_157 rfl (lv_at hl 8 rfl) ?_
            refine lv_iload hx hb dX0_afterWish_158 (lv_at hl 4 rfl) ?_
            refine cVl (As := [.long (lN (withN sx 22 9 (bitsN sx 22 9 % 2 ^ 0 + bitsN sx 22 9 / 2 ^ 3 * 2 ^ 0))), .int (nI 0), .int (nI (wishA (bitsN sx (22) 9) 0))]) (rest := []) ⟨hx, hb, hml, hown, hts⟩ (c_X0_touched0 l D ma mb mc md k0 k1 k2 mf wo ri pa0 pb0 pc0 kb0 kc0 n0 so0 nu0 pa1 pb1 pc1 kb1 kc1 n1 so1 nu1 (withN sx 22 9 (bitsN sx 22 9 % 2 ^ 0 + bitsN sx 22 9 / 2 ^ 3 * 2 ^ 0)) (wishA (bitsN sx (22) 9) 0) (by omega) (by omega) (hv.2) (hokw)) (cwV 3 hts (gV mU_446 mU_447 mU_448 mU_27 mU_449) rfl rfl rfl (by decide +kernel) ⟨Nat.le_of_ble_eq_true rfl, Nat.le_of_ble_eq_true rfl⟩) fbR (va_recv hK hP (ci := 0) (q0 := 0) rfl rfl) (PR.of hP hK) rfl hl.1 rfl (Nat.le_of_ble_eq_true rfl) dX0_afterWish_160 ⟨Nat.zero_le _, Nat.zero_le _⟩ ?_
            subst hQ
            exact rtl hx hb hr hlocks rfl (by first | (unfold wishC; (try first | rw [if_pos c19_3] | rw [if_neg c19_3]); (try first | rw [if_pos c35_4] | rw [if_neg c35_4]); (try first | rw [if_pos c51_6] | rw [if_neg c51_6]); (try first | rw [if_pos c78_8] | rw [if_neg c78_8]); (try rfl); done) | (exfalso; omega)) dX0_afterWish_163
          · have c78_8 : ¬ (rgtC ri so0 nu0 (wishA (bitsN sx (22) 9) 0)) := bP_f c78_8
            refine lv_lload_n hx hb dX0_afterWish_81 rfl (lv_at hl 4 rfl) ?_
            refine lv_bipush (v := nI 22) hx hb dX0_afterWish_82 (by decide) ?_
            refine lv_bipush (v := nI 9) hx hb dX0_afterWish_84 (by decide) ?_
            refine lv_iload_n hx hb dX0_afterWish_86 rfl (lv_at hl 5 rfl) ?_
            refine lv_imul hx hb dX0_afterWish_87 ?_
            refine lv_topE (nI 0) (pk_mul _ _) ?_
            refine lv_iadd hx hb dX0_afterWish_88 ?_
            refine lv_topE (nI 22) (nI_add _ _) ?_
            refine lv_sipush (v := nI 511) hx hb dX0_afterWish_89 (by decide) ?_
            refine lv_iconst (v := nI 0) hx hb dX0_afterWish_92 (by decide) ?_
            refine cSl (As := [.long (lN sx), .int (nI 22), .int (nI 511), .int (nI 0)]) (rest := []) ⟨hx, hb, hml, hown, hts⟩ (c_X0_with l  sx 22 9 0 (by omega) (by omega) (by omega) (by omega) (by omega)) (va_cwS 4 hts (gS mU_420 mU_421 mU_27 mU_422) rfl rfl rfl (by decide +kernel) ⟨Nat.le_of_ble_eq_true rfl, Nat.le_of_ble_eq_true rfl⟩) fbU (fun _ _ _ => trivial) rfl hl.1 rfl (Nat.le_of_ble_eq_true rfl) dX0_afterWish_93 ⟨Nat.zero_le _, Nat.zero_le _⟩ ?_
            have hf_10 : withN sx 22 9 0 < 2 ^ 44 := withN_lt (by omega) (by omega) (by omega)
            refine lv_lconst (v := lN 1) hx hb dX0_afterWish_96 rfl ?_
            refine lv_bipush (v := nI 40) hx hb dX0_afterWish_97 (by decide) ?_
            refine lv_iload_n hx hb dX0_afterWish_99 rfl (lv_at hl 5 rfl) ?_
            refine lv_iadd hx hb dX0_afterWish_100 ?_
            refine lv_topE (nI 40) (nI_add _ _) ?_
            refine lv_lshl hx hb dX0_afterWish_101 rfl ?_
            refine lv_lor hx hb dX0_afterWish_102 ?_
            refine lv_topEl (lN (withN sx 22 9 0 ||| 1 * 2 ^ 40)) (z_orv (by omega) (by omega) (by decide)) ?_
            subst hQ
            exact rtl hx hb hr hlocks rfl (by first | (unfold wishC; (try first | rw [if_pos c19_3] | rw [if_neg c19_3]); (try first | rw [if_pos c35_4] | rw [if_neg c35_4]); (try first | rw [if_pos c51_6] | rw [if_neg c51_6]); (try first | rw [if_pos c78_8] | rw [if_neg c78_8]); (try rfl); done) | (exfalso; omega)) dX0_afterWish_103
        · have c51_6 : ¬ (bitsN sx 43 1 = 0) := fun h9 => c51_6 ((nI_eqG (a := bitsN sx 43 1) (b := 0) (by omega) (by omega)).mpr h9)
          refine lv_iconst (v := nI 1) hx hb dX0_afterWish_54 (by decide) ?_
          refine lv_goto (tgt := 59) hx hb dX0_afterWish_55 (by decide) ?_
          refine lv_istore (lv' := [(7, .int (nI 1)), (6, .int (nI (wishA (bitsN sx (22) 9) 0))), (5, .int (nI (bitsN sx (22) 9))), (0, .ref ma), (1, .long (lN sx)), (3, .int (nI 0)), (4, .int (nI 0))]) hx hb dX0_afterWish_59 hl (by decide) rfl (fun ls hl => ?_)
          refine lv_iload hx hb dX0_afterWish_61 (lv_at hl 0 rfl) ?_
          refine lv_if_ne (tgt := 81) hx hb dX0_afterWish_63 (by decide) (fun c63_11 => ?_) (fun c63_11 => by first | exact absurd (by decide) c63_11 | exact absurd c63_11 (by decide))
          refine lv_lload_n hx hb dX0_afterWish_81 rfl (lv_at hl 4 rfl) ?_
          refine lv_bipush (v := nI 22) hx hb dX0_afterWish_82 (by decide) ?_
          refine lv_bipush (v := nI 9) hx hb dX0_afterWish_84 (by decide) ?_
          refine lv_iload_n hx hb dX0_afterWish_86 rfl (lv_at hl 5 rfl) ?_
          refine lv_imul hx hb dX0_afterWish_87 ?_
          refine lv_topE (nI 0) (pk_mul _ _) ?_
          refine lv_iadd hx hb dX0_afterWish_88 ?_
          refine lv_topE (nI 22) (nI_add _ _) ?_
          refine lv_sipush (v := nI 511) hx hb dX0_afterWish_89 (by decide) ?_
          refine lv_iconst (v := nI 0) hx hb dX0_afterWish_92 (by decide) ?_
          refine cSl (As := [.long (lN sx), .int (nI 22), .int (nI 511), .int (nI 0)]) (rest := []) ⟨hx, hb, hml, hown, hts⟩ (c_X0_with l  sx 22 9 0 (by omega) (by omega) (by omega) (by omega) (by omega)) (va_cwS 4 hts (gS mU_420 mU_421 mU_27 mU_422) rfl rfl rfl (by decide +kernel) ⟨Nat.le_of_ble_eq_true rfl, Nat.le_of_ble_eq_true rfl⟩) fbU (fun _ _ _ => trivial) rfl hl.1 rfl (Nat.le_of_ble_eq_true rfl) dX0_afterWish_93 ⟨Nat.zero_le _, Nat.zero_le _⟩ ?_
          have hf_12 : withN sx 22 9 0 < 2 ^ 44 := withN_lt (by omega) (by omega) (by omega)
          refine lv_lconst (v := lN 1) hx hb dX0_afterWish_96 rfl ?_
          refine lv_bipush (v := nI 40) hx hb dX0_afterWish_97 (by decide) ?_
          refine lv_iload_n hx hb dX0_afterWish_99 rfl (lv_at hl 5 rfl) ?_
          refine lv_iadd hx hb dX0_afterWish_100 ?_
          refine lv_topE (nI 40) (nI_add _ _) ?_
          refine lv_lshl hx hb dX0_afterWish_101 rfl ?_
          refine lv_lor hx hb dX0_afterWish_102 ?_
          refine lv_topEl (lN (withN sx 22 9 0 ||| 1 * 2 ^ 40)) (z_orv (by omega) (by omega) (by decide)) ?_
          subst hQ
          exact rtl hx hb hr hlocks rfl (by first | (unfold wishC; (try first | rw [if_pos c19_3] | rw [if_neg c19_3]); (try first | rw [if_pos c35_4] | rw [if_neg c35_4]); (try first | rw [if_pos c51_6] | rw [if_neg c51_6]); (try rfl); done) | (exfalso; omega)) dX0_afterWish_103
      · have c35_4 : ¬ (mayC so0 (bitsN sx (22) 9) 0) := bP_f c35_4
        refine lv_ldc2 (v := (-1)) hx hb hown (hU _ mU_391) dX0_afterWish_38 ?_
        subst hQ
        exact rtl hx hb hr hlocks rfl (by first | (unfold wishC; (try first | rw [if_pos c19_3] | rw [if_neg c19_3]); (try first | rw [if_pos c35_4] | rw [if_neg c35_4]); (try rfl); done) | (exfalso; omega)) dX0_afterWish_41
  · have hl : lv_has ls 11 [(0, .ref ma), (1, .long (lN sx)), (3, .int (nI 0)), (4, .int (nI 1))] := hl
    refine lv_lload_n hx hb dX0_afterWish_0 rfl (lv_at hl 1 rfl) ?_
    refine lv_iload_n hx hb dX0_afterWish_1 rfl (lv_at hl 2 rfl) ?_
    refine cSi (As := [.long (lN sx), .int (nI 0)]) (rest := []) ⟨hx, hb, hml, hown, hts⟩ (c_X0_queueOf l  sx 0 (by omega) (by omega)) (va_cwS 2 hts (gS mU_404 mU_405 mU_27 mU_406) rfl rfl rfl (by decide +kernel) ⟨Nat.le_of_ble_eq_true rfl, Nat.le_of_ble_eq_true rfl⟩) fbU (fun _ _ _ => trivial) rfl hl.1 rfl (Nat.le_of_ble_eq_true rfl) dX0_afterWish_2 ⟨Nat.zero_le _, Nat.zero_le _⟩ ?_
    have hf_13 : bitsN sx (22) 9 < 512 := bitsN_lt _ _ _
    refine lv_istore (lv' := [(5, .int (nI (bitsN sx (22) 9))), (0, .ref ma), (1, .long (lN sx)), (3, .int (nI 0)), (4, .int (nI 1))]) hx hb dX0_afterWish_5 hl (by decide) rfl (fun ls hl => ?_)
    refine lv_iload hx hb dX0_afterWish_7 (lv_at hl 0 rfl) ?_
    refine lv_iload hx hb dX0_afterWish_9 (lv_at hl 4 rfl) ?_
    refine cSi (As := [.int (nI (bitsN sx (22) 9)), .int (nI 1)]) (rest := []) ⟨hx, hb, hml, hown, hts⟩ (c_X0_wishAt l  (bitsN sx (22) 9) 1 (by omega) (by omega)) (va_cwS 2 hts (gS mU_413 mU_414 mU_27 mU_415) rfl rfl rfl (by decide +kernel) ⟨Nat.le_of_ble_eq_true rfl, Nat.le_of_ble_eq_true rfl⟩) fbU (fun _ _ _ => trivial) rfl hl.1 rfl (Nat.le_of_ble_eq_true rfl) dX0_afterWish_11 ⟨Nat.zero_le _, Nat.zero_le _⟩ ?_
    have hf_14 : wishA (bitsN sx (22) 9) 1 < 7 ∨ wishA (bitsN sx (22) 9) 1 = 4294967295 := wishA_or _ _
    refine lv_istore (lv' := [(6, .int (nI (wishA (bitsN sx (22) 9) 1))), (5, .int (nI (bitsN sx (22) 9))), (0, .ref ma), (1, .long (lN sx)), (3, .int (nI 0)), (4, .int (nI 1))]) hx hb dX0_afterWish_14 hl (by decide) rfl (fun ls hl => ?_)
    refine lv_iload hx hb dX0_afterWish_16 (lv_at hl 0 rfl) ?_
    refine lv_iconst (v := nI 4294967295) hx hb dX0_afterWish_18 (by decide) ?_
    refine lv_icmp_eq (tgt := 38) hx hb dX0_afterWish_19 (by decide) (fun c19_15 => ?_) (fun c19_15 => ?_)
    · have c19_15 : wishA (bitsN sx (22) 9) 1 = 4294967295 := (nI_eqG (a := wishA (bitsN sx (22) 9) 1) (b := 4294967295) (by omega) (by omega)).mp c19_15
      refine lv_ldc2 (v := (-1)) hx hb hown (hU _ mU_391) dX0_afterWish_38 ?_
      subst hQ
      exact rtl hx hb hr hlocks rfl (by first | (unfold wishC; (try first | rw [if_pos c19_15] | rw [if_neg c19_15]); (try rfl); done) | (exfalso; omega)) dX0_afterWish_41
    · have c19_15 : ¬ (wishA (bitsN sx (22) 9) 1 = 4294967295) := fun h9 => c19_15 ((nI_eqG (a := wishA (bitsN sx (22) 9) 1) (b := 4294967295) (by omega) (by omega)).mpr h9)
      refine lv_aload_n hx hb dX0_afterWish_22 rfl (lv_at hl 2 rfl) ?_
      refine va_get (D := D) (ci := 0) (v := .ref mb) (C := RX0) (T := TX0) (N := 4) hx hb hU iX0 hown hK hP 0 rfl rfl 0 (by decide) (hU _ mU_54) (fun _ h9 => h9) rfl dX0_afterWish_23 ?_
      refine lv_iload_n hx hb dX0_afterWish_26 rfl (lv_at hl 4 rfl) ?_
      refine va_aldq hx hb hK hP 1 0 rfl rfl (vp_in_nI (n := 0) (by decide) (by decide)) dX0_afterWish_27 ?_
      refine W.eq (g2 := F0 m 28 ls [.ref pa0]) (by rw [nI_clamp (show 0 < 2 ^ 31 by decide)]; rfl) ?_
      refine lv_iload hx hb dX0_afterWish_28 (lv_at hl 1 rfl) ?_
      refine lv_iload hx hb dX0_afterWish_30 (lv_at hl 5 rfl) ?_
      have hPc := hP.sub (ws' := [(pa0, .inr (1, [.int (nI n0), .ref pb0, .ref pc0])), (pb0, .inl (kb0, 8, .inl (nA so0))), (pc0, .inl (kc0, 32, .inl (nA nu0)))]) [4, 5, 6] rfl
      have hKc := hK.sub (tys' := [(kb0, .int), (kc0, .int)]) [3, 4] rfl
      refine cSi (As := [.ref pa0, .int (nI (bitsN sx (22) 9)), .int (nI 1)]) (rest := []) ⟨hx, hb, hml, hown, hts⟩ (c_X0_mayBeDone l D pb0 pc0 kb0 kc0 n0 so0 nu0 pa0 (bitsN sx (22) 9) 1 (by omega) (by omega) (hso)) (va_cwS 3 hts (gS mU_439 mU_440 mU_27 mU_441) rfl rfl rfl (by decide +kernel) ⟨Nat.le_of_ble_eq_true rfl, Nat.le_of_ble_eq_true rfl⟩) fbR (PR.of hPc hKc) rfl hl.1 rfl (Nat.le_of_ble_eq_true rfl) dX0_afterWish_32 ⟨Nat.zero_le _, Nat.zero_le _⟩ ?_
      refine lv_if_ne (tgt := 42) hx hb dX0_afterWish_35 (by decide) (fun c35_16 => ?_) (fun c35_16 => ?_)
      · have c35_16 : mayC so0 (bitsN sx (22) 9) 1 := bP_t c35_16
        have hv := hqv 1 (by decide) c19_15
        have hokw := hok _ hv.1
        have hka := okS_a hokw hv.2
        refine lv_lload_n hx hb dX0_afterWish_42 rfl (lv_at hl 3 rfl) ?_
        refine lv_bipush (v := nI 43) hx hb dX0_afterWish_43 (by decide) ?_
        refine lv_iload_n hx hb dX0_afterWish_45 rfl (lv_at hl 4 rfl) ?_
        refine lv_isub hx hb dX0_afterWish_46 ?_
        refine lv_topE (nI 43) (pk_sub (by omega)) ?_
        refine lv_iconst (v := nI 1) hx hb dX0_afterWish_47 (by decide) ?_
        refine cSi (As := [.long (lN sx), .int (nI 43), .int (nI 1)]) (rest := []) ⟨hx, hb, hml, hown, hts⟩ (c_X0_bits l  sx 43 1 (by omega) (by omega)) (va_cwS 3 hts (gS mU_398 mU_399 mU_27 mU_400) rfl rfl rfl (by decide +kernel) ⟨Nat.le_of_ble_eq_true rfl, Nat.le_of_ble_eq_true rfl⟩) fbU (fun _ _ _ => trivial) rfl hl.1 rfl (Nat.le_of_ble_eq_true rfl) dX0_afterWish_48 ⟨Nat.zero_le _, Nat.zero_le _⟩ ?_
        have hf_17 : bitsN sx 43 1 < 2 ^ 1 := bitsN_lt _ _ _
        refine lv_if_eq (tgt := 58) hx hb dX0_afterWish_51 (by decide) (fun c51_18 => ?_) (fun c51_18 => ?_)
        · have c51_18 : bitsN sx 43 1 = 0 := (nI_eqG (a := bitsN sx 43 1) (b := 0) (by omega) (by omega)).mp c51_18
          refine lv_iconst (v := nI 0) hx hb dX0_afterWish_58 (by decide) ?_
          refine lv_istore (lv' := [(7, .int (nI 0)), (6, .int (nI (wishA (bitsN sx (22) 9) 1))), (5, .int (nI (bitsN sx (22) 9))), (0, .ref ma), (1, .long (lN sx)), (3, .int (nI 0)), (4, .int (nI 1))]) hx hb dX0_afterWish_59 hl (by decide) rfl (fun ls hl => ?_)
          refine lv_iload hx hb dX0_afterWish_61 (lv_at hl 0 rfl) ?_
          refine lv_if_ne (tgt := 81) hx hb dX0_afterWish_63 (by decide) (fun c63_19 => by first | exact absurd c63_19 (by decide) | exact absurd (by decide) c63_19) (fun c63_19 => ?_)
          refine lv_aload_n hx hb dX0_afterWish_66 rfl (lv_at hl 3 rfl) ?_
          refine lv_aload_n hx hb dX0_afterWish_67 rfl (lv_at hl 3 rfl) ?_
          refine va_get (D := D) (ci := 0) (v := .ref mb) (C := RX0) (T := TX0) (N := 4) hx hb hU iX0 hown hK hP 0 rfl rfl 0 (by decide) (hU _ mU_54) (fun _ h9 => h9) rfl dX0_afterWish_68 ?_
          refine lv_iload_n hx hb dX0_afterWish_71 rfl (lv_at hl 5 rfl) ?_
          refine va_aldq hx hb hK hP 1 0 rfl rfl (vp_in_nI (n := 0) (by decide) (by decide)) dX0_afterWish_72 ?_
          refine W.eq (g2 := F0 m 73 ls [.ref pa0, .ref ma]) (by rw [nI_clamp (show 0 < 2 ^ 31 by decide)]; rfl) ?_
          refine lv_iload hx hb dX0_afterWish_73 (lv_at hl 1 rfl) ?_
          refine cVi (As := [.ref pa0, .int (nI (wishA (bitsN sx (22) 9) 1))]) (rest := []) ⟨hx, hb, hml, hown, hts⟩ (c_X0_hasRight0 l D ma mb mc md k0 k1 k2 mf wo ri pa0 pb0 pc0 kb0 kc0 n0 so0 nu0 pa1 pb1 pc1 kb1 kc1 n1 so1 nu1 (wishA (bitsN sx (22) 9) 1) (by omega) (hka.1) (hso _) (hri)) (cwV 2 hts (gV mU_442 mU_443 mU_444 mU_27 mU_445) rfl rfl rfl (by decide +kernel) ⟨Nat.le_of_ble_eq_true rfl, Nat.le_of_ble_eq_true rfl⟩) fbR (va_recv hK hP (ci := 0) (q0 := 0) rfl rfl) (PR.of hP hK) rfl hl.1 rfl (Nat.le_of_ble_eq_true rfl) dX0_afterWish_75 ⟨Nat.zero_le _, Nat.zero_le _⟩ ?_
          refine lv_if_ne (tgt := 104) hx hb dX0_afterWish_78 (by decide) (fun c78_20 => ?_) (fun c78_20 => ?_)
          · have c78_20 : rgtC ri so0 nu0 (wishA (bitsN sx (22) 9) 1) := bP_t c78_20
            refine lv_iload hx hb dX0_afterWish_104 (lv_at hl 2 rfl) ?_
            refine lv_iconst (v := nI 1) hx hb dX0_afterWish_106 (by decide) ?_
            refine lv_iconst (v := nI 3) hx hb dX0_afterWish_107 (by decide) ?_
            refine lv_iload hx hb dX0_afterWish_108 (lv_at hl 6 rfl) ?_
            refine lv_imul hx hb dX0_afterWish_110 ?_
            refine lv_topE (nI 3) (pk_mul _ _) ?_
            refine lv_ishl hx hb dX0_afterWish_111 ?_
            refine lv_iconst (v := nI 1) hx hb dX0_afterWish_112 (by decide) ?_
            refine lv_isub hx hb dX0_afterWish_113 ?_
            refine lv_iand hx hb dX0_afterWish_114 ?_
            refine lv_topE (nI (bitsN sx 22 9 % 2 ^ 3)) (by rw [z_one 3 (by decide), fa_mask]) ?_
            refine lv_istore (lv' := [(8, .int (nI (bitsN sx 22 9 % 2 ^ 3))), (7, .int (nI 0)), (6, .int (nI (wishA (bitsN sx (22) 9) 1))), (5, .int (nI (bitsN sx (22) 9))), (0, .ref ma), (1, .long (lN sx)), (3, .int (nI 0)), (4, .int (nI 1))]) hx hb dX0_afterWish_115 hl (by decide) rfl (fun ls hl => ?_)
            refine lv_iload hx hb dX0_afterWish_117 (lv_at hl 3 rfl) ?_
            refine lv_iconst (v := nI 3) hx hb dX0_afterWish_119 (by decide) ?_
            refine lv_iload hx hb dX0_afterWish_120 (lv_at hl 7 rfl) ?_
            refine lv_imul hx hb dX0_afterWish_122 ?_
            refine lv_topE (nI 3) (pk_mul _ _) ?_
            refine lv_iconst (v := nI 3) hx hb dX0_afterWish_123 (by decide) ?_
            refine lv_iadd hx hb dX0_afterWish_124 ?_
            refine lv_topE (nI 6) (nI_add _ _) ?_
            refine lv_ishr hx hb dX0_afterWish_125 ?_
            refine lv_topE (nI (bitsN sx 22 9 / 2 ^ 6)) (z_shr32 (by omega) (by decide)) ?_
            refine lv_istore (lv' := [(9, .int (nI (bitsN sx 22 9 / 2 ^ 6))), (8, .int (nI (bitsN sx 22 9 % 2 ^ 3))), (7, .int (nI 0)), (6, .int (nI (wishA (bitsN sx (22) 9) 1))), (5, .int (nI (bitsN sx (22) 9))), (0, .ref ma), (1, .long (lN sx)), (3, .int (nI 0)), (4, .int (nI 1))]) hx hb dX0_afterWish_126 hl (by decide) rfl (fun ls hl => ?_)
            refine lv_iload hx hb dX0_afterWish_128 (lv_at hl 1 rfl) ?_
            refine lv_iload hx hb dX0_afterWish_130 (lv_at hl 0 rfl) ?_
            refine lv_iconst (v := nI 3) hx hb dX0_afterWish_132 (by decide) ?_
            refine lv_iload hx hb dX0_afterWish_133 (lv_at hl 8 rfl) ?_
            refine lv_imul hx hb dX0_afterWish_135 ?_
            refine lv_topE (nI 3) (pk_mul _ _) ?_
            refine lv_ishl hx hb dX0_afterWish_136 ?_
            refine lv_topE (nI (bitsN sx 22 9 / 2 ^ 6 * 2 ^ 3)) (pk_shlN _ 3 (z_s32 3 (by decide)) (by omega)) ?_
            refine lv_ior hx hb dX0_afterWish_137 ?_
            refine lv_topE (nI (bitsN sx 22 9 % 2 ^ 3 + bitsN sx 22 9 / 2 ^ 6 * 2 ^ 3)) (z_left _ _ 3) ?_
            refine lv_istore (lv' := [(10, .int (nI (bitsN sx 22 9 % 2 ^ 3 + bitsN sx 22 9 / 2 ^ 6 * 2 ^ 3))), (9, .int (nI (bitsN sx 22 9 / 2 ^ 6))), (8, .int (nI (bitsN sx 22 9 % 2 ^ 3))), (7, .int (nI 0)), (6, .int (nI (wishA (bitsN sx (22) 9) 1))), (5, .int (nI (bitsN sx (22) 9))), (0, .ref ma), (1, .long (lN sx)), (3, .int (nI 0)), (4, .int (nI 1))]) hx hb dX0_afterWish_138 hl (by decide) rfl (fun ls hl => ?_)
            refine lv_aload_n hx hb dX0_afterWish_140 rfl (lv_at hl 6 rfl) ?_
            refine lv_lload_n hx hb dX0_afterWish_141 rfl (lv_at hl 7 rfl) ?_
            refine lv_bipush (v := nI 22) hx hb dX0_afterWish_142 (by decide) ?_
            refine lv_bipush (v := nI 9) hx hb dX0_afterWish_144 (by decide) ?_
            refine lv_iload_n hx hb dX0_afterWish_146 rfl (lv_at hl 8 rfl) ?_
            refine lv_imul hx hb dX0_afterWish_147 ?_
            refine lv_topE (nI 0) (pk_mul _ _) ?_
            refine lv_iadd hx hb dX0_afterWish_148 ?_
            refine lv_topE (nI 22) (nI_add _ _) ?_
            refine lv_sipush (v := nI 511) hx hb dX0_afterWish_149 (by decide) ?_
            refine lv_iload hx hb dX0_afterWish_152 (lv_at hl 0 rfl) ?_
            refine cSl (As := [.long (lN sx), .int (nI 22), .int (nI 511), .int (nI (bitsN sx 22 9 % 2 ^ 3 + bitsN sx 22 9 / 2 ^ 6 * 2 ^ 3))]) (rest := [.ref ma]) ⟨hx, hb, hml, hown, hts⟩ (c_X0_with l  sx 22 9 (bitsN sx 22 9 % 2 ^ 3 + bitsN sx 22 9 / 2 ^ 6 * 2 ^ 3) (by omega) (by omega) (by omega) (by omega) (by omega)) (va_cwS 4 hts (gS mU_420 mU_421 mU_27 mU_422) rfl rfl rfl (by decide +kernel) ⟨Nat.le_of_ble_eq_true rfl, Nat.le_of_ble_eq_true rfl⟩) fbU (fun _ _ _ => trivial) rfl hl.1 rfl (Nat.le_of_ble_eq_true rfl) dX0_afterWish_154 ⟨Nat.zero_le _, Nat.zero_le _⟩ ?_
            have hf_21 : withN sx 22 9 (bitsN sx 22 9 % 2 ^ 3 + bitsN sx 22 9 / 2 ^ 6 * 2 ^ 3) < 2 ^ 44 := withN_lt (by omega) (by omega) (by omega)
            refine lv_iload_n hx hb dX0_afterWish_157 rfl (lv_at hl 8 rfl) ?_
            refine lv_iload hx hb dX0_afterWish_158 (lv_at hl 4 rfl) ?_
            refine cVl (As := [.long (lN (withN sx 22 9 (bitsN sx 22 9 % 2 ^ 3 + bitsN sx 22 9 / 2 ^ 6 * 2 ^ 3))), .int (nI 0), .int (nI (wishA (bitsN sx (22) 9) 1))]) (rest := []) ⟨hx, hb, hml, hown, hts⟩ (c_X0_touched0 l D ma mb mc md k0 k1 k2 mf wo ri pa0 pb0 pc0 kb0 kc0 n0 so0 nu0 pa1 pb1 pc1 kb1 kc1 n1 so1 nu1 (withN sx 22 9 (bitsN sx 22 9 % 2 ^ 3 + bitsN sx 22 9 / 2 ^ 6 * 2 ^ 3)) (wishA (bitsN sx (22) 9) 1) (by omega) (by omega) (hv.2) (hokw)) (cwV 3 hts (gV mU_446 mU_447 mU_448 mU_27 mU_449) rfl rfl rfl (by decide +kernel) ⟨Nat.le_of_ble_eq_true rfl, Nat.le_of_ble_eq_true rfl⟩) fbR (va_recv hK hP (ci := 0) (q0 := 0) rfl rfl) (PR.of hP hK) rfl hl.1 rfl (Nat.le_of_ble_eq_true rfl) dX0_afterWish_160 ⟨Nat.zero_le _, Nat.zero_le _⟩ ?_
            subst hQ
            exact rtl hx hb hr hlocks rfl (by first | (unfold wishC; (try first | rw [if_pos c19_15] | rw [if_neg c19_15]); (try first | rw [if_pos c35_16] | rw [if_neg c35_16]); (try first | rw [if_pos c51_18] | rw [if_neg c51_18]); (try first | rw [if_pos c78_20] | rw [if_neg c78_20]); (try rfl); done) | (exfalso; omega)) dX0_afterWish_163
          · have c78_20 : ¬ (rgtC ri so0 nu0 (wishA (bitsN sx (22) 9) 1)) := bP_f c78_20
            refine lv_lload_n hx hb dX0_afterWish_81 rfl (lv_at hl 4 rfl) ?_
            refine lv_bipush (v := nI 22) hx hb dX0_afterWish_82 (by decide) ?_
            refine lv_bipush (v := nI 9) hx hb dX0_afterWish_84 (by decide) ?_
            refine lv_iload_n hx hb dX0_afterWish_86 rfl (lv_at hl 5 rfl) ?_
            refine lv_imul hx hb dX0_afterWish_87 ?_
            refine lv_topE (nI 0) (pk_mul _ _) ?_
            refine lv_iadd hx hb dX0_afterWish_88 ?_
            refine lv_topE (nI 22) (nI_add _ _) ?_
            refine lv_sipush (v := nI 511) hx hb dX0_afterWish_89 (by decide) ?_
            refine lv_iconst (v := nI 0) hx hb dX0_afterWish_92 (by decide) ?_
            refine cSl (As := [.long (lN sx), .int (nI 22), .int (nI 511), .int (nI 0)]) (rest := []) ⟨hx, hb, hml, hown, hts⟩ (c_X0_with l  sx 22 9 0 (by omega) (by omega) (by omega) (by omega) (by omega)) (va_cwS 4 hts (gS mU_420 mU_421 mU_27 mU_422) rfl rfl rfl (by decide +kernel) ⟨Nat.le_of_ble_eq_true rfl, Nat.le_of_ble_eq_true rfl⟩) fbU (fun _ _ _ => trivial) rfl hl.1 rfl (Nat.le_of_ble_eq_true rfl) dX0_afterWish_93 ⟨Nat.zero_le _, Nat.zero_le _⟩ ?_
            have hf_22 : withN sx 22 9 0 < 2 ^ 44 := withN_lt (by omega) (by omega) (by omega)
            refine lv_lconst (v := lN 1) hx hb dX0_afterWish_96 rfl ?_
            refine lv_bipush (v := nI 40) hx hb dX0_afterWish_97 (by decide) ?_
            refine lv_iload_n hx hb dX0_afterWish_99 rfl (lv_at hl 5 rfl) ?_
            refine lv_iadd hx hb dX0_afterWish_100 ?_
            refine lv_topE (nI 40) (nI_add _ _) ?_
            refine lv_lshl hx hb dX0_afterWish_101 rfl ?_
            refine lv_lor hx hb dX0_afterWish_102 ?_
            refine lv_topEl (lN (withN sx 22 9 0 ||| 1 * 2 ^ 40)) (z_orv (by omega) (by omega) (by decide)) ?_
            subst hQ
            exact rtl hx hb hr hlocks rfl (by first | (unfold wishC; (try first | rw [if_pos c19_15] | rw [if_neg c19_15]); (try first | rw [if_pos c35_16] | rw [if_neg c35_16]); (try first | rw [if_pos c51_18] | rw [if_neg c51_18]); (try first | rw [if_pos c78_20] | rw [if_neg c78_20]); (try rfl); done) | (exfalso; omega)) dX0_afterWish_103
        · have c51_18 : ¬ (bitsN sx 43 1 = 0) := fun h9 => c51_18 ((nI_eqG (a := bitsN sx 43 1) (b := 0) (by omega) (by omega)).mpr h9)
          refine lv_iconst (v := nI 1) hx hb dX0_afterWish_54 (by decide) ?_
          refine lv_goto (tgt := 59) hx hb dX0_afterWish_55 (by decide) ?_
          refine lv_istore (lv' := [(7, .int (nI 1)), (6, .int (nI (wishA (bitsN sx (22) 9) 1))), (5, .int (nI (bitsN sx (22) 9))), (0, .ref ma), (1, .long (lN sx)), (3, .int (nI 0)), (4, .int (nI 1))]) hx hb dX0_afterWish_59 hl (by decide) rfl (fun ls hl => ?_)
          refine lv_iload hx hb dX0_afterWish_61 (lv_at hl 0 rfl) ?_
          refine lv_if_ne (tgt := 81) hx hb dX0_afterWish_63 (by decide) (fun c63_23 => ?_) (fun c63_23 => by first | exact absurd (by decide) c63_23 | exact absurd c63_23 (by decide))
          refine lv_lload_n hx hb dX0_afterWish_81 rfl (lv_at hl 4 rfl) ?_
          refine lv_bipush (v := nI 22) hx hb dX0_afterWish_82 (by decide) ?_
          refine lv_bipush (v := nI 9) hx hb dX0_afterWish_84 (by decide) ?_
          refine lv_iload_n hx hb dX0_afterWish_86 rfl (lv_at hl 5 rfl) ?_
          refine lv_imul hx hb dX0_afterWish_87 ?_
          refine lv_topE (nI 0) (pk_mul _ _) ?_
          refine lv_iadd hx hb dX0_afterWish_88 ?_
          refine lv_topE (nI 22) (nI_add _ _) ?_
          refine lv_sipush (v := nI 511) hx hb dX0_afterWish_89 (by decide) ?_
          refine lv_iconst (v := nI 0) hx hb dX0_afterWish_92 (by decide) ?_
          refine cSl (As := [.long (lN sx), .int (nI 22), .int (nI 511), .int (nI 0)]) (rest := []) ⟨hx, hb, hml, hown, hts⟩ (c_X0_with l  sx 22 9 0 (by omega) (by omega) (by omega) (by omega) (by omega)) (va_cwS 4 hts (gS mU_420 mU_421 mU_27 mU_422) rfl rfl rfl (by decide +kernel) ⟨Nat.le_of_ble_eq_true rfl, Nat.le_of_ble_eq_true rfl⟩) fbU (fun _ _ _ => trivial) rfl hl.1 rfl (Nat.le_of_ble_eq_true rfl) dX0_afterWish_93 ⟨Nat.zero_le _, Nat.zero_le _⟩ ?_
          have hf_24 : withN sx 22 9 0 < 2 ^ 44 := withN_lt (by omega) (by omega) (by omega)
          refine lv_lconst (v := lN 1) hx hb dX0_afterWish_96 rfl ?_
          refine lv_bipush (v := nI 40) hx hb dX0_afterWish_97 (by decide) ?_
          refine lv_iload_n hx hb dX0_afterWish_99 rfl (lv_at hl 5 rfl) ?_
          refine lv_iadd hx hb dX0_afterWish_100 ?_
          refine lv_topE (nI 40) (nI_add _ _) ?_
          refine lv_lshl hx hb dX0_afterWish_101 rfl ?_
          refine lv_lor hx hb dX0_afterWish_102 ?_
          refine lv_topEl (lN (withN sx 22 9 0 ||| 1 * 2 ^ 40)) (z_orv (by omega) (by omega) (by decide)) ?_
          subst hQ
          exact rtl hx hb hr hlocks rfl (by first | (unfold wishC; (try first | rw [if_pos c19_15] | rw [if_neg c19_15]); (try first | rw [if_pos c35_16] | rw [if_neg c35_16]); (try first | rw [if_pos c51_18] | rw [if_neg c51_18]); (try rfl); done) | (exfalso; omega)) dX0_afterWish_103
      · have c35_16 : ¬ (mayC so0 (bitsN sx (22) 9) 1) := bP_f c35_16
        refine lv_ldc2 (v := (-1)) hx hb hown (hU _ mU_391) dX0_afterWish_38 ?_
        subst hQ
        exact rtl hx hb hr hlocks rfl (by first | (unfold wishC; (try first | rw [if_pos c19_15] | rw [if_neg c19_15]); (try first | rw [if_pos c35_16] | rw [if_neg c35_16]); (try rfl); done) | (exfalso; omega)) dX0_afterWish_41
  · have hl : lv_has ls 11 [(0, .ref ma), (1, .long (lN sx)), (3, .int (nI 0)), (4, .int (nI 2))] := hl
    refine lv_lload_n hx hb dX0_afterWish_0 rfl (lv_at hl 1 rfl) ?_
    refine lv_iload_n hx hb dX0_afterWish_1 rfl (lv_at hl 2 rfl) ?_
    refine cSi (As := [.long (lN sx), .int (nI 0)]) (rest := []) ⟨hx, hb, hml, hown, hts⟩ (c_X0_queueOf l  sx 0 (by omega) (by omega)) (va_cwS 2 hts (gS mU_404 mU_405 mU_27 mU_406) rfl rfl rfl (by decide +kernel) ⟨Nat.le_of_ble_eq_true rfl, Nat.le_of_ble_eq_true rfl⟩) fbU (fun _ _ _ => trivial) rfl hl.1 rfl (Nat.le_of_ble_eq_true rfl) dX0_afterWish_2 ⟨Nat.zero_le _, Nat.zero_le _⟩ ?_
    have hf_25 : bitsN sx (22) 9 < 512 := bitsN_lt _ _ _
    refine lv_istore (lv' := [(5, .int (nI (bitsN sx (22) 9))), (0, .ref ma), (1, .long (lN sx)), (3, .int (nI 0)), (4, .int (nI 2))]) hx hb dX0_afterWish_5 hl (by decide) rfl (fun ls hl => ?_)
    refine lv_iload hx hb dX0_afterWish_7 (lv_at hl 0 rfl) ?_
    refine lv_iload hx hb dX0_afterWish_9 (lv_at hl 4 rfl) ?_
    refine cSi (As := [.int (nI (bitsN sx (22) 9)), .int (nI 2)]) (rest := []) ⟨hx, hb, hml, hown, hts⟩ (c_X0_wishAt l  (bitsN sx (22) 9) 2 (by omega) (by omega)) (va_cwS 2 hts (gS mU_413 mU_414 mU_27 mU_415) rfl rfl rfl (by decide +kernel) ⟨Nat.le_of_ble_eq_true rfl, Nat.le_of_ble_eq_true rfl⟩) fbU (fun _ _ _ => trivial) rfl hl.1 rfl (Nat.le_of_ble_eq_true rfl) dX0_afterWish_11 ⟨Nat.zero_le _, Nat.zero_le _⟩ ?_
    have hf_26 : wishA (bitsN sx (22) 9) 2 < 7 ∨ wishA (bitsN sx (22) 9) 2 = 4294967295 := wishA_or _ _
    refine lv_istore (lv' := [(6, .int (nI (wishA (bitsN sx (22) 9) 2))), (5, .int (nI (bitsN sx (22) 9))), (0, .ref ma), (1, .long (lN sx)), (3, .int (nI 0)), (4, .int (nI 2))]) hx hb dX0_afterWish_14 hl (by decide) rfl (fun ls hl => ?_)
    refine lv_iload hx hb dX0_afterWish_16 (lv_at hl 0 rfl) ?_
    refine lv_iconst (v := nI 4294967295) hx hb dX0_afterWish_18 (by decide) ?_
    refine lv_icmp_eq (tgt := 38) hx hb dX0_afterWish_19 (by decide) (fun c19_27 => ?_) (fun c19_27 => ?_)
    · have c19_27 : wishA (bitsN sx (22) 9) 2 = 4294967295 := (nI_eqG (a := wishA (bitsN sx (22) 9) 2) (b := 4294967295) (by omega) (by omega)).mp c19_27
      refine lv_ldc2 (v := (-1)) hx hb hown (hU _ mU_391) dX0_afterWish_38 ?_
      subst hQ
      exact rtl hx hb hr hlocks rfl (by first | (unfold wishC; (try first | rw [if_pos c19_27] | rw [if_neg c19_27]); (try rfl); done) | (exfalso; omega)) dX0_afterWish_41
    · have c19_27 : ¬ (wishA (bitsN sx (22) 9) 2 = 4294967295) := fun h9 => c19_27 ((nI_eqG (a := wishA (bitsN sx (22) 9) 2) (b := 4294967295) (by omega) (by omega)).mpr h9)
      refine lv_aload_n hx hb dX0_afterWish_22 rfl (lv_at hl 2 rfl) ?_
      refine va_get (D := D) (ci := 0) (v := .ref mb) (C := RX0) (T := TX0) (N := 4) hx hb hU iX0 hown hK hP 0 rfl rfl 0 (by decide) (hU _ mU_54) (fun _ h9 => h9) rfl dX0_afterWish_23 ?_
      refine lv_iload_n hx hb dX0_afterWish_26 rfl (lv_at hl 4 rfl) ?_
      refine va_aldq hx hb hK hP 1 0 rfl rfl (vp_in_nI (n := 0) (by decide) (by decide)) dX0_afterWish_27 ?_
      refine W.eq (g2 := F0 m 28 ls [.ref pa0]) (by rw [nI_clamp (show 0 < 2 ^ 31 by decide)]; rfl) ?_
      refine lv_iload hx hb dX0_afterWish_28 (lv_at hl 1 rfl) ?_
      refine lv_iload hx hb dX0_afterWish_30 (lv_at hl 5 rfl) ?_
      have hPc := hP.sub (ws' := [(pa0, .inr (1, [.int (nI n0), .ref pb0, .ref pc0])), (pb0, .inl (kb0, 8, .inl (nA so0))), (pc0, .inl (kc0, 32, .inl (nA nu0)))]) [4, 5, 6] rfl
      have hKc := hK.sub (tys' := [(kb0, .int), (kc0, .int)]) [3, 4] rfl
      refine cSi (As := [.ref pa0, .int (nI (bitsN sx (22) 9)), .int (nI 2)]) (rest := []) ⟨hx, hb, hml, hown, hts⟩ (c_X0_mayBeDone l D pb0 pc0 kb0 kc0 n0 so0 nu0 pa0 (bitsN sx (22) 9) 2 (by omega) (by omega) (hso)) (va_cwS 3 hts (gS mU_439 mU_440 mU_27 mU_441) rfl rfl rfl (by decide +kernel) ⟨Nat.le_of_ble_eq_true rfl, Nat.le_of_ble_eq_true rfl⟩) fbR (PR.of hPc hKc) rfl hl.1 rfl (Nat.le_of_ble_eq_true rfl) dX0_afterWish_32 ⟨Nat.zero_le _, Nat.zero_le _⟩ ?_
      refine lv_if_ne (tgt := 42) hx hb dX0_afterWish_35 (by decide) (fun c35_28 => ?_) (fun c35_28 => ?_)
      · have c35_28 : mayC so0 (bitsN sx (22) 9) 2 := bP_t c35_28
        have hv := hqv 2 (by decide) c19_27
        have hokw := hok _ hv.1
        have hka := okS_a hokw hv.2
        refine lv_lload_n hx hb dX0_afterWish_42 rfl (lv_at hl 3 rfl) ?_
        refine lv_bipush (v := nI 43) hx hb dX0_afterWish_43 (by decide) ?_
        refine lv_iload_n hx hb dX0_afterWish_45 rfl (lv_at hl 4 rfl) ?_
        refine lv_isub hx hb dX0_afterWish_46 ?_
        refine lv_topE (nI 43) (pk_sub (by omega)) ?_
        refine lv_iconst (v := nI 1) hx hb dX0_afterWish_47 (by decide) ?_
        refine cSi (As := [.long (lN sx), .int (nI 43), .int (nI 1)]) (rest := []) ⟨hx, hb, hml, hown, hts⟩ (c_X0_bits l  sx 43 1 (by omega) (by omega)) (va_cwS 3 hts (gS mU_398 mU_399 mU_27 mU_400) rfl rfl rfl (by decide +kernel) ⟨Nat.le_of_ble_eq_true rfl, Nat.le_of_ble_eq_true rfl⟩) fbU (fun _ _ _ => trivial) rfl hl.1 rfl (Nat.le_of_ble_eq_true rfl) dX0_afterWish_48 ⟨Nat.zero_le _, Nat.zero_le _⟩ ?_
        have hf_29 : bitsN sx 43 1 < 2 ^ 1 := bitsN_lt _ _ _
        refine lv_if_eq (tgt := 58) hx hb dX0_afterWish_51 (by decide) (fun c51_30 => ?_) (fun c51_30 => ?_)
        · have c51_30 : bitsN sx 43 1 = 0 := (nI_eqG (a := bitsN sx 43 1) (b := 0) (by omega) (by omega)).mp c51_30
          refine lv_iconst (v := nI 0) hx hb dX0_afterWish_58 (by decide) ?_
          refine lv_istore (lv' := [(7, .int (nI 0)), (6, .int (nI (wishA (bitsN sx (22) 9) 2))), (5, .int (nI (bitsN sx (22) 9))), (0, .ref ma), (1, .long (lN sx)), (3, .int (nI 0)), (4, .int (nI 2))]) hx hb dX0_afterWish_59 hl (by decide) rfl (fun ls hl => ?_)
          refine lv_iload hx hb dX0_afterWish_61 (lv_at hl 0 rfl) ?_
          refine lv_if_ne (tgt := 81) hx hb dX0_afterWish_63 (by decide) (fun c63_31 => by first | exact absurd c63_31 (by decide) | exact absurd (by decide) c63_31) (fun c63_31 => ?_)
          refine lv_aload_n hx hb dX0_afterWish_66 rfl (lv_at hl 3 rfl) ?_
          refine lv_aload_n hx hb dX0_afterWish_67 rfl (lv_at hl 3 rfl) ?_
          refine va_get (D := D) (ci := 0) (v := .ref mb) (C := RX0) (T := TX0) (N := 4) hx hb hU iX0 hown hK hP 0 rfl rfl 0 (by decide) (hU _ mU_54) (fun _ h9 => h9) rfl dX0_afterWish_68 ?_
          refine lv_iload_n hx hb dX0_afterWish_71 rfl (lv_at hl 5 rfl) ?_
          refine va_aldq hx hb hK hP 1 0 rfl rfl (vp_in_nI (n := 0) (by decide) (by decide)) dX0_afterWish_72 ?_
          refine W.eq (g2 := F0 m 73 ls [.ref pa0, .ref ma]) (by rw [nI_clamp (show 0 < 2 ^ 31 by decide)]; rfl) ?_
          refine lv_iload hx hb dX0_afterWish_73 (lv_at hl 1 rfl) ?_
          refine cVi (As := [.ref pa0, .int (nI (wishA (bitsN sx (22) 9) 2))]) (rest := []) ⟨hx, hb, hml, hown, hts⟩ (c_X0_hasRight0 l D ma mb mc md k0 k1 k2 mf wo ri pa0 pb0 pc0 kb0 kc0 n0 so0 nu0 pa1 pb1 pc1 kb1 kc1 n1 so1 nu1 (wishA (bitsN sx (22) 9) 2) (by omega) (hka.1) (hso _) (hri)) (cwV 2 hts (gV mU_442 mU_443 mU_444 mU_27 mU_445) rfl rfl rfl (by decide +kernel) ⟨Nat.le_of_ble_eq_true rfl, Nat.le_of_ble_eq_true rfl⟩) fbR (va_recv hK hP (ci := 0) (q0 := 0) rfl rfl) (PR.of hP hK) rfl hl.1 rfl (Nat.le_of_ble_eq_true rfl) dX0_afterWish_75 ⟨Nat.zero_le _, Nat.zero_le _⟩ ?_
          refine lv_if_ne (tgt := 104) hx hb dX0_afterWish_78 (by decide) (fun c78_32 => ?_) (fun c78_32 => ?_)
          · have c78_32 : rgtC ri so0 nu0 (wishA (bitsN sx (22) 9) 2) := bP_t c78_32
            refine lv_iload hx hb dX0_afterWish_104 (lv_at hl 2 rfl) ?_
            refine lv_iconst (v := nI 1) hx hb dX0_afterWish_106 (by decide) ?_
            refine lv_iconst (v := nI 3) hx hb dX0_afterWish_107 (by decide) ?_
            refine lv_iload hx hb dX0_afterWish_108 (lv_at hl 6 rfl) ?_
            refine lv_imul hx hb dX0_afterWish_110 ?_
            refine lv_topE (nI 6) (pk_mul _ _) ?_
            refine lv_ishl hx hb dX0_afterWish_111 ?_
            refine lv_iconst (v := nI 1) hx hb dX0_afterWish_112 (by decide) ?_
            refine lv_isub hx hb dX0_afterWish_113 ?_
            refine lv_iand hx hb dX0_afterWish_114 ?_
            refine lv_topE (nI (bitsN sx 22 9 % 2 ^ 6)) (by rw [z_one 6 (by decide), fa_mask]) ?_
            refine lv_istore (lv' := [(8, .int (nI (bitsN sx 22 9 % 2 ^ 6))), (7, .int (nI 0)), (6, .int (nI (wishA (bitsN sx (22) 9) 2))), (5, .int (nI (bitsN sx (22) 9))), (0, .ref ma), (1, .long (lN sx)), (3, .int (nI 0)), (4, .int (nI 2))]) hx hb dX0_afterWish_115 hl (by decide) rfl (fun ls hl => ?_)
            refine lv_iload hx hb dX0_afterWish_117 (lv_at hl 3 rfl) ?_
            refine lv_iconst (v := nI 3) hx hb dX0_afterWish_119 (by decide) ?_
            refine lv_iload hx hb dX0_afterWish_120 (lv_at hl 7 rfl) ?_
            refine lv_imul hx hb dX0_afterWish_122 ?_
            refine lv_topE (nI 6) (pk_mul _ _) ?_
            refine lv_iconst (v := nI 3) hx hb dX0_afterWish_123 (by decide) ?_
            refine lv_iadd hx hb dX0_afterWish_124 ?_
            refine lv_topE (nI 9) (nI_add _ _) ?_
            refine lv_ishr hx hb dX0_afterWish_125 ?_
            refine lv_topE (nI (bitsN sx 22 9 / 2 ^ 9)) (z_shr32 (by omega) (by decide)) ?_
            refine lv_istore (lv' := [(9, .int (nI (bitsN sx 22 9 / 2 ^ 9))), (8, .int (nI (bitsN sx 22 9 % 2 ^ 6))), (7, .int (nI 0)), (6, .int (nI (wishA (bitsN sx (22) 9) 2))), (5, .int (nI (bitsN sx (22) 9))), (0, .ref ma), (1, .long (lN sx)), (3, .int (nI 0)), (4, .int (nI 2))]) hx hb dX0_afterWish_126 hl (by decide) rfl (fun ls hl => ?_)
            refine lv_iload hx hb dX0_afterWish_128 (lv_at hl 1 rfl) ?_
            refine lv_iload hx hb dX0_afterWish_130 (lv_at hl 0 rfl) ?_
            refine lv_iconst (v := nI 3) hx hb dX0_afterWish_132 (by decide) ?_
            refine lv_iload hx hb dX0_afterWish_133 (lv_at hl 8 rfl) ?_
            refine lv_imul hx hb dX0_afterWish_135 ?_
            refine lv_topE (nI 6) (pk_mul _ _) ?_
            refine lv_ishl hx hb dX0_afterWish_136 ?_
            refine lv_topE (nI (bitsN sx 22 9 / 2 ^ 9 * 2 ^ 6)) (pk_shlN _ 6 (z_s32 6 (by decide)) (by omega)) ?_
            refine lv_ior hx hb dX0_afterWish_137 ?_
            refine lv_topE (nI (bitsN sx 22 9 % 2 ^ 6 + bitsN sx 22 9 / 2 ^ 9 * 2 ^ 6)) (z_left _ _ 6) ?_
            refine lv_istore (lv' := [(10, .int (nI (bitsN sx 22 9 % 2 ^ 6 + bitsN sx 22 9 / 2 ^ 9 * 2 ^ 6))), (9, .int (nI (bitsN sx 22 9 / 2 ^ 9))), (8, .int (nI (bitsN sx 22 9 % 2 ^ 6))), (7, .int (nI 0)), (6, .int (nI (wishA (bitsN sx (22) 9) 2))), (5, .int (nI (bitsN sx (22) 9))), (0, .ref ma), (1, .long (lN sx)), (3, .int (nI 0)), (4, .int (nI 2))]) hx hb dX0_afterWish_138 hl (by decide) rfl (fun ls hl => ?_)
            refine lv_aload_n hx hb dX0_afterWish_140 rfl (lv_at hl 6 rfl) ?_
            refine lv_lload_n hx hb dX0_afterWish_141 rfl (lv_at hl 7 rfl) ?_
            refine lv_bipush (v := nI 22) hx hb dX0_afterWish_142 (by decide) ?_
            refine lv_bipush (v := nI 9) hx hb dX0_afterWish_144 (by decide) ?_
            refine lv_iload_n hx hb dX0_afterWish_146 rfl (lv_at hl 8 rfl) ?_
            refine lv_imul hx hb dX0_afterWish_147 ?_
            refine lv_topE (nI 0) (pk_mul _ _) ?_
            refine lv_iadd hx hb dX0_afterWish_148 ?_
            refine lv_topE (nI 22) (nI_add _ _) ?_
            refine lv_sipush (v := nI 511) hx hb dX0_afterWish_149 (by decide) ?_
            refine lv_iload hx hb dX0_afterWish_152 (lv_at hl 0 rfl) ?_
            refine cSl (As := [.long (lN sx), .int (nI 22), .int (nI 511), .int (nI (bitsN sx 22 9 % 2 ^ 6 + bitsN sx 22 9 / 2 ^ 9 * 2 ^ 6))]) (rest := [.ref ma]) ⟨hx, hb, hml, hown, hts⟩ (c_X0_with l  sx 22 9 (bitsN sx 22 9 % 2 ^ 6 + bitsN sx 22 9 / 2 ^ 9 * 2 ^ 6) (by omega) (by omega) (by omega) (by omega) (by omega)) (va_cwS 4 hts (gS mU_420 mU_421 mU_27 mU_422) rfl rfl rfl (by decide +kernel) ⟨Nat.le_of_ble_eq_true rfl, Nat.le_of_ble_eq_true rfl⟩) fbU (fun _ _ _ => trivial) rfl hl.1 rfl (Nat.le_of_ble_eq_true rfl) dX0_afterWish_154 ⟨Nat.zero_le _, Nat.zero_le _⟩ ?_
            have hf_33 : withN sx 22 9 (bitsN sx 22 9 % 2 ^ 6 + bitsN sx 22 9 / 2 ^ 9 * 2 ^ 6) < 2 ^ 44 := withN_lt (by omega) (by omega) (by omega)
            refine lv_iload_n hx hb dX0_afterWish_157 rfl (lv_at hl 8 rfl) ?_
            refine lv_iload hx hb dX0_afterWish_158 (lv_at hl 4 rfl) ?_
            refine cVl (As := [.long (lN (withN sx 22 9 (bitsN sx 22 9 % 2 ^ 6 + bitsN sx 22 9 / 2 ^ 9 * 2 ^ 6))), .int (nI 0), .int (nI (wishA (bitsN sx (22) 9) 2))]) (rest := []) ⟨hx, hb, hml, hown, hts⟩ (c_X0_touched0 l D ma mb mc md k0 k1 k2 mf wo ri pa0 pb0 pc0 kb0 kc0 n0 so0 nu0 pa1 pb1 pc1 kb1 kc1 n1 so1 nu1 (withN sx 22 9 (bitsN sx 22 9 % 2 ^ 6 + bitsN sx 22 9 / 2 ^ 9 * 2 ^ 6)) (wishA (bitsN sx (22) 9) 2) (by omega) (by omega) (hv.2) (hokw)) (cwV 3 hts (gV mU_446 mU_447 mU_448 mU_27 mU_449) rfl rfl rfl (by decide +kernel) ⟨Nat.le_of_ble_eq_true rfl, Nat.le_of_ble_eq_true rfl⟩) fbR (va_recv hK hP (ci := 0) (q0 := 0) rfl rfl) (PR.of hP hK) rfl hl.1 rfl (Nat.le_of_ble_eq_true rfl) dX0_afterWish_160 ⟨Nat.zero_le _, Nat.zero_le _⟩ ?_
            subst hQ
            exact rtl hx hb hr hlocks rfl (by first | (unfold wishC; (try first | rw [if_pos c19_27] | rw [if_neg c19_27]); (try first | rw [if_pos c35_28] | rw [if_neg c35_28]); (try first | rw [if_pos c51_30] | rw [if_neg c51_30]); (try first | rw [if_pos c78_32] | rw [if_neg c78_32]); (try rfl); done) | (exfalso; omega)) dX0_afterWish_163
          · have c78_32 : ¬ (rgtC ri so0 nu0 (wishA (bitsN sx (22) 9) 2)) := bP_f c78_32
            refine lv_lload_n hx hb dX0_afterWish_81 rfl (lv_at hl 4 rfl) ?_
            refine lv_bipush (v := nI 22) hx hb dX0_afterWish_82 (by decide) ?_
            refine lv_bipush (v := nI 9) hx hb dX0_afterWish_84 (by decide) ?_
            refine lv_iload_n hx hb dX0_afterWish_86 rfl (lv_at hl 5 rfl) ?_
            refine lv_imul hx hb dX0_afterWish_87 ?_
            refine lv_topE (nI 0) (pk_mul _ _) ?_
            refine lv_iadd hx hb dX0_afterWish_88 ?_
            refine lv_topE (nI 22) (nI_add _ _) ?_
            refine lv_sipush (v := nI 511) hx hb dX0_afterWish_89 (by decide) ?_
            refine lv_iconst (v := nI 0) hx hb dX0_afterWish_92 (by decide) ?_
            refine cSl (As := [.long (lN sx), .int (nI 22), .int (nI 511), .int (nI 0)]) (rest := []) ⟨hx, hb, hml, hown, hts⟩ (c_X0_with l  sx 22 9 0 (by omega) (by omega) (by omega) (by omega) (by omega)) (va_cwS 4 hts (gS mU_420 mU_421 mU_27 mU_422) rfl rfl rfl (by decide +kernel) ⟨Nat.le_of_ble_eq_true rfl, Nat.le_of_ble_eq_true rfl⟩) fbU (fun _ _ _ => trivial) rfl hl.1 rfl (Nat.le_of_ble_eq_true rfl) dX0_afterWish_93 ⟨Nat.zero_le _, Nat.zero_le _⟩ ?_
            have hf_34 : withN sx 22 9 0 < 2 ^ 44 := withN_lt (by omega) (by omega) (by omega)
            refine lv_lconst (v := lN 1) hx hb dX0_afterWish_96 rfl ?_
            refine lv_bipush (v := nI 40) hx hb dX0_afterWish_97 (by decide) ?_
            refine lv_iload_n hx hb dX0_afterWish_99 rfl (lv_at hl 5 rfl) ?_
            refine lv_iadd hx hb dX0_afterWish_100 ?_
            refine lv_topE (nI 40) (nI_add _ _) ?_
            refine lv_lshl hx hb dX0_afterWish_101 rfl ?_
            refine lv_lor hx hb dX0_afterWish_102 ?_
            refine lv_topEl (lN (withN sx 22 9 0 ||| 1 * 2 ^ 40)) (z_orv (by omega) (by omega) (by decide)) ?_
            subst hQ
            exact rtl hx hb hr hlocks rfl (by first | (unfold wishC; (try first | rw [if_pos c19_27] | rw [if_neg c19_27]); (try first | rw [if_pos c35_28] | rw [if_neg c35_28]); (try first | rw [if_pos c51_30] | rw [if_neg c51_30]); (try first | rw [if_pos c78_32] | rw [if_neg c78_32]); (try rfl); done) | (exfalso; omega)) dX0_afterWish_103
        · have c51_30 : ¬ (bitsN sx 43 1 = 0) := fun h9 => c51_30 ((nI_eqG (a := bitsN sx 43 1) (b := 0) (by omega) (by omega)).mpr h9)
          refine lv_iconst (v := nI 1) hx hb dX0_afterWish_54 (by decide) ?_
          refine lv_goto (tgt := 59) hx hb dX0_afterWish_55 (by decide) ?_
          refine lv_istore (lv' := [(7, .int (nI 1)), (6, .int (nI (wishA (bitsN sx (22) 9) 2))), (5, .int (nI (bitsN sx (22) 9))), (0, .ref ma), (1, .long (lN sx)), (3, .int (nI 0)), (4, .int (nI 2))]) hx hb dX0_afterWish_59 hl (by decide) rfl (fun ls hl => ?_)
          refine lv_iload hx hb dX0_afterWish_61 (lv_at hl 0 rfl) ?_
          refine lv_if_ne (tgt := 81) hx hb dX0_afterWish_63 (by decide) (fun c63_35 => ?_) (fun c63_35 => by first | exact absurd (by decide) c63_35 | exact absurd c63_35 (by decide))
          refine lv_lload_n hx hb dX0_afterWish_81 rfl (lv_at hl 4 rfl) ?_
          refine lv_bipush (v := nI 22) hx hb dX0_afterWish_82 (by decide) ?_
          refine lv_bipush (v := nI 9) hx hb dX0_afterWish_84 (by decide) ?_
          refine lv_iload_n hx hb dX0_afterWish_86 rfl (lv_at hl 5 rfl) ?_
          refine lv_imul hx hb dX0_afterWish_87 ?_
          refine lv_topE (nI 0) (pk_mul _ _) ?_
          refine lv_iadd hx hb dX0_afterWish_88 ?_
          refine lv_topE (nI 22) (nI_add _ _) ?_
          refine lv_sipush (v := nI 511) hx hb dX0_afterWish_89 (by decide) ?_
          refine lv_iconst (v := nI 0) hx hb dX0_afterWish_92 (by decide) ?_
          refine cSl (As := [.long (lN sx), .int (nI 22), .int (nI 511), .int (nI 0)]) (rest := []) ⟨hx, hb, hml, hown, hts⟩ (c_X0_with l  sx 22 9 0 (by omega) (by omega) (by omega) (by omega) (by omega)) (va_cwS 4 hts (gS mU_420 mU_421 mU_27 mU_422) rfl rfl rfl (by decide +kernel) ⟨Nat.le_of_ble_eq_true rfl, Nat.le_of_ble_eq_true rfl⟩) fbU (fun _ _ _ => trivial) rfl hl.1 rfl (Nat.le_of_ble_eq_true rfl) dX0_afterWish_93 ⟨Nat.zero_le _, Nat.zero_le _⟩ ?_
          have hf_36 : withN sx 22 9 0 < 2 ^ 44 := withN_lt (by omega) (by omega) (by omega)
          refine lv_lconst (v := lN 1) hx hb dX0_afterWish_96 rfl ?_
          refine lv_bipush (v := nI 40) hx hb dX0_afterWish_97 (by decide) ?_
          refine lv_iload_n hx hb dX0_afterWish_99 rfl (lv_at hl 5 rfl) ?_
          refine lv_iadd hx hb dX0_afterWish_100 ?_
          refine lv_topE (nI 40) (nI_add _ _) ?_
          refine lv_lshl hx hb dX0_afterWish_101 rfl ?_
          refine lv_lor hx hb dX0_afterWish_102 ?_
          refine lv_topEl (lN (withN sx 22 9 0 ||| 1 * 2 ^ 40)) (z_orv (by omega) (by omega) (by decide)) ?_
          subst hQ
          exact rtl hx hb hr hlocks rfl (by first | (unfold wishC; (try first | rw [if_pos c19_27] | rw [if_neg c19_27]); (try first | rw [if_pos c35_28] | rw [if_neg c35_28]); (try first | rw [if_pos c51_30] | rw [if_neg c51_30]); (try rfl); done) | (exfalso; omega)) dX0_afterWish_103
      · have c35_28 : ¬ (mayC so0 (bitsN sx (22) 9) 2) := bP_f c35_28
        refine lv_ldc2 (v := (-1)) hx hb hown (hU _ mU_391) dX0_afterWish_38 ?_
        subst hQ
        exact rtl hx hb hr hlocks rfl (by first | (unfold wishC; (try first | rw [if_pos c19_27] | rw [if_neg c19_27]); (try first | rw [if_pos c35_28] | rw [if_neg c35_28]); (try rfl); done) | (exfalso; omega)) dX0_afterWish_41

set_option maxHeartbeats 4000000 in
set_option maxRecDepth 100000 in
theorem c_X0_afterWish1 (l : Launch) (D : va_G) (ma mb mc md : Nat) (k0 k1 k2 : ClassId) (mf : Nat) (wo ri : Nat → Nat) (pa0 pb0 pc0 : Nat) (kb0 kc0 : ClassId) (n0 : Nat) (so0 nu0 : Nat → Nat) (pa1 pb1 pc1 : Nat) (kb1 kc1 : ClassId) (n1 : Nat) (so1 nu1 : Nat → Nat) (sx : Nat) (pl : Nat) (hsx : sx < 2 ^ 44) (hpl : pl < 3) (hn : n1 ≤ 7) (hso : ∀ j, so1 j < 2147483648) (hri : ∀ j, ri j < 2147483648) (hok : ∀ i, i < n1 → okS (so1 i) (nu1 (i * 4 + 0)) (nu1 (i * 4 + 1)) (nu1 (i * 4 + 2)) (nu1 (i * 4 + 3))) (hqv : ∀ k, k < 3 → ¬ wishA (bitsN sx 31 9) k = 4294967295 → wishA (bitsN sx 31 9) k < n1 ∧ so1 (wishA (bitsN sx 31 9) k) < 4) : Met l yX0_afterWish (.code yX0_afterWish cX0_afterWish 11 (some .long) :: wsL_law) ({ frames := 3, cells := 0, slots := 0, locals := 67 }) (va_Pc [.ref ma, .long (lN sx), .int (nI 1), .int (nI pl)] (PR D (kW ma mb mc md k0 k1 k2 mf wo ri pa0 pb0 pc0 kb0 kc0 n0 so0 nu0 pa1 pb1 pc1 kb1 kc1 n1 so1 nu1) (kT k0 k1 k2 kb0 kc0 kb1 kc1))) (QrL (eO (wishC so1 nu1 ri sx 1 pl))) 0 0 (fun _ => False) := by
  refine Met.ofW (cc := cX0_afterWish) (maxL := 11) (ret := (some .long)) (by decide) rfl ?_
  intro p e s m args below meth c s₁ B hml hv
  obtain ⟨rfl, hP, hK⟩ := hv
  have hx := B.exec
  have hb := B.bytes
  have hr := B.returns
  have hts := atoms_spec (ws := .code yX0_afterWish cX0_afterWish 11 (some .long) :: wsL_law) B.pre
  have hU : ∀ w ∈ wsL_law, w.before _ s = true := fun w h => hts w (List.mem_cons_of_mem _ h)
  have hown : s.vm.findClass RX0 = some m.cls := findClass_of_methodNamed B.named
  have hlocks := B.notSynchronized
  generalize hQ : MQ _ _ _ _ _ _ _ = Q
  have hl := lv_entry ([.ref ma, .long (lN sx), .int (nI 1), .int (nI pl)]) (n := 11) (Nat.le_of_ble_eq_true rfl)
  rw [lg_entry_eq]
  generalize (lg_sl ([.ref ma, .long (lN sx), .int (nI 1), .int (nI pl)]) ++ List.replicate (11 - (lg_sl ([.ref ma, .long (lN sx), .int (nI 1), .int (nI pl)])).length) Slot.unset).toArray = ls at hl ⊢
  have hl : lv_has ls 11 [(0, .ref ma), (1, .long (lN sx)), (3, .int (nI 1)), (4, .int (nI pl))] := hl
  rcases (show pl = 0 ∨ pl = 1 ∨ pl = 2 from by omega) with rfl | rfl | rfl
  · have hl : lv_has ls 11 [(0, .ref ma), (1, .long (lN sx)), (3, .int (nI 1)), (4, .int (nI 0))] := hl
    refine lv_lload_n hx hb dX0_afterWish_0 rfl (lv_at hl 1 rfl) ?_
    refine lv_iload_n hx hb dX0_afterWish_1 rfl (lv_at hl 2 rfl) ?_
    refine cSi (As := [.long (lN sx), .int (nI 1)]) (rest := []) ⟨hx, hb, hml, hown, hts⟩ (c_X0_queueOf l  sx 1 (by omega) (by omega)) (va_cwS 2 hts (gS mU_404 mU_405 mU_27 mU_406) rfl rfl rfl (by decide +kernel) ⟨Nat.le_of_ble_eq_true rfl, Nat.le_of_ble_eq_true rfl⟩) fbU (fun _ _ _ => trivial) rfl hl.1 rfl (Nat.le_of_ble_eq_true rfl) dX0_afterWish_2 ⟨Nat.zero_le _, Nat.zero_le _⟩ ?_
    have hf_1 : bitsN sx (31) 9 < 512 := bitsN_lt _ _ _
    refine lv_istore (lv' := [(5, .int (nI (bitsN sx (31) 9))), (0, .ref ma), (1, .long (lN sx)), (3, .int (nI 1)), (4, .int (nI 0))]) hx hb dX0_afterWish_5 hl (by decide) rfl (fun ls hl => ?_)
    refine lv_iload hx hb dX0_afterWish_7 (lv_at hl 0 rfl) ?_
    refine lv_iload hx hb dX0_afterWish_9 (lv_at hl 4 rfl) ?_
    refine cSi (As := [.int (nI (bitsN sx (31) 9)), .int (nI 0)]) (rest := []) ⟨hx, hb, hml, hown, hts⟩ (c_X0_wishAt l  (bitsN sx (31) 9) 0 (by omega) (by omega)) (va_cwS 2 hts (gS mU_413 mU_414 mU_27 mU_415) rfl rfl rfl (by decide +kernel) ⟨Nat.le_of_ble_eq_true rfl, Nat.le_of_ble_eq_true rfl⟩) fbU (fun _ _ _ => trivial) rfl hl.1 rfl (Nat.le_of_ble_eq_true rfl) dX0_afterWish_11 ⟨Nat.zero_le _, Nat.zero_le _⟩ ?_
    have hf_2 : wishA (bitsN sx (31) 9) 0 < 7 ∨ wishA (bitsN sx (31) 9) 0 = 4294967295 := wishA_or _ _
    refine lv_istore (lv' := [(6, .int (nI (wishA (bitsN sx (31) 9) 0))), (5, .int (nI (bitsN sx (31) 9))), (0, .ref ma), (1, .long (lN sx)), (3, .int (nI 1)), (4, .int (nI 0))]) hx hb dX0_afterWish_14 hl (by decide) rfl (fun ls hl => ?_)
    refine lv_iload hx hb dX0_afterWish_16 (lv_at hl 0 rfl) ?_
    refine lv_iconst (v := nI 4294967295) hx hb dX0_afterWish_18 (by decide) ?_
    refine lv_icmp_eq (tgt := 38) hx hb dX0_afterWish_19 (by decide) (fun c19_3 => ?_) (fun c19_3 => ?_)
    · have c19_3 : wishA (bitsN sx (31) 9) 0 = 4294967295 := (nI_eqG (a := wishA (bitsN sx (31) 9) 0) (b := 4294967295) (by omega) (by omega)).mp c19_3
      refine lv_ldc2 (v := (-1)) hx hb hown (hU _ mU_391) dX0_afterWish_38 ?_
      subst hQ
      exact rtl hx hb hr hlocks rfl (by first | (unfold wishC; (try first | rw [if_pos c19_3] | rw [if_neg c19_3]); (try rfl); done) | (exfalso; omega)) dX0_afterWish_41
    · have c19_3 : ¬ (wishA (bitsN sx (31) 9) 0 = 4294967295) := fun h9 => c19_3 ((nI_eqG (a := wishA (bitsN sx (31) 9) 0) (b := 4294967295) (by omega) (by omega)).mpr h9)
      refine lv_aload_n hx hb dX0_afterWish_22 rfl (lv_at hl 2 rfl) ?_
      refine va_get (D := D) (ci := 0) (v := .ref mb) (C := RX0) (T := TX0) (N := 4) hx hb hU iX0 hown hK hP 0 rfl rfl 0 (by decide) (hU _ mU_54) (fun _ h9 => h9) rfl dX0_afterWish_23 ?_
      refine lv_iload_n hx hb dX0_afterWish_26 rfl (lv_at hl 4 rfl) ?_
      refine va_aldq hx hb hK hP 1 0 rfl rfl (vp_in_nI (n := 1) (by decide) (by decide)) dX0_afterWish_27 ?_
      refine W.eq (g2 := F0 m 28 ls [.ref pa1]) (by rw [nI_clamp (show 1 < 2 ^ 31 by decide)]; rfl) ?_
      refine lv_iload hx hb dX0_afterWish_28 (lv_at hl 1 rfl) ?_
      refine lv_iload hx hb dX0_afterWish_30 (lv_at hl 5 rfl) ?_
      have hPc := hP.sub (ws' := [(pa1, .inr (1, [.int (nI n1), .ref pb1, .ref pc1])), (pb1, .inl (kb1, 8, .inl (nA so1))), (pc1, .inl (kc1, 32, .inl (nA nu1)))]) [7, 8, 9] rfl
      have hKc := hK.sub (tys' := [(kb1, .int), (kc1, .int)]) [5, 6] rfl
      refine cSi (As := [.ref pa1, .int (nI (bitsN sx (31) 9)), .int (nI 0)]) (rest := []) ⟨hx, hb, hml, hown, hts⟩ (c_X0_mayBeDone l D pb1 pc1 kb1 kc1 n1 so1 nu1 pa1 (bitsN sx (31) 9) 0 (by omega) (by omega) (hso)) (va_cwS 3 hts (gS mU_439 mU_440 mU_27 mU_441) rfl rfl rfl (by decide +kernel) ⟨Nat.le_of_ble_eq_true rfl, Nat.le_of_ble_eq_true rfl⟩) fbR (PR.of hPc hKc) rfl hl.1 rfl (Nat.le_of_ble_eq_true rfl) dX0_afterWish_32 ⟨Nat.zero_le _, Nat.zero_le _⟩ ?_
      refine lv_if_ne (tgt := 42) hx hb dX0_afterWish_35 (by decide) (fun c35_4 => ?_) (fun c35_4 => ?_)
      · have c35_4 : mayC so1 (bitsN sx (31) 9) 0 := bP_t c35_4
        have hv := hqv 0 (by decide) c19_3
        have hokw := hok _ hv.1
        have hka := okS_a hokw hv.2
        refine lv_lload_n hx hb dX0_afterWish_42 rfl (lv_at hl 3 rfl) ?_
        refine lv_bipush (v := nI 43) hx hb dX0_afterWish_43 (by decide) ?_
        refine lv_iload_n hx hb dX0_afterWish_45 rfl (lv_at hl 4 rfl) ?_
        refine lv_isub hx hb dX0_afterWish_46 ?_
        refine lv_topE (nI 42) (pk_sub (by omega)) ?_
        refine lv_iconst (v := nI 1) hx hb dX0_afterWish_47 (by decide) ?_
        refine cSi (As := [.long (lN sx), .int (nI 42), .int (nI 1)]) (rest := []) ⟨hx, hb, hml, hown, hts⟩ (c_X0_bits l  sx 42 1 (by omega) (by omega)) (va_cwS 3 hts (gS mU_398 mU_399 mU_27 mU_400) rfl rfl rfl (by decide +kernel) ⟨Nat.le_of_ble_eq_true rfl, Nat.le_of_ble_eq_true rfl⟩) fbU (fun _ _ _ => trivial) rfl hl.1 rfl (Nat.le_of_ble_eq_true rfl) dX0_afterWish_48 ⟨Nat.zero_le _, Nat.zero_le _⟩ ?_
        have hf_5 : bitsN sx 42 1 < 2 ^ 1 := bitsN_lt _ _ _
        refine lv_if_eq (tgt := 58) hx hb dX0_afterWish_51 (by decide) (fun c51_6 => ?_) (fun c51_6 => ?_)
        · have c51_6 : bitsN sx 42 1 = 0 := (nI_eqG (a := bitsN sx 42 1) (b := 0) (by omega) (by omega)).mp c51_6
          refine lv_iconst (v := nI 0) hx hb dX0_afterWish_58 (by decide) ?_
          refine lv_istore (lv' := [(7, .int (nI 0)), (6, .int (nI (wishA (bitsN sx (31) 9) 0))), (5, .int (nI (bitsN sx (31) 9))), (0, .ref ma), (1, .long (lN sx)), (3, .int (nI 1)), (4, .int (nI 0))]) hx hb dX0_afterWish_59 hl (by decide) rfl (fun ls hl => ?_)
          refine lv_iload hx hb dX0_afterWish_61 (lv_at hl 0 rfl) ?_
          refine lv_if_ne (tgt := 81) hx hb dX0_afterWish_63 (by decide) (fun c63_7 => by first | exact absurd c63_7 (by decide) | exact absurd (by decide) c63_7) (fun c63_7 => ?_)
          refine lv_aload_n hx hb dX0_afterWish_66 rfl (lv_at hl 3 rfl) ?_
          refine lv_aload_n hx hb dX0_afterWish_67 rfl (lv_at hl 3 rfl) ?_
          refine va_get (D := D) (ci := 0) (v := .ref mb) (C := RX0) (T := TX0) (N := 4) hx hb hU iX0 hown hK hP 0 rfl rfl 0 (by decide) (hU _ mU_54) (fun _ h9 => h9) rfl dX0_afterWish_68 ?_
          refine lv_iload_n hx hb dX0_afterWish_71 rfl (lv_at hl 5 rfl) ?_
          refine va_aldq hx hb hK hP 1 0 rfl rfl (vp_in_nI (n := 1) (by decide) (by decide)) dX0_afterWish_72 ?_
          refine W.eq (g2 := F0 m 73 ls [.ref pa1, .ref ma]) (by rw [nI_clamp (show 1 < 2 ^ 31 by decide)]; rfl) ?_
          refine lv_iload hx hb dX0_afterWish_73 (lv_at hl 1 rfl) ?_
          refine cVi (As := [.ref pa1, .int (nI (wishA (bitsN sx (31) 9) 0))]) (rest := []) ⟨hx, hb, hml, hown, hts⟩ (c_X0_hasRight1 l D ma mb mc md k0 k1 k2 mf wo ri pa0 pb0 pc0 kb0 kc0 n0 so0 nu0 pa1 pb1 pc1 kb1 kc1 n1 so1 nu1 (wishA (bitsN sx (31) 9) 0) (by omega) (hka.1) (hso _) (hri)) (cwV 2 hts (gV mU_442 mU_443 mU_444 mU_27 mU_445) rfl rfl rfl (by decide +kernel) ⟨Nat.le_of_ble_eq_true rfl, Nat.le_of_ble_eq_true rfl⟩) fbR (va_recv hK hP (ci := 0) (q0 := 0) rfl rfl) (PR.of hP hK) rfl hl.1 rfl (Nat.le_of_ble_eq_true rfl) dX0_afterWish_75 ⟨Nat.zero_le _, Nat.zero_le _⟩ ?_
          refine lv_if_ne (tgt := 104) hx hb dX0_afterWish_78 (by decide) (fun c78_8 => ?_) (fun c78_8 => ?_)
          · have c78_8 : rgtC ri so1 nu1 (wishA (bitsN sx (31) 9) 0) := bP_t c78_8
            refine lv_iload hx hb dX0_afterWish_104 (lv_at hl 2 rfl) ?_
            refine lv_iconst (v := nI 1) hx hb dX0_afterWish_106 (by decide) ?_
            refine lv_iconst (v := nI 3) hx hb dX0_afterWish_107 (by decide) ?_
            refine lv_iload hx hb dX0_afterWish_108 (lv_at hl 6 rfl) ?_
            refine lv_imul hx hb dX0_afterWish_110 ?_
            refine lv_topE (nI 0) (pk_mul _ _) ?_
            refine lv_ishl hx hb dX0_afterWish_111 ?_
            refine lv_iconst (v := nI 1) hx hb dX0_afterWish_112 (by decide) ?_
            refine lv_isub hx hb dX0_afterWish_113 ?_
            refine lv_iand hx hb dX0_afterWish_114 ?_
            refine lv_topE (nI (bitsN sx 31 9 % 2 ^ 0)) (by rw [z_one 0 (by decide), fa_mask]) ?_
            refine lv_istore (lv' := [(8, .int (nI (bitsN sx 31 9 % 2 ^ 0))), (7, .int (nI 0)), (6, .int (nI (wishA (bitsN sx (31) 9) 0))), (5, .int (nI (bitsN sx (31) 9))), (0, .ref ma), (1, .long (lN sx)), (3, .int (nI 1)), (4, .int (nI 0))]) hx hb dX0_afterWish_115 hl (by decide) rfl (fun ls hl => ?_)
            refine lv_iload hx hb dX0_afterWish_117 (lv_at hl 3 rfl) ?_
            refine lv_iconst (v := nI 3) hx hb dX0_afterWish_119 (by decide) ?_
            refine lv_iload hx hb dX0_afterWish_120 (lv_at hl 7 rfl) ?_
            refine lv_imul hx hb dX0_afterWish_122 ?_
            refine lv_topE (nI 0) (pk_mul _ _) ?_
            refine lv_iconst (v := nI 3) hx hb dX0_afterWish_123 (by decide) ?_
            refine lv_iadd hx hb dX0_afterWish_124 ?_
            refine lv_topE (nI 3) (nI_add _ _) ?_
            refine lv_ishr hx hb dX0_afterWish_125 ?_
            refine lv_topE (nI (bitsN sx 31 9 / 2 ^ 3)) (z_shr32 (by omega) (by decide)) ?_
            refine lv_istore (lv' := [(9, .int (nI (bitsN sx 31 9 / 2 ^ 3))), (8, .int (nI (bitsN sx 31 9 % 2 ^ 0))), (7, .int (nI 0)), (6, .int (nI (wishA (bitsN sx (31) 9) 0))), (5, .int (nI (bitsN sx (31) 9))), (0, .ref ma), (1, .long (lN sx)), (3, .int (nI 1)), (4, .int (nI 0))]) hx hb dX0_afterWish_126 hl (by decide) rfl (fun ls hl => ?_)
            refine lv_iload hx hb dX0_afterWish_128 (lv_at hl 1 rfl) ?_
            refine lv_iload hx hb dX0_afterWish_130 (lv_at hl 0 rfl) ?_
            refine lv_iconst (v := nI 3) hx hb dX0_afterWish_132 (by decide) ?_
            refine lv_iload hx hb dX0_afterWish_133 (lv_at hl 8 rfl) ?_
            refine lv_imul hx hb dX0_afterWish_135 ?_
            refine lv_topE (nI 0) (pk_mul _ _) ?_
            refine lv_ishl hx hb dX0_afterWish_136 ?_
            refine lv_topE (nI (bitsN sx 31 9 / 2 ^ 3 * 2 ^ 0)) (pk_shlN _ 0 (z_s32 0 (by decide)) (by omega)) ?_
            refine lv_ior hx hb dX0_afterWish_137 ?_
            refine lv_topE (nI (bitsN sx 31 9 % 2 ^ 0 + bitsN sx 31 9 / 2 ^ 3 * 2 ^ 0)) (z_left _ _ 0) ?_
            refine lv_istore (lv' := [(10, .int (nI (bitsN sx 31 9 % 2 ^ 0 + bitsN sx 31 9 / 2 ^ 3 * 2 ^ 0))), (9, .int (nI (bitsN sx 31 9 / 2 ^ 3))), (8, .int (nI (bitsN sx 31 9 % 2 ^ 0))), (7, .int (nI 0)), (6, .int (nI (wishA (bitsN sx (31) 9) 0))), (5, .int (nI (bitsN sx (31) 9))), (0, .ref ma), (1, .long (lN sx)), (3, .int (nI 1)), (4, .int (nI 0))]) hx hb dX0_afterWish_138 hl (by decide) rfl (fun ls hl => ?_)
            refine lv_aload_n hx hb dX0_afterWish_140 rfl (lv_at hl 6 rfl) ?_
            refine lv_lload_n hx hb dX0_afterWish_141 rfl (lv_at hl 7 rfl) ?_
            refine lv_bipush (v := nI 22) hx hb dX0_afterWish_142 (by decide) ?_
            refine lv_bipush (v := nI 9) hx hb dX0_afterWish_144 (by decide) ?_
            refine lv_iload_n hx hb dX0_afterWish_146 rfl (lv_at hl 8 rfl) ?_
            refine lv_imul hx hb dX0_afterWish_147 ?_
            refine lv_topE (nI 9) (pk_mul _ _) ?_
            refine lv_iadd hx hb dX0_afterWish_148 ?_
            refine lv_topE (nI 31) (nI_add _ _) ?_
            refine lv_sipush (v := nI 511) hx hb dX0_afterWish_149 (by decide) ?_
            refine lv_iload hx hb dX0_afterWish_152 (lv_at hl 0 rfl) ?_
            refine cSl (As := [.long (lN sx), .int (nI 31), .int (nI 511), .int (nI (bitsN sx 31 9 % 2 ^ 0 + bitsN sx 31 9 / 2 ^ 3 * 2 ^ 0))]) (rest := [.ref ma]) ⟨hx, hb, hml, hown, hts⟩ (c_X0_with l  sx 31 9 (bitsN sx 31 9 % 2 ^ 0 + bitsN sx 31 9 / 2 ^ 3 * 2 ^ 0) (by omega) (by omega) (by omega) (by omega) (by omega)) (va_cwS 4 hts (gS mU_420 mU_421 mU_27 mU_422) rfl rfl rfl (by decide +kernel) ⟨Nat.le_of_ble_eq_true rfl, Nat.le_of_ble_eq_true rfl⟩) fbU (fun _ _ _ => trivial) rfl hl.1 rfl (Nat.le_of_ble_eq_true rfl) dX0_afterWish_154 ⟨Nat.zero_le _, Nat.zero_le _⟩ ?_
            have hf_9 : withN sx 31 9 (bitsN sx 31 9 % 2 ^ 0 + bitsN sx 31 9 / 2 ^ 3 * 2 ^ 0) < 2 ^ 44 := withN_lt (by omega) (by omega) (by omega)
            refine lv_iload_n hx hb dX0_afterWish_157 rfl (lv_at hl 8 rfl) ?_
            refine lv_iload hx hb dX0_afterWish_158 (lv_at hl 4 rfl) ?_
            refine cVl (As := [.long (lN (withN sx 31 9 (bitsN sx 31 9 % 2 ^ 0 + bitsN sx 31 9 / 2 ^ 3 * 2 ^ 0))), .int (nI 1), .int (nI (wishA (bitsN sx (31) 9) 0))]) (rest := []) ⟨hx, hb, hml, hown, hts⟩ (c_X0_touched1 l D ma mb mc md k0 k1 k2 mf wo ri pa0 pb0 pc0 kb0 kc0 n0 so0 nu0 pa1 pb1 pc1 kb1 kc1 n1 so1 nu1 (withN sx 31 9 (bitsN sx 31 9 % 2 ^ 0 + bitsN sx 31 9 / 2 ^ 3 * 2 ^ 0)) (wishA (bitsN sx (31) 9) 0) (by omega) (by omega) (hv.2) (hokw)) (cwV 3 hts (gV mU_446 mU_447 mU_448 mU_27 mU_449) rfl rfl rfl (by decide +kernel) ⟨Nat.le_of_ble_eq_true rfl, Nat.le_of_ble_eq_true rfl⟩) fbR (va_recv hK hP (ci := 0) (q0 := 0) rfl rfl) (PR.of hP hK) rfl hl.1 rfl (Nat.le_of_ble_eq_true rfl) dX0_afterWish_160 ⟨Nat.zero_le _, Nat.zero_le _⟩ ?_
            subst hQ
            exact rtl hx hb hr hlocks rfl (by first | (unfold wishC; (try first | rw [if_pos c19_3] | rw [if_neg c19_3]); (try first | rw [if_pos c35_4] | rw [if_neg c35_4]); (try first | rw [if_pos c51_6] | rw [if_neg c51_6]); (try first | rw [if_pos c78_8] | rw [if_neg c78_8]); (try rfl); done) | (exfalso; omega)) dX0_afterWish_163
          · have c78_8 : ¬ (rgtC ri so1 nu1 (wishA (bitsN sx (31) 9) 0)) := bP_f c78_8
            refine lv_lload_n hx hb dX0_afterWish_81 rfl (lv_at hl 4 rfl) ?_
            refine lv_bipush (v := nI 22) hx hb dX0_afterWish_82 (by decide) ?_
            refine lv_bipush (v := nI 9) hx hb dX0_afterWish_84 (by decide) ?_
            refine lv_iload_n hx hb dX0_afterWish_86 rfl (lv_at hl 5 rfl) ?_
            refine lv_imul hx hb dX0_afterWish_87 ?_
            refine lv_topE (nI 9) (pk_mul _ _) ?_
            refine lv_iadd hx hb dX0_afterWish_88 ?_
            refine lv_topE (nI 31) (nI_add _ _) ?_
            refine lv_sipush (v := nI 511) hx hb dX0_afterWish_89 (by decide) ?_
            refine lv_iconst (v := nI 0) hx hb dX0_afterWish_92 (by decide) ?_
            refine cSl (As := [.long (lN sx), .int (nI 31), .int (nI 511), .int (nI 0)]) (rest := []) ⟨hx, hb, hml, hown, hts⟩ (c_X0_with l  sx 31 9 0 (by omega) (by omega) (by omega) (by omega) (by omega)) (va_cwS 4 hts (gS mU_420 mU_421 mU_27 mU_422) rfl rfl rfl (by decide +kernel) ⟨Nat.le_of_ble_eq_true rfl, Nat.le_of_ble_eq_true rfl⟩) fbU (fun _ _ _ => trivial) rfl hl.1 rfl (Nat.le_of_ble_eq_true rfl) dX0_afterWish_93 ⟨Nat.zero_le _, Nat.zero_le _⟩ ?_
            have hf_10 : withN sx 31 9 0 < 2 ^ 44 := withN_lt (by omega) (by omega) (by omega)
            refine lv_lconst (v := lN 1) hx hb dX0_afterWish_96 rfl ?_
            refine lv_bipush (v := nI 40) hx hb dX0_afterWish_97 (by decide) ?_
            refine lv_iload_n hx hb dX0_afterWish_99 rfl (lv_at hl 5 rfl) ?_
            refine lv_iadd hx hb dX0_afterWish_100 ?_
            refine lv_topE (nI 41) (nI_add _ _) ?_
            refine lv_lshl hx hb dX0_afterWish_101 rfl ?_
            refine lv_lor hx hb dX0_afterWish_102 ?_
            refine lv_topEl (lN (withN sx 31 9 0 ||| 1 * 2 ^ 41)) (z_orv (by omega) (by omega) (by decide)) ?_
            subst hQ
            exact rtl hx hb hr hlocks rfl (by first | (unfold wishC; (try first | rw [if_pos c19_3] | rw [if_neg c19_3]); (try first | rw [if_pos c35_4] | rw [if_neg c35_4]); (try first | rw [if_pos c51_6] | rw [if_neg c51_6]); (try first | rw [if_pos c78_8] | rw [if_neg c78_8]); (try rfl); done) | (exfalso; omega)) dX0_afterWish_103
        · have c51_6 : ¬ (bitsN sx 42 1 = 0) := fun h9 => c51_6 ((nI_eqG (a := bitsN sx 42 1) (b := 0) (by omega) (by omega)).mpr h9)
          refine lv_iconst (v := nI 1) hx hb dX0_afterWish_54 (by decide) ?_
          refine lv_goto (tgt := 59) hx hb dX0_afterWish_55 (by decide) ?_
          refine lv_istore (lv' := [(7, .int (nI 1)), (6, .int (nI (wishA (bitsN sx (31) 9) 0))), (5, .int (nI (bitsN sx (31) 9))), (0, .ref ma), (1, .long (lN sx)), (3, .int (nI 1)), (4, .int (nI 0))]) hx hb dX0_afterWish_59 hl (by decide) rfl (fun ls hl => ?_)
          refine lv_iload hx hb dX0_afterWish_61 (lv_at hl 0 rfl) ?_
          refine lv_if_ne (tgt := 81) hx hb dX0_afterWish_63 (by decide) (fun c63_11 => ?_) (fun c63_11 => by first | exact absurd (by decide) c63_11 | exact absurd c63_11 (by decide))
          refine lv_lload_n hx hb dX0_afterWish_81 rfl (lv_at hl 4 rfl) ?_
          refine lv_bipush (v := nI 22) hx hb dX0_afterWish_82 (by decide) ?_
          refine lv_bipush (v := nI 9) hx hb dX0_afterWish_84 (by decide) ?_
          refine lv_iload_n hx hb dX0_afterWish_86 rfl (lv_at hl 5 rfl) ?_
          refine lv_imul hx hb dX0_afterWish_87 ?_
          refine lv_topE (nI 9) (pk_mul _ _) ?_
          refine lv_iadd hx hb dX0_afterWish_88 ?_
          refine lv_topE (nI 31) (nI_add _ _) ?_
          refine lv_sipush (v := nI 511) hx hb dX0_afterWish_89 (by decide) ?_
          refine lv_iconst (v := nI 0) hx hb dX0_afterWish_92 (by decide) ?_
          refine cSl (As := [.long (lN sx), .int (nI 31), .int (nI 511), .int (nI 0)]) (rest := []) ⟨hx, hb, hml, hown, hts⟩ (c_X0_with l  sx 31 9 0 (by omega) (by omega) (by omega) (by omega) (by omega)) (va_cwS 4 hts (gS mU_420 mU_421 mU_27 mU_422) rfl rfl rfl (by decide +kernel) ⟨Nat.le_of_ble_eq_true rfl, Nat.le_of_ble_eq_true rfl⟩) fbU (fun _ _ _ => trivial) rfl hl.1 rfl (Nat.le_of_ble_eq_true rfl) dX0_afterWish_93 ⟨Nat.zero_le _, Nat.zero_le _⟩ ?_
          have hf_12 : withN sx 31 9 0 < 2 ^ 44 := withN_lt (by omega) (by omega) (by omega)
          refine lv_lconst (v := lN 1) hx hb dX0_afterWish_96 rfl ?_
          refine lv_bipush (v := nI 40) hx hb dX0_afterWish_97 (by decide) ?_
          refine lv_iload_n hx hb dX0_afterWish_99 rfl (lv_at hl 5 rfl) ?_
          refine lv_iadd hx hb dX0_afterWish_100 ?_
          refine lv_topE (nI 41) (nI_add _ _) ?_
          refine lv_lshl hx hb dX0_afterWish_101 rfl ?_
          refine lv_lor hx hb dX0_afterWish_102 ?_
          refine lv_topEl (lN (withN sx 31 9 0 ||| 1 * 2 ^ 41)) (z_orv (by omega) (by omega) (by decide)) ?_
          subst hQ
          exact rtl hx hb hr hlocks rfl (by first | (unfold wishC; (try first | rw [if_pos c19_3] | rw [if_neg c19_3]); (try first | rw [if_pos c35_4] | rw [if_neg c35_4]); (try first | rw [if_pos c51_6] | rw [if_neg c51_6]); (try rfl); done) | (exfalso; omega)) dX0_afterWish_103
      · have c35_4 : ¬ (mayC so1 (bitsN sx (31) 9) 0) := bP_f c35_4
        refine lv_ldc2 (v := (-1)) hx hb hown (hU _ mU_391) dX0_afterWish_38 ?_
        subst hQ
        exact rtl hx hb hr hlocks rfl (by first | (unfold wishC; (try first | rw [if_pos c19_3] | rw [if_neg c19_3]); (try first | rw [if_pos c35_4] | rw [if_neg c35_4]); (try rfl); done) | (exfalso; omega)) dX0_afterWish_41
  · have hl : lv_has ls 11 [(0, .ref ma), (1, .long (lN sx)), (3, .int (nI 1)), (4, .int (nI 1))] := hl
    refine lv_lload_n hx hb dX0_afterWish_0 rfl (lv_at hl 1 rfl) ?_
    refine lv_iload_n hx hb dX0_afterWish_1 rfl (lv_at hl 2 rfl) ?_
    refine cSi (As := [.long (lN sx), .int (nI 1)]) (rest := []) ⟨hx, hb, hml, hown, hts⟩ (c_X0_queueOf l  sx 1 (by omega) (by omega)) (va_cwS 2 hts (gS mU_404 mU_405 mU_27 mU_406) rfl rfl rfl (by decide +kernel) ⟨Nat.le_of_ble_eq_true rfl, Nat.le_of_ble_eq_true rfl⟩) fbU (fun _ _ _ => trivial) rfl hl.1 rfl (Nat.le_of_ble_eq_true rfl) dX0_afterWish_2 ⟨Nat.zero_le _, Nat.zero_le _⟩ ?_
    have hf_13 : bitsN sx (31) 9 < 512 := bitsN_lt _ _ _
    refine lv_istore (lv' := [(5, .int (nI (bitsN sx (31) 9))), (0, .ref ma), (1, .long (lN sx)), (3, .int (nI 1)), (4, .int (nI 1))]) hx hb dX0_afterWish_5 hl (by decide) rfl (fun ls hl => ?_)
    refine lv_iload hx hb dX0_afterWish_7 (lv_at hl 0 rfl) ?_
    refine lv_iload hx hb dX0_afterWish_9 (lv_at hl 4 rfl) ?_
    refine cSi (As := [.int (nI (bitsN sx (31) 9)), .int (nI 1)]) (rest := []) ⟨hx, hb, hml, hown, hts⟩ (c_X0_wishAt l  (bitsN sx (31) 9) 1 (by omega) (by omega)) (va_cwS 2 hts (gS mU_413 mU_414 mU_27 mU_415) rfl rfl rfl (by decide +kernel) ⟨Nat.le_of_ble_eq_true rfl, Nat.le_of_ble_eq_true rfl⟩) fbU (fun _ _ _ => trivial) rfl hl.1 rfl (Nat.le_of_ble_eq_true rfl) dX0_afterWish_11 ⟨Nat.zero_le _, Nat.zero_le _⟩ ?_
    have hf_14 : wishA (bitsN sx (31) 9) 1 < 7 ∨ wishA (bitsN sx (31) 9) 1 = 4294967295 := wishA_or _ _
    refine lv_istore (lv' := [(6, .int (nI (wishA (bitsN sx (31) 9) 1))), (5, .int (nI (bitsN sx (31) 9))), (0, .ref ma), (1, .long (lN sx)), (3, .int (nI 1)), (4, .int (nI 1))]) hx hb dX0_afterWish_14 hl (by decide) rfl (fun ls hl => ?_)
    refine lv_iload hx hb dX0_afterWish_16 (lv_at hl 0 rfl) ?_
    refine lv_iconst (v := nI 4294967295) hx hb dX0_afterWish_18 (by decide) ?_
    refine lv_icmp_eq (tgt := 38) hx hb dX0_afterWish_19 (by decide) (fun c19_15 => ?_) (fun c19_15 => ?_)
    · have c19_15 : wishA (bitsN sx (31) 9) 1 = 4294967295 := (nI_eqG (a := wishA (bitsN sx (31) 9) 1) (b := 4294967295) (by omega) (by omega)).mp c19_15
      refine lv_ldc2 (v := (-1)) hx hb hown (hU _ mU_391) dX0_afterWish_38 ?_
      subst hQ
      exact rtl hx hb hr hlocks rfl (by first | (unfold wishC; (try first | rw [if_pos c19_15] | rw [if_neg c19_15]); (try rfl); done) | (exfalso; omega)) dX0_afterWish_41
    · have c19_15 : ¬ (wishA (bitsN sx (31) 9) 1 = 4294967295) := fun h9 => c19_15 ((nI_eqG (a := wishA (bitsN sx (31) 9) 1) (b := 4294967295) (by omega) (by omega)).mpr h9)
      refine lv_aload_n hx hb dX0_afterWish_22 rfl (lv_at hl 2 rfl) ?_
      refine va_get (D := D) (ci := 0) (v := .ref mb) (C := RX0) (T := TX0) (N := 4) hx hb hU iX0 hown hK hP 0 rfl rfl 0 (by decide) (hU _ mU_54) (fun _ h9 => h9) rfl dX0_afterWish_23 ?_
      refine lv_iload_n hx hb dX0_afterWish_26 rfl (lv_at hl 4 rfl) ?_
      refine va_aldq hx hb hK hP 1 0 rfl rfl (vp_in_nI (n := 1) (by decide) (by decide)) dX0_afterWish_27 ?_
      refine W.eq (g2 := F0 m 28 ls [.ref pa1]) (by rw [nI_clamp (show 1 < 2 ^ 31 by decide)]; rfl) ?_
      refine lv_iload hx hb dX0_afterWish_28 (lv_at hl 1 rfl) ?_
      refine lv_iload hx hb dX0_afterWish_30 (lv_at hl 5 rfl) ?_
      have hPc := hP.sub (ws' := [(pa1, .inr (1, [.int (nI n1), .ref pb1, .ref pc1])), (pb1, .inl (kb1, 8, .inl (nA so1))), (pc1, .inl (kc1, 32, .inl (nA nu1)))]) [7, 8, 9] rfl
      have hKc := hK.sub (tys' := [(kb1, .int), (kc1, .int)]) [5, 6] rfl
      refine cSi (As := [.ref pa1, .int (nI (bitsN sx (31) 9)), .int (nI 1)]) (rest := []) ⟨hx, hb, hml, hown, hts⟩ (c_X0_mayBeDone l D pb1 pc1 kb1 kc1 n1 so1 nu1 pa1 (bitsN sx (31) 9) 1 (by omega) (by omega) (hso)) (va_cwS 3 hts (gS mU_439 mU_440 mU_27 mU_441) rfl rfl rfl (by decide +kernel) ⟨Nat.le_of_ble_eq_true rfl, Nat.le_of_ble_eq_true rfl⟩) fbR (PR.of hPc hKc) rfl hl.1 rfl (Nat.le_of_ble_eq_true rfl) dX0_afterWish_32 ⟨Nat.zero_le _, Nat.zero_le _⟩ ?_
      refine lv_if_ne (tgt := 42) hx hb dX0_afterWish_35 (by decide) (fun c35_16 => ?_) (fun c35_16 => ?_)
      · have c35_16 : mayC so1 (bitsN sx (31) 9) 1 := bP_t c35_16
        have hv := hqv 1 (by decide) c19_15
        have hokw := hok _ hv.1
        have hka := okS_a hokw hv.2
        refine lv_lload_n hx hb dX0_afterWish_42 rfl (lv_at hl 3 rfl) ?_
        refine lv_bipush (v := nI 43) hx hb dX0_afterWish_43 (by decide) ?_
        refine lv_iload_n hx hb dX0_afterWish_45 rfl (lv_at hl 4 rfl) ?_
        refine lv_isub hx hb dX0_afterWish_46 ?_
        refine lv_topE (nI 42) (pk_sub (by omega)) ?_
        refine lv_iconst (v := nI 1) hx hb dX0_afterWish_47 (by decide) ?_
        refine cSi (As := [.long (lN sx), .int (nI 42), .int (nI 1)]) (rest := []) ⟨hx, hb, hml, hown, hts⟩ (c_X0_bits l  sx 42 1 (by omega) (by omega)) (va_cwS 3 hts (gS mU_398 mU_399 mU_27 mU_400) rfl rfl rfl (by decide +kernel) ⟨Nat.le_of_ble_eq_true rfl, Nat.le_of_ble_eq_true rfl⟩) fbU (fun _ _ _ => trivial) rfl hl.1 rfl (Nat.le_of_ble_eq_true rfl) dX0_afterWish_48 ⟨Nat.zero_le _, Nat.zero_le _⟩ ?_
        have hf_17 : bitsN sx 42 1 < 2 ^ 1 := bitsN_lt _ _ _
        refine lv_if_eq (tgt := 58) hx hb dX0_afterWish_51 (by decide) (fun c51_18 => ?_) (fun c51_18 => ?_)
        · have c51_18 : bitsN sx 42 1 = 0 := (nI_eqG (a := bitsN sx 42 1) (b := 0) (by omega) (by omega)).mp c51_18
          refine lv_iconst (v := nI 0) hx hb dX0_afterWish_58 (by decide) ?_
          refine lv_istore (lv' := [(7, .int (nI 0)), (6, .int (nI (wishA (bitsN sx (31) 9) 1))), (5, .int (nI (bitsN sx (31) 9))), (0, .ref ma), (1, .long (lN sx)), (3, .int (nI 1)), (4, .int (nI 1))]) hx hb dX0_afterWish_59 hl (by decide) rfl (fun ls hl => ?_)
          refine lv_iload hx hb dX0_afterWish_61 (lv_at hl 0 rfl) ?_
          refine lv_if_ne (tgt := 81) hx hb dX0_afterWish_63 (by decide) (fun c63_19 => by first | exact absurd c63_19 (by decide) | exact absurd (by decide) c63_19) (fun c63_19 => ?_)
          refine lv_aload_n hx hb dX0_afterWish_66 rfl (lv_at hl 3 rfl) ?_
          refine lv_aload_n hx hb dX0_afterWish_67 rfl (lv_at hl 3 rfl) ?_
          refine va_get (D := D) (ci := 0) (v := .ref mb) (C := RX0) (T := TX0) (N := 4) hx hb hU iX0 hown hK hP 0 rfl rfl 0 (by decide) (hU _ mU_54) (fun _ h9 => h9) rfl dX0_afterWish_68 ?_
          refine lv_iload_n hx hb dX0_afterWish_71 rfl (lv_at hl 5 rfl) ?_
          refine va_aldq hx hb hK hP 1 0 rfl rfl (vp_in_nI (n := 1) (by decide) (by decide)) dX0_afterWish_72 ?_
          refine W.eq (g2 := F0 m 73 ls [.ref pa1, .ref ma]) (by rw [nI_clamp (show 1 < 2 ^ 31 by decide)]; rfl) ?_
          refine lv_iload hx hb dX0_afterWish_73 (lv_at hl 1 rfl) ?_
          refine cVi (As := [.ref pa1, .int (nI (wishA (bitsN sx (31) 9) 1))]) (rest := []) ⟨hx, hb, hml, hown, hts⟩ (c_X0_hasRight1 l D ma mb mc md k0 k1 k2 mf wo ri pa0 pb0 pc0 kb0 kc0 n0 so0 nu0 pa1 pb1 pc1 kb1 kc1 n1 so1 nu1 (wishA (bitsN sx (31) 9) 1) (by omega) (hka.1) (hso _) (hri)) (cwV 2 hts (gV mU_442 mU_443 mU_444 mU_27 mU_445) rfl rfl rfl (by decide +kernel) ⟨Nat.le_of_ble_eq_true rfl, Nat.le_of_ble_eq_true rfl⟩) fbR (va_recv hK hP (ci := 0) (q0 := 0) rfl rfl) (PR.of hP hK) rfl hl.1 rfl (Nat.le_of_ble_eq_true rfl) dX0_afterWish_75 ⟨Nat.zero_le _, Nat.zero_le _⟩ ?_
          refine lv_if_ne (tgt := 104) hx hb dX0_afterWish_78 (by decide) (fun c78_20 => ?_) (fun c78_20 => ?_)
          · have c78_20 : rgtC ri so1 nu1 (wishA (bitsN sx (31) 9) 1) := bP_t c78_20
            refine lv_iload hx hb dX0_afterWish_104 (lv_at hl 2 rfl) ?_
            refine lv_iconst (v := nI 1) hx hb dX0_afterWish_106 (by decide) ?_
            refine lv_iconst (v := nI 3) hx hb dX0_afterWish_107 (by decide) ?_
            refine lv_iload hx hb dX0_afterWish_108 (lv_at hl 6 rfl) ?_
            refine lv_imul hx hb dX0_afterWish_110 ?_
            refine lv_topE (nI 3) (pk_mul _ _) ?_
            refine lv_ishl hx hb dX0_afterWish_111 ?_
            refine lv_iconst (v := nI 1) hx hb dX0_afterWish_112 (by decide) ?_
            refine lv_isub hx hb dX0_afterWish_113 ?_
            refine lv_iand hx hb dX0_afterWish_114 ?_
            refine lv_topE (nI (bitsN sx 31 9 % 2 ^ 3)) (by rw [z_one 3 (by decide), fa_mask]) ?_
            refine lv_istore (lv' := [(8, .int (nI (bitsN sx 31 9 % 2 ^ 3))), (7, .int (nI 0)), (6, .int (nI (wishA (bitsN sx (31) 9) 1))), (5, .int (nI (bitsN sx (31) 9))), (0, .ref ma), (1, .long (lN sx)), (3, .int (nI 1)), (4, .int (nI 1))]) hx hb dX0_afterWish_115 hl (by decide) rfl (fun ls hl => ?_)
            refine lv_iload hx hb dX0_afterWish_117 (lv_at hl 3 rfl) ?_
            refine lv_iconst (v := nI 3) hx hb dX0_afterWish_119 (by decide) ?_
            refine lv_iload hx hb dX0_afterWish_120 (lv_at hl 7 rfl) ?_
            refine lv_imul hx hb dX0_afterWish_122 ?_
            refine lv_topE (nI 3) (pk_mul _ _) ?_
            refine lv_iconst (v := nI 3) hx hb dX0_afterWish_123 (by decide) ?_
            refine lv_iadd hx hb dX0_afterWish_124 ?_
            refine lv_topE (nI 6) (nI_add _ _) ?_
            refine lv_ishr hx hb dX0_afterWish_125 ?_
            refine lv_topE (nI (bitsN sx 31 9 / 2 ^ 6)) (z_shr32 (by omega) (by decide)) ?_
            refine lv_istore (lv' := [(9, .int (nI (bitsN sx 31 9 / 2 ^ 6))), (8, .int (nI (bitsN sx 31 9 % 2 ^ 3))), (7, .int (nI 0)), (6, .int (nI (wishA (bitsN sx (31) 9) 1))), (5, .int (nI (bitsN sx (31) 9))), (0, .ref ma), (1, .long (lN sx)), (3, .int (nI 1)), (4, .int (nI 1))]) hx hb dX0_afterWish_126 hl (by decide) rfl (fun ls hl => ?_)
            refine lv_iload hx hb dX0_afterWish_128 (lv_at hl 1 rfl) ?_
            refine lv_iload hx hb dX0_afterWish_130 (lv_at hl 0 rfl) ?_
            refine lv_iconst (v := nI 3) hx hb dX0_afterWish_132 (by decide) ?_
            refine lv_iload hx hb dX0_afterWish_133 (lv_at hl 8 rfl) ?_
            refine lv_imul hx hb dX0_afterWish_135 ?_
            refine lv_topE (nI 3) (pk_mul _ _) ?_
            refine lv_ishl hx hb dX0_afterWish_136 ?_
            refine lv_topE (nI (bitsN sx 31 9 / 2 ^ 6 * 2 ^ 3)) (pk_shlN _ 3 (z_s32 3 (by decide)) (by omega)) ?_
            refine lv_ior hx hb dX0_afterWish_137 ?_
            refine lv_topE (nI (bitsN sx 31 9 % 2 ^ 3 + bitsN sx 31 9 / 2 ^ 6 * 2 ^ 3)) (z_left _ _ 3) ?_
            refine lv_istore (lv' := [(10, .int (nI (bitsN sx 31 9 % 2 ^ 3 + bitsN sx 31 9 / 2 ^ 6 * 2 ^ 3))), (9, .int (nI (bitsN sx 31 9 / 2 ^ 6))), (8, .int (nI (bitsN sx 31 9 % 2 ^ 3))), (7, .int (nI 0)), (6, .int (nI (wishA (bitsN sx (31) 9) 1))), (5, .int (nI (bitsN sx (31) 9))), (0, .ref ma), (1, .long (lN sx)), (3, .int (nI 1)), (4, .int (nI 1))]) hx hb dX0_afterWish_138 hl (by decide) rfl (fun ls hl => ?_)
            refine lv_aload_n hx hb dX0_afterWish_140 rfl (lv_at hl 6 rfl) ?_
            refine lv_lload_n hx hb dX0_afterWish_141 rfl (lv_at hl 7 rfl) ?_
            refine lv_bipush (v := nI 22) hx hb dX0_afterWish_142 (by decide) ?_
            refine lv_bipush (v := nI 9) hx hb dX0_afterWish_144 (by decide) ?_
            refine lv_iload_n hx hb dX0_afterWish_146 rfl (lv_at hl 8 rfl) ?_
            refine lv_imul hx hb dX0_afterWish_147 ?_
            refine lv_topE (nI 9) (pk_mul _ _) ?_
            refine lv_iadd hx hb dX0_afterWish_148 ?_
            refine lv_topE (nI 31) (nI_add _ _) ?_
            refine lv_sipush (v := nI 511) hx hb dX0_afterWish_149 (by decide) ?_
            refine lv_iload hx hb dX0_afterWish_152 (lv_at hl 0 rfl) ?_
            refine cSl (As := [.long (lN sx), .int (nI 31), .int (nI 511), .int (nI (bitsN sx 31 9 % 2 ^ 3 + bitsN sx 31 9 / 2 ^ 6 * 2 ^ 3))]) (rest := [.ref ma]) ⟨hx, hb, hml, hown, hts⟩ (c_X0_with l  sx 31 9 (bitsN sx 31 9 % 2 ^ 3 + bitsN sx 31 9 / 2 ^ 6 * 2 ^ 3) (by omega) (by omega) (by omega) (by omega) (by omega)) (va_cwS 4 hts (gS mU_420 mU_421 mU_27 mU_422) rfl rfl rfl (by decide +kernel) ⟨Nat.le_of_ble_eq_true rfl, Nat.le_of_ble_eq_true rfl⟩) fbU (fun _ _ _ => trivial) rfl hl.1 rfl (Nat.le_of_ble_eq_true rfl) dX0_afterWish_154 ⟨Nat.zero_le _, Nat.zero_le _⟩ ?_
            have hf_21 : withN sx 31 9 (bitsN sx 31 9 % 2 ^ 3 + bitsN sx 31 9 / 2 ^ 6 * 2 ^ 3) < 2 ^ 44 := withN_lt (by omega) (by omega) (by omega)
            refine lv_iload_n hx hb dX0_afterWish_157 rfl (lv_at hl 8 rfl) ?_
            refine lv_iload hx hb dX0_afterWish_158 (lv_at hl 4 rfl) ?_
            refine cVl (As := [.long (lN (withN sx 31 9 (bitsN sx 31 9 % 2 ^ 3 + bitsN sx 31 9 / 2 ^ 6 * 2 ^ 3))), .int (nI 1), .int (nI (wishA (bitsN sx (31) 9) 1))]) (rest := []) ⟨hx, hb, hml, hown, hts⟩ (c_X0_touched1 l D ma mb mc md k0 k1 k2 mf wo ri pa0 pb0 pc0 kb0 kc0 n0 so0 nu0 pa1 pb1 pc1 kb1 kc1 n1 so1 nu1 (withN sx 31 9 (bitsN sx 31 9 % 2 ^ 3 + bitsN sx 31 9 / 2 ^ 6 * 2 ^ 3)) (wishA (bitsN sx (31) 9) 1) (by omega) (by omega) (hv.2) (hokw)) (cwV 3 hts (gV mU_446 mU_447 mU_448 mU_27 mU_449) rfl rfl rfl (by decide +kernel) ⟨Nat.le_of_ble_eq_true rfl, Nat.le_of_ble_eq_true rfl⟩) fbR (va_recv hK hP (ci := 0) (q0 := 0) rfl rfl) (PR.of hP hK) rfl hl.1 rfl (Nat.le_of_ble_eq_true rfl) dX0_afterWish_160 ⟨Nat.zero_le _, Nat.zero_le _⟩ ?_
            subst hQ
            exact rtl hx hb hr hlocks rfl (by first | (unfold wishC; (try first | rw [if_pos c19_15] | rw [if_neg c19_15]); (try first | rw [if_pos c35_16] | rw [if_neg c35_16]); (try first | rw [if_pos c51_18] | rw [if_neg c51_18]); (try first | rw [if_pos c78_20] | rw [if_neg c78_20]); (try rfl); done) | (exfalso; omega)) dX0_afterWish_163
          · have c78_20 : ¬ (rgtC ri so1 nu1 (wishA (bitsN sx (31) 9) 1)) := bP_f c78_20
            refine lv_lload_n hx hb dX0_afterWish_81 rfl (lv_at hl 4 rfl) ?_
            refine lv_bipush (v := nI 22) hx hb dX0_afterWish_82 (by decide) ?_
            refine lv_bipush (v := nI 9) hx hb dX0_afterWish_84 (by decide) ?_
            refine lv_iload_n hx hb dX0_afterWish_86 rfl (lv_at hl 5 rfl) ?_
            refine lv_imul hx hb dX0_afterWish_87 ?_
            refine lv_topE (nI 9) (pk_mul _ _) ?_
            refine lv_iadd hx hb dX0_afterWish_88 ?_
            refine lv_topE (nI 31) (nI_add _ _) ?_
            refine lv_sipush (v := nI 511) hx hb dX0_afterWish_89 (by decide) ?_
            refine lv_iconst (v := nI 0) hx hb dX0_afterWish_92 (by decide) ?_
            refine cSl (As := [.long (lN sx), .int (nI 31), .int (nI 511), .int (nI 0)]) (rest := []) ⟨hx, hb, hml, hown, hts⟩ (c_X0_with l  sx 31 9 0 (by omega) (by omega) (by omega) (by omega) (by omega)) (va_cwS 4 hts (gS mU_420 mU_421 mU_27 mU_422) rfl rfl rfl (by decide +kernel) ⟨Nat.le_of_ble_eq_true rfl, Nat.le_of_ble_eq_true rfl⟩) fbU (fun _ _ _ => trivial) rfl hl.1 rfl (Nat.le_of_ble_eq_true rfl) dX0_afterWish_93 ⟨Nat.zero_le _, Nat.zero_le _⟩ ?_
            have hf_22 : withN sx 31 9 0 < 2 ^ 44 := withN_lt (by omega) (by omega) (by omega)
            refine lv_lconst (v := lN 1) hx hb dX0_afterWish_96 rfl ?_
            refine lv_bipush (v := nI 40) hx hb dX0_afterWish_97 (by decide) ?_
            refine lv_iload_n hx hb dX0_afterWish_99 rfl (lv_at hl 5 rfl) ?_
            refine lv_iadd hx hb dX0_afterWish_100 ?_
            refine lv_topE (nI 41) (nI_add _ _) ?_
            refine lv_lshl hx hb dX0_afterWish_101 rfl ?_
            refine lv_lor hx hb dX0_afterWish_102 ?_
            refine lv_topEl (lN (withN sx 31 9 0 ||| 1 * 2 ^ 41)) (z_orv (by omega) (by omega) (by decide)) ?_
            subst hQ
            exact rtl hx hb hr hlocks rfl (by first | (unfold wishC; (try first | rw [if_pos c19_15] | rw [if_neg c19_15]); (try first | rw [if_pos c35_16] | rw [if_neg c35_16]); (try first | rw [if_pos c51_18] | rw [if_neg c51_18]); (try first | rw [if_pos c78_20] | rw [if_neg c78_20]); (try rfl); done) | (exfalso; omega)) dX0_afterWish_103
        · have c51_18 : ¬ (bitsN sx 42 1 = 0) := fun h9 => c51_18 ((nI_eqG (a := bitsN sx 42 1) (b := 0) (by omega) (by omega)).mpr h9)
          refine lv_iconst (v := nI 1) hx hb dX0_afterWish_54 (by decide) ?_
          refine lv_goto (tgt := 59) hx hb dX0_afterWish_55 (by decide) ?_
          refine lv_istore (lv' := [(7, .int (nI 1)), (6, .int (nI (wishA (bitsN sx (31) 9) 1))), (5, .int (nI (bitsN sx (31) 9))), (0, .ref ma), (1, .long (lN sx)), (3, .int (nI 1)), (4, .int (nI 1))]) hx hb dX0_afterWish_59 hl (by decide) rfl (fun ls hl => ?_)
          refine lv_iload hx hb dX0_afterWish_61 (lv_at hl 0 rfl) ?_
          refine lv_if_ne (tgt := 81) hx hb dX0_afterWish_63 (by decide) (fun c63_23 => ?_) (fun c63_23 => by first | exact absurd (by decide) c63_23 | exact absurd c63_23 (by decide))
          refine lv_lload_n hx hb dX0_afterWish_81 rfl (lv_at hl 4 rfl) ?_
          refine lv_bipush (v := nI 22) hx hb dX0_afterWish_82 (by decide) ?_
          refine lv_bipush (v := nI 9) hx hb dX0_afterWish_84 (by decide) ?_
          refine lv_iload_n hx hb dX0_afterWish_86 rfl (lv_at hl 5 rfl) ?_
          refine lv_imul hx hb dX0_afterWish_87 ?_
          refine lv_topE (nI 9) (pk_mul _ _) ?_
          refine lv_iadd hx hb dX0_afterWish_88 ?_
          refine lv_topE (nI 31) (nI_add _ _) ?_
          refine lv_sipush (v := nI 511) hx hb dX0_afterWish_89 (by decide) ?_
          refine lv_iconst (v := nI 0) hx hb dX0_afterWish_92 (by decide) ?_
          refine cSl (As := [.long (lN sx), .int (nI 31), .int (nI 511), .int (nI 0)]) (rest := []) ⟨hx, hb, hml, hown, hts⟩ (c_X0_with l  sx 31 9 0 (by omega) (by omega) (by omega) (by omega) (by omega)) (va_cwS 4 hts (gS mU_420 mU_421 mU_27 mU_422) rfl rfl rfl (by decide +kernel) ⟨Nat.le_of_ble_eq_true rfl, Nat.le_of_ble_eq_true rfl⟩) fbU (fun _ _ _ => trivial) rfl hl.1 rfl (Nat.le_of_ble_eq_true rfl) dX0_afterWish_93 ⟨Nat.zero_le _, Nat.zero_le _⟩ ?_
          have hf_24 : withN sx 31 9 0 < 2 ^ 44 := withN_lt (by omega) (by omega) (by omega)
          refine lv_lconst (v := lN 1) hx hb dX0_afterWish_96 rfl ?_
          refine lv_bipush (v := nI 40) hx hb dX0_afterWish_97 (by decide) ?_
          refine lv_iload_n hx hb dX0_afterWish_99 rfl (lv_at hl 5 rfl) ?_
          refine lv_iadd hx hb dX0_afterWish_100 ?_
          refine lv_topE (nI 41) (nI_add _ _) ?_
          refine lv_lshl hx hb dX0_afterWish_101 rfl ?_
          refine lv_lor hx hb dX0_afterWish_102 ?_
          refine lv_topEl (lN (withN sx 31 9 0 ||| 1 * 2 ^ 41)) (z_orv (by omega) (by omega) (by decide)) ?_
          subst hQ
          exact rtl hx hb hr hlocks rfl (by first | (unfold wishC; (try first | rw [if_pos c19_15] | rw [if_neg c19_15]); (try first | rw [if_pos c35_16] | rw [if_neg c35_16]); (try first | rw [if_pos c51_18] | rw [if_neg c51_18]); (try rfl); done) | (exfalso; omega)) dX0_afterWish_103
      · have c35_16 : ¬ (mayC so1 (bitsN sx (31) 9) 1) := bP_f c35_16
        refine lv_ldc2 (v := (-1)) hx hb hown (hU _ mU_391) dX0_afterWish_38 ?_
        subst hQ
        exact rtl hx hb hr hlocks rfl (by first | (unfold wishC; (try first | rw [if_pos c19_15] | rw [if_neg c19_15]); (try first | rw [if_pos c35_16] | rw [if_neg c35_16]); (try rfl); done) | (exfalso; omega)) dX0_afterWish_41
  · have hl : lv_has ls 11 [(0, .ref ma), (1, .long (lN sx)), (3, .int (nI 1)), (4, .int (nI 2))] := hl
    refine lv_lload_n hx hb dX0_afterWish_0 rfl (lv_at hl 1 rfl) ?_
    refine lv_iload_n hx hb dX0_afterWish_1 rfl (lv_at hl 2 rfl) ?_
    refine cSi (As := [.long (lN sx), .int (nI 1)]) (rest := []) ⟨hx, hb, hml, hown, hts⟩ (c_X0_queueOf l  sx 1 (by omega) (by omega)) (va_cwS 2 hts (gS mU_404 mU_405 mU_27 mU_406) rfl rfl rfl (by decide +kernel) ⟨Nat.le_of_ble_eq_true rfl, Nat.le_of_ble_eq_true rfl⟩) fbU (fun _ _ _ => trivial) rfl hl.1 rfl (Nat.le_of_ble_eq_true rfl) dX0_afterWish_2 ⟨Nat.zero_le _, Nat.zero_le _⟩ ?_
    have hf_25 : bitsN sx (31) 9 < 512 := bitsN_lt _ _ _
    refine lv_istore (lv' := [(5, .int (nI (bitsN sx (31) 9))), (0, .ref ma), (1, .long (lN sx)), (3, .int (nI 1)), (4, .int (nI 2))]) hx hb dX0_afterWish_5 hl (by decide) rfl (fun ls hl => ?_)
    refine lv_iload hx hb dX0_afterWish_7 (lv_at hl 0 rfl) ?_
    refine lv_iload hx hb dX0_afterWish_9 (lv_at hl 4 rfl) ?_
    refine cSi (As := [.int (nI (bitsN sx (31) 9)), .int (nI 2)]) (rest := []) ⟨hx, hb, hml, hown, hts⟩ (c_X0_wishAt l  (bitsN sx (31) 9) 2 (by omega) (by omega)) (va_cwS 2 hts (gS mU_413 mU_414 mU_27 mU_415) rfl rfl rfl (by decide +kernel) ⟨Nat.le_of_ble_eq_true rfl, Nat.le_of_ble_eq_true rfl⟩) fbU (fun _ _ _ => trivial) rfl hl.1 rfl (Nat.le_of_ble_eq_true rfl) dX0_afterWish_11 ⟨Nat.zero_le _, Nat.zero_le _⟩ ?_
    have hf_26 : wishA (bitsN sx (31) 9) 2 < 7 ∨ wishA (bitsN sx (31) 9) 2 = 4294967295 := wishA_or _ _
    refine lv_istore (lv' := [(6, .int (nI (wishA (bitsN sx (31) 9) 2))), (5, .int (nI (bitsN sx (31) 9))), (0, .ref ma), (1, .long (lN sx)), (3, .int (nI 1)), (4, .int (nI 2))]) hx hb dX0_afterWish_14 hl (by decide) rfl (fun ls hl => ?_)
    refine lv_iload hx hb dX0_afterWish_16 (lv_at hl 0 rfl) ?_
    refine lv_iconst (v := nI 4294967295) hx hb dX0_afterWish_18 (by decide) ?_
    refine lv_icmp_eq (tgt := 38) hx hb dX0_afterWish_19 (by decide) (fun c19_27 => ?_) (fun c19_27 => ?_)
    · have c19_27 : wishA (bitsN sx (31) 9) 2 = 4294967295 := (nI_eqG (a := wishA (bitsN sx (31) 9) 2) (b := 4294967295) (by omega) (by omega)).mp c19_27
      refine lv_ldc2 (v := (-1)) hx hb hown (hU _ mU_391) dX0_afterWish_38 ?_
      subst hQ
      exact rtl hx hb hr hlocks rfl (by first | (unfold wishC; (try first | rw [if_pos c19_27] | rw [if_neg c19_27]); (try rfl); done) | (exfalso; omega)) dX0_afterWish_41
    · have c19_27 : ¬ (wishA (bitsN sx (31) 9) 2 = 4294967295) := fun h9 => c19_27 ((nI_eqG (a := wishA (bitsN sx (31) 9) 2) (b := 4294967295) (by omega) (by omega)).mpr h9)
      refine lv_aload_n hx hb dX0_afterWish_22 rfl (lv_at hl 2 rfl) ?_
      refine va_get (D := D) (ci := 0) (v := .ref mb) (C := RX0) (T := TX0) (N := 4) hx hb hU iX0 hown hK hP 0 rfl rfl 0 (by decide) (hU _ mU_54) (fun _ h9 => h9) rfl dX0_afterWish_23 ?_
      refine lv_iload_n hx hb dX0_afterWish_26 rfl (lv_at hl 4 rfl) ?_
      refine va_aldq hx hb hK hP 1 0 rfl rfl (vp_in_nI (n := 1) (by decide) (by decide)) dX0_afterWish_27 ?_
      refine W.eq (g2 := F0 m 28 ls [.ref pa1]) (by rw [nI_clamp (show 1 < 2 ^ 31 by decide)]; rfl) ?_
      refine lv_iload hx hb dX0_afterWish_28 (lv_at hl 1 rfl) ?_
      refine lv_iload hx hb dX0_afterWish_30 (lv_at hl 5 rfl) ?_
      have hPc := hP.sub (ws' := [(pa1, .inr (1, [.int (nI n1), .ref pb1, .ref pc1])), (pb1, .inl (kb1, 8, .inl (nA so1))), (pc1, .inl (kc1, 32, .inl (nA nu1)))]) [7, 8, 9] rfl
      have hKc := hK.sub (tys' := [(kb1, .int), (kc1, .int)]) [5, 6] rfl
      refine cSi (As := [.ref pa1, .int (nI (bitsN sx (31) 9)), .int (nI 2)]) (rest := []) ⟨hx, hb, hml, hown, hts⟩ (c_X0_mayBeDone l D pb1 pc1 kb1 kc1 n1 so1 nu1 pa1 (bitsN sx (31) 9) 2 (by omega) (by omega) (hso)) (va_cwS 3 hts (gS mU_439 mU_440 mU_27 mU_441) rfl rfl rfl (by decide +kernel) ⟨Nat.le_of_ble_eq_true rfl, Nat.le_of_ble_eq_true rfl⟩) fbR (PR.of hPc hKc) rfl hl.1 rfl (Nat.le_of_ble_eq_true rfl) dX0_afterWish_32 ⟨Nat.zero_le _, Nat.zero_le _⟩ ?_
      refine lv_if_ne (tgt := 42) hx hb dX0_afterWish_35 (by decide) (fun c35_28 => ?_) (fun c35_28 => ?_)
      · have c35_28 : mayC so1 (bitsN sx (31) 9) 2 := bP_t c35_28
        have hv := hqv 2 (by decide) c19_27
        have hokw := hok _ hv.1
        have hka := okS_a hokw hv.2
        refine lv_lload_n hx hb dX0_afterWish_42 rfl (lv_at hl 3 rfl) ?_
        refine lv_bipush (v := nI 43) hx hb dX0_afterWish_43 (by decide) ?_
        refine lv_iload_n hx hb dX0_afterWish_45 rfl (lv_at hl 4 rfl) ?_
        refine lv_isub hx hb dX0_afterWish_46 ?_
        refine lv_topE (nI 42) (pk_sub (by omega)) ?_
        refine lv_iconst (v := nI 1) hx hb dX0_afterWish_47 (by decide) ?_
        refine cSi (As := [.long (lN sx), .int (nI 42), .int (nI 1)]) (rest := []) ⟨hx, hb, hml, hown, hts⟩ (c_X0_bits l  sx 42 1 (by omega) (by omega)) (va_cwS 3 hts (gS mU_398 mU_399 mU_27 mU_400) rfl rfl rfl (by decide +kernel) ⟨Nat.le_of_ble_eq_true rfl, Nat.le_of_ble_eq_true rfl⟩) fbU (fun _ _ _ => trivial) rfl hl.1 rfl (Nat.le_of_ble_eq_true rfl) dX0_afterWish_48 ⟨Nat.zero_le _, Nat.zero_le _⟩ ?_
        have hf_29 : bitsN sx 42 1 < 2 ^ 1 := bitsN_lt _ _ _
        refine lv_if_eq (tgt := 58) hx hb dX0_afterWish_51 (by decide) (fun c51_30 => ?_) (fun c51_30 => ?_)
        · have c51_30 : bitsN sx 42 1 = 0 := (nI_eqG (a := bitsN sx 42 1) (b := 0) (by omega) (by omega)).mp c51_30
          refine lv_iconst (v := nI 0) hx hb dX0_afterWish_58 (by decide) ?_
          refine lv_istore (lv' := [(7, .int (nI 0)), (6, .int (nI (wishA (bitsN sx (31) 9) 2))), (5, .int (nI (bitsN sx (31) 9))), (0, .ref ma), (1, .long (lN sx)), (3, .int (nI 1)), (4, .int (nI 2))]) hx hb dX0_afterWish_59 hl (by decide) rfl (fun ls hl => ?_)
          refine lv_iload hx hb dX0_afterWish_61 (lv_at hl 0 rfl) ?_
          refine lv_if_ne (tgt := 81) hx hb dX0_afterWish_63 (by decide) (fun c63_31 => by first | exact absurd c63_31 (by decide) | exact absurd (by decide) c63_31) (fun c63_31 => ?_)
          refine lv_aload_n hx hb dX0_afterWish_66 rfl (lv_at hl 3 rfl) ?_
          refine lv_aload_n hx hb dX0_afterWish_67 rfl (lv_at hl 3 rfl) ?_
          refine va_get (D := D) (ci := 0) (v := .ref mb) (C := RX0) (T := TX0) (N := 4) hx hb hU iX0 hown hK hP 0 rfl rfl 0 (by decide) (hU _ mU_54) (fun _ h9 => h9) rfl dX0_afterWish_68 ?_
          refine lv_iload_n hx hb dX0_afterWish_71 rfl (lv_at hl 5 rfl) ?_
          refine va_aldq hx hb hK hP 1 0 rfl rfl (vp_in_nI (n := 1) (by decide) (by decide)) dX0_afterWish_72 ?_
          refine W.eq (g2 := F0 m 73 ls [.ref pa1, .ref ma]) (by rw [nI_clamp (show 1 < 2 ^ 31 by decide)]; rfl) ?_
          refine lv_iload hx hb dX0_afterWish_73 (lv_at hl 1 rfl) ?_
          refine cVi (As := [.ref pa1, .int (nI (wishA (bitsN sx (31) 9) 2))]) (rest := []) ⟨hx, hb, hml, hown, hts⟩ (c_X0_hasRight1 l D ma mb mc md k0 k1 k2 mf wo ri pa0 pb0 pc0 kb0 kc0 n0 so0 nu0 pa1 pb1 pc1 kb1 kc1 n1 so1 nu1 (wishA (bitsN sx (31) 9) 2) (by omega) (hka.1) (hso _) (hri)) (cwV 2 hts (gV mU_442 mU_443 mU_444 mU_27 mU_445) rfl rfl rfl (by decide +kernel) ⟨Nat.le_of_ble_eq_true rfl, Nat.le_of_ble_eq_true rfl⟩) fbR (va_recv hK hP (ci := 0) (q0 := 0) rfl rfl) (PR.of hP hK) rfl hl.1 rfl (Nat.le_of_ble_eq_true rfl) dX0_afterWish_75 ⟨Nat.zero_le _, Nat.zero_le _⟩ ?_
          refine lv_if_ne (tgt := 104) hx hb dX0_afterWish_78 (by decide) (fun c78_32 => ?_) (fun c78_32 => ?_)
          · have c78_32 : rgtC ri so1 nu1 (wishA (bitsN sx (31) 9) 2) := bP_t c78_32
            refine lv_iload hx hb dX0_afterWish_104 (lv_at hl 2 rfl) ?_
            refine lv_iconst (v := nI 1) hx hb dX0_afterWish_106 (by decide) ?_
            refine lv_iconst (v := nI 3) hx hb dX0_afterWish_107 (by decide) ?_
            refine lv_iload hx hb dX0_afterWish_108 (lv_at hl 6 rfl) ?_
            refine lv_imul hx hb dX0_afterWish_110 ?_
            refine lv_topE (nI 6) (pk_mul _ _) ?_
            refine lv_ishl hx hb dX0_afterWish_111 ?_
            refine lv_iconst (v := nI 1) hx hb dX0_afterWish_112 (by decide) ?_
            refine lv_isub hx hb dX0_afterWish_113 ?_
            refine lv_iand hx hb dX0_afterWish_114 ?_
            refine lv_topE (nI (bitsN sx 31 9 % 2 ^ 6)) (by rw [z_one 6 (by decide), fa_mask]) ?_
            refine lv_istore (lv' := [(8, .int (nI (bitsN sx 31 9 % 2 ^ 6))), (7, .int (nI 0)), (6, .int (nI (wishA (bitsN sx (31) 9) 2))), (5, .int (nI (bitsN sx (31) 9))), (0, .ref ma), (1, .long (lN sx)), (3, .int (nI 1)), (4, .int (nI 2))]) hx hb dX0_afterWish_115 hl (by decide) rfl (fun ls hl => ?_)
            refine lv_iload hx hb dX0_afterWish_117 (lv_at hl 3 rfl) ?_
            refine lv_iconst (v := nI 3) hx hb dX0_afterWish_119 (by decide) ?_
            refine lv_iload hx hb dX0_afterWish_120 (lv_at hl 7 rfl) ?_
            refine lv_imul hx hb dX0_afterWish_122 ?_
            refine lv_topE (nI 6) (pk_mul _ _) ?_
            refine lv_iconst (v := nI 3) hx hb dX0_afterWish_123 (by decide) ?_
            refine lv_iadd hx hb dX0_afterWish_124 ?_
            refine lv_topE (nI 9) (nI_add _ _) ?_
            refine lv_ishr hx hb dX0_afterWish_125 ?_
            refine lv_topE (nI (bitsN sx 31 9 / 2 ^ 9)) (z_shr32 (by omega) (by decide)) ?_
            refine lv_istore (lv' := [(9, .int (nI (bitsN sx 31 9 / 2 ^ 9))), (8, .int (nI (bitsN sx 31 9 % 2 ^ 6))), (7, .int (nI 0)), (6, .int (nI (wishA (bitsN sx (31) 9) 2))), (5, .int (nI (bitsN sx (31) 9))), (0, .ref ma), (1, .long (lN sx)), (3, .int (nI 1)), (4, .int (nI 2))]) hx hb dX0_afterWish_126 hl (by decide) rfl (fun ls hl => ?_)
            refine lv_iload hx hb dX0_afterWish_128 (lv_at hl 1 rfl) ?_
            refine lv_iload hx hb dX0_afterWish_130 (lv_at hl 0 rfl) ?_
            refine lv_iconst (v := nI 3) hx hb dX0_afterWish_132 (by decide) ?_
            refine lv_iload hx hb dX0_afterWish_133 (lv_at hl 8 rfl) ?_
            refine lv_imul hx hb dX0_afterWish_135 ?_
            refine lv_topE (nI 6) (pk_mul _ _) ?_
            refine lv_ishl hx hb dX0_afterWish_136 ?_
            refine lv_topE (nI (bitsN sx 31 9 / 2 ^ 9 * 2 ^ 6)) (pk_shlN _ 6 (z_s32 6 (by decide)) (by omega)) ?_
            refine lv_ior hx hb dX0_afterWish_137 ?_
            refine lv_topE (nI (bitsN sx 31 9 % 2 ^ 6 + bitsN sx 31 9 / 2 ^ 9 * 2 ^ 6)) (z_left _ _ 6) ?_
            refine lv_istore (lv' := [(10, .int (nI (bitsN sx 31 9 % 2 ^ 6 + bitsN sx 31 9 / 2 ^ 9 * 2 ^ 6))), (9, .int (nI (bitsN sx 31 9 / 2 ^ 9))), (8, .int (nI (bitsN sx 31 9 % 2 ^ 6))), (7, .int (nI 0)), (6, .int (nI (wishA (bitsN sx (31) 9) 2))), (5, .int (nI (bitsN sx (31) 9))), (0, .ref ma), (1, .long (lN sx)), (3, .int (nI 1)), (4, .int (nI 2))]) hx hb dX0_afterWish_138 hl (by decide) rfl (fun ls hl => ?_)
            refine lv_aload_n hx hb dX0_afterWish_140 rfl (lv_at hl 6 rfl) ?_
            refine lv_lload_n hx hb dX0_afterWish_141 rfl (lv_at hl 7 rfl) ?_
            refine lv_bipush (v := nI 22) hx hb dX0_afterWish_142 (by decide) ?_
            refine lv_bipush (v := nI 9) hx hb dX0_afterWish_144 (by decide) ?_
            refine lv_iload_n hx hb dX0_afterWish_146 rfl (lv_at hl 8 rfl) ?_
            refine lv_imul hx hb dX0_afterWish_147 ?_
            refine lv_topE (nI 9) (pk_mul _ _) ?_
            refine lv_iadd hx hb dX0_afterWish_148 ?_
            refine lv_topE (nI 31) (nI_add _ _) ?_
            refine lv_sipush (v := nI 511) hx hb dX0_afterWish_149 (by decide) ?_
            refine lv_iload hx hb dX0_afterWish_152 (lv_at hl 0 rfl) ?_
            refine cSl (As := [.long (lN sx), .int (nI 31), .int (nI 511), .int (nI (bitsN sx 31 9 % 2 ^ 6 + bitsN sx 31 9 / 2 ^ 9 * 2 ^ 6))]) (rest := [.ref ma]) ⟨hx, hb, hml, hown, hts⟩ (c_X0_with l  sx 31 9 (bitsN sx 31 9 % 2 ^ 6 + bitsN sx 31 9 / 2 ^ 9 * 2 ^ 6) (by omega) (by omega) (by omega) (by omega) (by omega)) (va_cwS 4 hts (gS mU_420 mU_421 mU_27 mU_422) rfl rfl rfl (by decide +kernel) ⟨Nat.le_of_ble_eq_true rfl, Nat.le_of_ble_eq_true rfl⟩) fbU (fun _ _ _ => trivial) rfl hl.1 rfl (Nat.le_of_ble_eq_true rfl) dX0_afterWish_154 ⟨Nat.zero_le _, Nat.zero_le _⟩ ?_
            have hf_33 : withN sx 31 9 (bitsN sx 31 9 % 2 ^ 6 + bitsN sx 31 9 / 2 ^ 9 * 2 ^ 6) < 2 ^ 44 := withN_lt (by omega) (by omega) (by omega)
            refine lv_iload_n hx hb dX0_afterWish_157 rfl (lv_at hl 8 rfl) ?_
            refine lv_iload hx hb dX0_afterWish_158 (lv_at hl 4 rfl) ?_
            refine cVl (As := [.long (lN (withN sx 31 9 (bitsN sx 31 9 % 2 ^ 6 + bitsN sx 31 9 / 2 ^ 9 * 2 ^ 6))), .int (nI 1), .int (nI (wishA (bitsN sx (31) 9) 2))]) (rest := []) ⟨hx, hb, hml, hown, hts⟩ (c_X0_touched1 l D ma mb mc md k0 k1 k2 mf wo ri pa0 pb0 pc0 kb0 kc0 n0 so0 nu0 pa1 pb1 pc1 kb1 kc1 n1 so1 nu1 (withN sx 31 9 (bitsN sx 31 9 % 2 ^ 6 + bitsN sx 31 9 / 2 ^ 9 * 2 ^ 6)) (wishA (bitsN sx (31) 9) 2) (by omega) (by omega) (hv.2) (hokw)) (cwV 3 hts (gV mU_446 mU_447 mU_448 mU_27 mU_449) rfl rfl rfl (by decide +kernel) ⟨Nat.le_of_ble_eq_true rfl, Nat.le_of_ble_eq_true rfl⟩) fbR (va_recv hK hP (ci := 0) (q0 := 0) rfl rfl) (PR.of hP hK) rfl hl.1 rfl (Nat.le_of_ble_eq_true rfl) dX0_afterWish_160 ⟨Nat.zero_le _, Nat.zero_le _⟩ ?_
            subst hQ
            exact rtl hx hb hr hlocks rfl (by first | (unfold wishC; (try first | rw [if_pos c19_27] | rw [if_neg c19_27]); (try first | rw [if_pos c35_28] | rw [if_neg c35_28]); (try first | rw [if_pos c51_30] | rw [if_neg c51_30]); (try first | rw [if_pos c78_32] | rw [if_neg c78_32]); (try rfl); done) | (exfalso; omega)) dX0_afterWish_163
          · have c78_32 : ¬ (rgtC ri so1 nu1 (wishA (bitsN sx (31) 9) 2)) := bP_f c78_32
            refine lv_lload_n hx hb dX0_afterWish_81 rfl (lv_at hl 4 rfl) ?_
            refine lv_bipush (v := nI 22) hx hb dX0_afterWish_82 (by decide) ?_
            refine lv_bipush (v := nI 9) hx hb dX0_afterWish_84 (by decide) ?_
            refine lv_iload_n hx hb dX0_afterWish_86 rfl (lv_at hl 5 rfl) ?_
            refine lv_imul hx hb dX0_afterWish_87 ?_
            refine lv_topE (nI 9) (pk_mul _ _) ?_
            refine lv_iadd hx hb dX0_afterWish_88 ?_
            refine lv_topE (nI 31) (nI_add _ _) ?_
            refine lv_sipush (v := nI 511) hx hb dX0_afterWish_89 (by decide) ?_
            refine lv_iconst (v := nI 0) hx hb dX0_afterWish_92 (by decide) ?_
            refine cSl (As := [.long (lN sx), .int (nI 31), .int (nI 511), .int (nI 0)]) (rest := []) ⟨hx, hb, hml, hown, hts⟩ (c_X0_with l  sx 31 9 0 (by omega) (by omega) (by omega) (by omega) (by omega)) (va_cwS 4 hts (gS mU_420 mU_421 mU_27 mU_422) rfl rfl rfl (by decide +kernel) ⟨Nat.le_of_ble_eq_true rfl, Nat.le_of_ble_eq_true rfl⟩) fbU (fun _ _ _ => trivial) rfl hl.1 rfl (Nat.le_of_ble_eq_true rfl) dX0_afterWish_93 ⟨Nat.zero_le _, Nat.zero_le _⟩ ?_
            have hf_34 : withN sx 31 9 0 < 2 ^ 44 := withN_lt (by omega) (by omega) (by omega)
            refine lv_lconst (v := lN 1) hx hb dX0_afterWish_96 rfl ?_
            refine lv_bipush (v := nI 40) hx hb dX0_afterWish_97 (by decide) ?_
            refine lv_iload_n hx hb dX0_afterWish_99 rfl (lv_at hl 5 rfl) ?_
            refine lv_iadd hx hb dX0_afterWish_100 ?_
            refine lv_topE (nI 41) (nI_add _ _) ?_
            refine lv_lshl hx hb dX0_afterWish_101 rfl ?_
            refine lv_lor hx hb dX0_afterWish_102 ?_
            refine lv_topEl (lN (withN sx 31 9 0 ||| 1 * 2 ^ 41)) (z_orv (by omega) (by omega) (by decide)) ?_
            subst hQ
            exact rtl hx hb hr hlocks rfl (by first | (unfold wishC; (try first | rw [if_pos c19_27] | rw [if_neg c19_27]); (try first | rw [if_pos c35_28] | rw [if_neg c35_28]); (try first | rw [if_pos c51_30] | rw [if_neg c51_30]); (try first | rw [if_pos c78_32] | rw [if_neg c78_32]); (try rfl); done) | (exfalso; omega)) dX0_afterWish_103
        · have c51_30 : ¬ (bitsN sx 42 1 = 0) := fun h9 => c51_30 ((nI_eqG (a := bitsN sx 42 1) (b := 0) (by omega) (by omega)).mpr h9)
          refine lv_iconst (v := nI 1) hx hb dX0_afterWish_54 (by decide) ?_
          refine lv_goto (tgt := 59) hx hb dX0_afterWish_55 (by decide) ?_
          refine lv_istore (lv' := [(7, .int (nI 1)), (6, .int (nI (wishA (bitsN sx (31) 9) 2))), (5, .int (nI (bitsN sx (31) 9))), (0, .ref ma), (1, .long (lN sx)), (3, .int (nI 1)), (4, .int (nI 2))]) hx hb dX0_afterWish_59 hl (by decide) rfl (fun ls hl => ?_)
          refine lv_iload hx hb dX0_afterWish_61 (lv_at hl 0 rfl) ?_
          refine lv_if_ne (tgt := 81) hx hb dX0_afterWish_63 (by decide) (fun c63_35 => ?_) (fun c63_35 => by first | exact absurd (by decide) c63_35 | exact absurd c63_35 (by decide))
          refine lv_lload_n hx hb dX0_afterWish_81 rfl (lv_at hl 4 rfl) ?_
          refine lv_bipush (v := nI 22) hx hb dX0_afterWish_82 (by decide) ?_
          refine lv_bipush (v := nI 9) hx hb dX0_afterWish_84 (by decide) ?_
          refine lv_iload_n hx hb dX0_afterWish_86 rfl (lv_at hl 5 rfl) ?_
          refine lv_imul hx hb dX0_afterWish_87 ?_
          refine lv_topE (nI 9) (pk_mul _ _) ?_
          refine lv_iadd hx hb dX0_afterWish_88 ?_
          refine lv_topE (nI 31) (nI_add _ _) ?_
          refine lv_sipush (v := nI 511) hx hb dX0_afterWish_89 (by decide) ?_
          refine lv_iconst (v := nI 0) hx hb dX0_afterWish_92 (by decide) ?_
          refine cSl (As := [.long (lN sx), .int (nI 31), .int (nI 511), .int (nI 0)]) (rest := []) ⟨hx, hb, hml, hown, hts⟩ (c_X0_with l  sx 31 9 0 (by omega) (by omega) (by omega) (by omega) (by omega)) (va_cwS 4 hts (gS mU_420 mU_421 mU_27 mU_422) rfl rfl rfl (by decide +kernel) ⟨Nat.le_of_ble_eq_true rfl, Nat.le_of_ble_eq_true rfl⟩) fbU (fun _ _ _ => trivial) rfl hl.1 rfl (Nat.le_of_ble_eq_true rfl) dX0_afterWish_93 ⟨Nat.zero_le _, Nat.zero_le _⟩ ?_
          have hf_36 : withN sx 31 9 0 < 2 ^ 44 := withN_lt (by omega) (by omega) (by omega)
          refine lv_lconst (v := lN 1) hx hb dX0_afterWish_96 rfl ?_
          refine lv_bipush (v := nI 40) hx hb dX0_afterWish_97 (by decide) ?_
          refine lv_iload_n hx hb dX0_afterWish_99 rfl (lv_at hl 5 rfl) ?_
          refine lv_iadd hx hb dX0_afterWish_100 ?_
          refine lv_topE (nI 41) (nI_add _ _) ?_
          refine lv_lshl hx hb dX0_afterWish_101 rfl ?_
          refine lv_lor hx hb dX0_afterWish_102 ?_
          refine lv_topEl (lN (withN sx 31 9 0 ||| 1 * 2 ^ 41)) (z_orv (by omega) (by omega) (by decide)) ?_
          subst hQ
          exact rtl hx hb hr hlocks rfl (by first | (unfold wishC; (try first | rw [if_pos c19_27] | rw [if_neg c19_27]); (try first | rw [if_pos c35_28] | rw [if_neg c35_28]); (try first | rw [if_pos c51_30] | rw [if_neg c51_30]); (try rfl); done) | (exfalso; omega)) dX0_afterWish_103
      · have c35_28 : ¬ (mayC so1 (bitsN sx (31) 9) 2) := bP_f c35_28
        refine lv_ldc2 (v := (-1)) hx hb hown (hU _ mU_391) dX0_afterWish_38 ?_
        subst hQ
        exact rtl hx hb hr hlocks rfl (by first | (unfold wishC; (try first | rw [if_pos c19_27] | rw [if_neg c19_27]); (try first | rw [if_pos c35_28] | rw [if_neg c35_28]); (try rfl); done) | (exfalso; omega)) dX0_afterWish_41

theorem z_orw {x v p : Nat} (hx : x < 2 ^ 62) (hv : v < 8) (hp : p ≤ 40) : lN x ||| (lN v <<< ((nI p).toInt64 &&& 63)) = lN (x ||| v * 2 ^ p) := by
  have h1 : v * 2 ^ p < 2 ^ 64 := Nat.lt_of_le_of_lt (Nat.mul_le_mul (show v ≤ 8 by omega) (Nat.pow_le_pow_right (show 0 < 2 by decide) hp)) (by decide)
  rw [wb_shl v (by omega), wb_or (by omega) h1]
def withWishC (x h qu wi : Nat) : Option Nat := if wishA qu 0 = 4294967295 then some (x ||| (wi + 1) * 2 ^ (22 + 9 * h + 0)) else if wishA qu 1 = 4294967295 then some (x ||| (wi + 1) * 2 ^ (22 + 9 * h + 3)) else if wishA qu 2 = 4294967295 then some (x ||| (wi + 1) * 2 ^ (22 + 9 * h + 6)) else none
set_option maxHeartbeats 4000000 in
set_option maxRecDepth 100000 in
theorem c_X0_withWish (l : Launch) (sx : Nat) (h : Nat) (qu : Nat) (wi : Nat) (hsx : sx < 2 ^ 44) (hh : h < 2) (hqu : qu < 512) (hwi : wi < 7) : Met l yX0_withWish (.code yX0_withWish cX0_withWish 6 (some .long) :: wsL_law) ({ frames := 1, cells := 0, slots := 0, locals := 21 }) (va_Pc [.long (lN sx), .int (nI h), .int (nI qu), .int (nI wi)] PU) (QrL (eO (withWishC sx h qu wi))) 0 0 (fun _ => False) := by
  refine Met.ofW (cc := cX0_withWish) (maxL := 6) (ret := (some .long)) (by decide) rfl ?_
  intro p e s m args below meth c s₁ B hml hv
  obtain ⟨rfl, hv⟩ := hv
  have hx := B.exec
  have hb := B.bytes
  have hr := B.returns
  have hts := atoms_spec (ws := .code yX0_withWish cX0_withWish 6 (some .long) :: wsL_law) B.pre
  have hU : ∀ w ∈ wsL_law, w.before _ s = true := fun w h => hts w (List.mem_cons_of_mem _ h)
  have hown : s.vm.findClass RX0 = some m.cls := findClass_of_methodNamed B.named
  have hlocks := B.notSynchronized
  generalize hQ : MQ _ _ _ _ _ _ _ = Q
  have hl := lv_entry ([.long (lN sx), .int (nI h), .int (nI qu), .int (nI wi)]) (n := 6) (Nat.le_of_ble_eq_true rfl)
  rw [lg_entry_eq]
  generalize (lg_sl ([.long (lN sx), .int (nI h), .int (nI qu), .int (nI wi)]) ++ List.replicate (6 - (lg_sl ([.long (lN sx), .int (nI h), .int (nI qu), .int (nI wi)])).length) Slot.unset).toArray = ls at hl ⊢
  have hl : lv_has ls 6 [(0, .long (lN sx)), (2, .int (nI h)), (3, .int (nI qu)), (4, .int (nI wi))] := hl
  refine lv_iconst (v := nI 0) hx hb dX0_withWish_0 (by decide) ?_
  refine lv_istore (lv' := [(5, .int (nI 0)), (0, .long (lN sx)), (2, .int (nI h)), (3, .int (nI qu)), (4, .int (nI wi))]) hx hb dX0_withWish_1 hl (by decide) rfl (fun ls hl => ?_)
  refine lv_iload hx hb dX0_withWish_3 (lv_at hl 0 rfl) ?_
  refine lv_iconst (v := nI 3) hx hb dX0_withWish_5 (by decide) ?_
  refine lv_icmp_ge (tgt := 46) hx hb dX0_withWish_6 (by decide) (fun c6_1 => absurd c6_1 (by decide)) (fun c6_1 => ?_)
  refine lv_iload_n hx hb dX0_withWish_9 rfl (lv_at hl 3 rfl) ?_
  refine lv_iload hx hb dX0_withWish_10 (lv_at hl 0 rfl) ?_
  refine cSi (As := [.int (nI qu), .int (nI 0)]) (rest := []) ⟨hx, hb, hml, hown, hts⟩ (c_X0_wishAt l  qu 0 (by omega) (by omega)) (va_cwS 2 hts (gS mU_413 mU_414 mU_27 mU_415) rfl rfl rfl (by decide +kernel) ⟨Nat.le_of_ble_eq_true rfl, Nat.le_of_ble_eq_true rfl⟩) fbU (fun _ _ _ => trivial) rfl hl.1 rfl (Nat.le_of_ble_eq_true rfl) dX0_withWish_12 ⟨Nat.zero_le _, Nat.zero_le _⟩ ?_
  have hf_2 : wishA qu 0 < 7 ∨ wishA qu 0 = 4294967295 := wishA_or _ _
  refine lv_iconst (v := nI 4294967295) hx hb dX0_withWish_15 (by decide) ?_
  refine lv_icmp_ne (tgt := 40) hx hb dX0_withWish_16 (by decide) (fun c16_3 => ?_) (fun c16_3 => ?_)
  · have c16_3 : ¬ (wishA qu 0 = 4294967295) := fun h9 => c16_3 ((nI_eqG (a := wishA qu 0) (b := 4294967295) (by omega) (by omega)).mpr h9)
    refine lv_iinc (v := nI 1) (lv' := [(5, .int (nI 1)), (0, .long (lN sx)), (2, .int (nI h)), (3, .int (nI qu)), (4, .int (nI wi))]) hx hb dX0_withWish_40 hl (k := 0) rfl (by decide) (by decide) rfl (fun ls hl => ?_)
    refine lv_goto (tgt := 3) hx hb dX0_withWish_43 (by decide) ?_
    refine lv_iload hx hb dX0_withWish_3 (lv_at hl 0 rfl) ?_
    refine lv_iconst (v := nI 3) hx hb dX0_withWish_5 (by decide) ?_
    refine lv_icmp_ge (tgt := 46) hx hb dX0_withWish_6 (by decide) (fun c6_4 => absurd c6_4 (by decide)) (fun c6_4 => ?_)
    refine lv_iload_n hx hb dX0_withWish_9 rfl (lv_at hl 3 rfl) ?_
    refine lv_iload hx hb dX0_withWish_10 (lv_at hl 0 rfl) ?_
    refine cSi (As := [.int (nI qu), .int (nI 1)]) (rest := []) ⟨hx, hb, hml, hown, hts⟩ (c_X0_wishAt l  qu 1 (by omega) (by omega)) (va_cwS 2 hts (gS mU_413 mU_414 mU_27 mU_415) rfl rfl rfl (by decide +kernel) ⟨Nat.le_of_ble_eq_true rfl, Nat.le_of_ble_eq_true rfl⟩) fbU (fun _ _ _ => trivial) rfl hl.1 rfl (Nat.le_of_ble_eq_true rfl) dX0_withWish_12 ⟨Nat.zero_le _, Nat.zero_le _⟩ ?_
    have hf_5 : wishA qu 1 < 7 ∨ wishA qu 1 = 4294967295 := wishA_or _ _
    refine lv_iconst (v := nI 4294967295) hx hb dX0_withWish_15 (by decide) ?_
    refine lv_icmp_ne (tgt := 40) hx hb dX0_withWish_16 (by decide) (fun c16_6 => ?_) (fun c16_6 => ?_)
    · have c16_6 : ¬ (wishA qu 1 = 4294967295) := fun h9 => c16_6 ((nI_eqG (a := wishA qu 1) (b := 4294967295) (by omega) (by omega)).mpr h9)
      refine lv_iinc (v := nI 2) (lv' := [(5, .int (nI 2)), (0, .long (lN sx)), (2, .int (nI h)), (3, .int (nI qu)), (4, .int (nI wi))]) hx hb dX0_withWish_40 hl (k := 0) rfl (by decide) (by decide) rfl (fun ls hl => ?_)
      refine lv_goto (tgt := 3) hx hb dX0_withWish_43 (by decide) ?_
      refine lv_iload hx hb dX0_withWish_3 (lv_at hl 0 rfl) ?_
      refine lv_iconst (v := nI 3) hx hb dX0_withWish_5 (by decide) ?_
      refine lv_icmp_ge (tgt := 46) hx hb dX0_withWish_6 (by decide) (fun c6_7 => absurd c6_7 (by decide)) (fun c6_7 => ?_)
      refine lv_iload_n hx hb dX0_withWish_9 rfl (lv_at hl 3 rfl) ?_
      refine lv_iload hx hb dX0_withWish_10 (lv_at hl 0 rfl) ?_
      refine cSi (As := [.int (nI qu), .int (nI 2)]) (rest := []) ⟨hx, hb, hml, hown, hts⟩ (c_X0_wishAt l  qu 2 (by omega) (by omega)) (va_cwS 2 hts (gS mU_413 mU_414 mU_27 mU_415) rfl rfl rfl (by decide +kernel) ⟨Nat.le_of_ble_eq_true rfl, Nat.le_of_ble_eq_true rfl⟩) fbU (fun _ _ _ => trivial) rfl hl.1 rfl (Nat.le_of_ble_eq_true rfl) dX0_withWish_12 ⟨Nat.zero_le _, Nat.zero_le _⟩ ?_
      have hf_8 : wishA qu 2 < 7 ∨ wishA qu 2 = 4294967295 := wishA_or _ _
      refine lv_iconst (v := nI 4294967295) hx hb dX0_withWish_15 (by decide) ?_
      refine lv_icmp_ne (tgt := 40) hx hb dX0_withWish_16 (by decide) (fun c16_9 => ?_) (fun c16_9 => ?_)
      · have c16_9 : ¬ (wishA qu 2 = 4294967295) := fun h9 => c16_9 ((nI_eqG (a := wishA qu 2) (b := 4294967295) (by omega) (by omega)).mpr h9)
        refine lv_iinc (v := nI 3) (lv' := [(5, .int (nI 3)), (0, .long (lN sx)), (2, .int (nI h)), (3, .int (nI qu)), (4, .int (nI wi))]) hx hb dX0_withWish_40 hl (k := 0) rfl (by decide) (by decide) rfl (fun ls hl => ?_)
        refine lv_goto (tgt := 3) hx hb dX0_withWish_43 (by decide) ?_
        refine lv_iload hx hb dX0_withWish_3 (lv_at hl 0 rfl) ?_
        refine lv_iconst (v := nI 3) hx hb dX0_withWish_5 (by decide) ?_
        refine lv_icmp_ge (tgt := 46) hx hb dX0_withWish_6 (by decide) (fun c6_10 => ?_) (fun c6_10 => absurd (by decide) c6_10)
        refine lv_ldc2 (v := (-1)) hx hb hown (hU _ mU_391) dX0_withWish_46 ?_
        subst hQ
        exact rtl hx hb hr hlocks rfl (by first | (unfold withWishC; (try first | rw [if_pos c16_3] | rw [if_neg c16_3]); (try first | rw [if_pos c16_6] | rw [if_neg c16_6]); (try first | rw [if_pos c16_9] | rw [if_neg c16_9]); (try rfl); done) | (exfalso; omega)) dX0_withWish_49
      · have c16_9 : wishA qu 2 = 4294967295 := (nI_eqG (a := wishA qu 2) (b := 4294967295) (by omega) (by omega)).mp c16_9
        refine lv_lload_n hx hb dX0_withWish_19 rfl (lv_at hl 1 rfl) ?_
        refine lv_iload hx hb dX0_withWish_20 (lv_at hl 4 rfl) ?_
        refine lv_iconst (v := nI 1) hx hb dX0_withWish_22 (by decide) ?_
        refine lv_iadd hx hb dX0_withWish_23 ?_
        refine lv_topE (nI (wi + 1)) (nI_add _ _) ?_
        refine lv_i2l (v := lN (wi + 1)) hx hb dX0_withWish_24 (nI_l (by omega)) ?_
        refine lv_bipush (v := nI 22) hx hb dX0_withWish_25 (by decide) ?_
        refine lv_bipush (v := nI 9) hx hb dX0_withWish_27 (by decide) ?_
        refine lv_iload_n hx hb dX0_withWish_29 rfl (lv_at hl 2 rfl) ?_
        refine lv_imul hx hb dX0_withWish_30 ?_
        refine lv_topE (nI (9 * h)) (pk_mul _ _) ?_
        refine lv_iadd hx hb dX0_withWish_31 ?_
        refine lv_topE (nI (22 + (9 * h))) (nI_add _ _) ?_
        refine lv_iconst (v := nI 3) hx hb dX0_withWish_32 (by decide) ?_
        refine lv_iload hx hb dX0_withWish_33 (lv_at hl 0 rfl) ?_
        refine lv_imul hx hb dX0_withWish_35 ?_
        refine lv_topE (nI 6) (pk_mul _ _) ?_
        refine lv_iadd hx hb dX0_withWish_36 ?_
        refine lv_topE (nI ((22 + (9 * h)) + 6)) (nI_add _ _) ?_
        refine lv_lshl hx hb dX0_withWish_37 rfl ?_
        refine lv_lor hx hb dX0_withWish_38 ?_
        refine lv_topEl (lN (sx ||| (wi + 1) * 2 ^ (22 + 9 * h + 6))) (z_orw (by omega) (by omega) (by omega)) ?_
        subst hQ
        exact rtl hx hb hr hlocks rfl (by first | (unfold withWishC; (try first | rw [if_pos c16_3] | rw [if_neg c16_3]); (try first | rw [if_pos c16_6] | rw [if_neg c16_6]); (try first | rw [if_pos c16_9] | rw [if_neg c16_9]); (try rfl); done) | (exfalso; omega)) dX0_withWish_39
    · have c16_6 : wishA qu 1 = 4294967295 := (nI_eqG (a := wishA qu 1) (b := 4294967295) (by omega) (by omega)).mp c16_6
      refine lv_lload_n hx hb dX0_withWish_19 rfl (lv_at hl 1 rfl) ?_
      refine lv_iload hx hb dX0_withWish_20 (lv_at hl 4 rfl) ?_
      refine lv_iconst (v := nI 1) hx hb dX0_withWish_22 (by decide) ?_
      refine lv_iadd hx hb dX0_withWish_23 ?_
      refine lv_topE (nI (wi + 1)) (nI_add _ _) ?_
      refine lv_i2l (v := lN (wi + 1)) hx hb dX0_withWish_24 (nI_l (by omega)) ?_
      refine lv_bipush (v := nI 22) hx hb dX0_withWish_25 (by decide) ?_
      refine lv_bipush (v := nI 9) hx hb dX0_withWish_27 (by decide) ?_
      refine lv_iload_n hx hb dX0_withWish_29 rfl (lv_at hl 2 rfl) ?_
      refine lv_imul hx hb dX0_withWish_30 ?_
      refine lv_topE (nI (9 * h)) (pk_mul _ _) ?_
      refine lv_iadd hx hb dX0_withWish_31 ?_
      refine lv_topE (nI (22 + (9 * h))) (nI_add _ _) ?_
      refine lv_iconst (v := nI 3) hx hb dX0_withWish_32 (by decide) ?_
      refine lv_iload hx hb dX0_withWish_33 (lv_at hl 0 rfl) ?_
      refine lv_imul hx hb dX0_withWish_35 ?_
      refine lv_topE (nI 3) (pk_mul _ _) ?_
      refine lv_iadd hx hb dX0_withWish_36 ?_
      refine lv_topE (nI ((22 + (9 * h)) + 3)) (nI_add _ _) ?_
      refine lv_lshl hx hb dX0_withWish_37 rfl ?_
      refine lv_lor hx hb dX0_withWish_38 ?_
      refine lv_topEl (lN (sx ||| (wi + 1) * 2 ^ (22 + 9 * h + 3))) (z_orw (by omega) (by omega) (by omega)) ?_
      subst hQ
      exact rtl hx hb hr hlocks rfl (by first | (unfold withWishC; (try first | rw [if_pos c16_3] | rw [if_neg c16_3]); (try first | rw [if_pos c16_6] | rw [if_neg c16_6]); (try rfl); done) | (exfalso; omega)) dX0_withWish_39
  · have c16_3 : wishA qu 0 = 4294967295 := (nI_eqG (a := wishA qu 0) (b := 4294967295) (by omega) (by omega)).mp c16_3
    refine lv_lload_n hx hb dX0_withWish_19 rfl (lv_at hl 1 rfl) ?_
    refine lv_iload hx hb dX0_withWish_20 (lv_at hl 4 rfl) ?_
    refine lv_iconst (v := nI 1) hx hb dX0_withWish_22 (by decide) ?_
    refine lv_iadd hx hb dX0_withWish_23 ?_
    refine lv_topE (nI (wi + 1)) (nI_add _ _) ?_
    refine lv_i2l (v := lN (wi + 1)) hx hb dX0_withWish_24 (nI_l (by omega)) ?_
    refine lv_bipush (v := nI 22) hx hb dX0_withWish_25 (by decide) ?_
    refine lv_bipush (v := nI 9) hx hb dX0_withWish_27 (by decide) ?_
    refine lv_iload_n hx hb dX0_withWish_29 rfl (lv_at hl 2 rfl) ?_
    refine lv_imul hx hb dX0_withWish_30 ?_
    refine lv_topE (nI (9 * h)) (pk_mul _ _) ?_
    refine lv_iadd hx hb dX0_withWish_31 ?_
    refine lv_topE (nI (22 + (9 * h))) (nI_add _ _) ?_
    refine lv_iconst (v := nI 3) hx hb dX0_withWish_32 (by decide) ?_
    refine lv_iload hx hb dX0_withWish_33 (lv_at hl 0 rfl) ?_
    refine lv_imul hx hb dX0_withWish_35 ?_
    refine lv_topE (nI 0) (pk_mul _ _) ?_
    refine lv_iadd hx hb dX0_withWish_36 ?_
    refine lv_topE (nI ((22 + (9 * h)) + 0)) (nI_add _ _) ?_
    refine lv_lshl hx hb dX0_withWish_37 rfl ?_
    refine lv_lor hx hb dX0_withWish_38 ?_
    refine lv_topEl (lN (sx ||| (wi + 1) * 2 ^ (22 + 9 * h + 0))) (z_orw (by omega) (by omega) (by omega)) ?_
    subst hQ
    exact rtl hx hb hr hlocks rfl (by first | (unfold withWishC; (try first | rw [if_pos c16_3] | rw [if_neg c16_3]); (try rfl); done) | (exfalso; omega)) dX0_withWish_39

abbrev kW (ma mb mc md : Nat) (k0 k1 k2 : ClassId) (mf : Nat) (wo ri : Nat → Nat) (pa0 pb0 pc0 : Nat) (kb0 kc0 : ClassId) (n0 : Nat) (so0 nu0 : Nat → Nat) (pa1 pb1 pc1 : Nat) (kb1 kc1 : ClassId) (n1 : Nat) (so1 nu1 : Nat → Nat) : va_W := [(ma, .inr (0, [.ref mb, .ref mc, .ref md, .int (nI mf)])), (mb, .inl (k0, 2, .inr (.inr (.inr (.inr (fun j => if j = 0 then some pa0 else some pa1)))))), (mc, .inl (k1, 4, .inl (nA wo))), (md, .inl (k2, 4, .inl (nA ri))), (pa0, .inr (1, [.int (nI n0), .ref pb0, .ref pc0])), (pb0, .inl (kb0, 8, .inl (nA so0))), (pc0, .inl (kc0, 32, .inl (nA nu0))), (pa1, .inr (1, [.int (nI n1), .ref pb1, .ref pc1])), (pb1, .inl (kb1, 8, .inl (nA so1))), (pc1, .inl (kc1, 32, .inl (nA nu1)))]
abbrev kT (k0 k1 k2 kb0 kc0 kb1 kc1 : ClassId) : List (ClassId × FieldType) := [(k0, .object "FarStore$Program"), (k1, .int), (k2, .int), (kb0, .int), (kc0, .int), (kb1, .int), (kc1, .int)]
theorem z_ork {a v p : Nat} (ha : a < 2 ^ p) (hv : v < 4) (hp : p ≤ 20) : lN a ||| (lN v <<< ((nI p).toInt64 &&& 63)) = lN (a + v * 2 ^ p) := by
  have h0 : 2 ^ p ≤ 2 ^ 20 := Nat.pow_le_pow_right (by decide) hp
  have h1 : v * 2 ^ p < 2 ^ 64 := Nat.lt_of_le_of_lt (Nat.mul_le_mul (show v ≤ 4 by omega) h0) (by decide)
  rw [wb_shl v (by omega), wb_or (Nat.lt_of_lt_of_le ha (Nat.le_trans h0 (by decide))) h1, Nat.or_comm, Nat.mul_comm v, ← Nat.two_pow_add_eq_or_of_lt ha, Nat.add_comm]
abbrev rgtC (ri so nu : Nat → Nat) (wi : Nat) : Prop := ¬ ri (nu (wi * 4 + 0)) &&& needM (so wi) = 0
set_option maxHeartbeats 4000000 in
set_option maxRecDepth 100000 in
theorem c_X0_goodEnd (l : Launch) (D : va_G) (ma mb mc md : Nat) (k0 k1 k2 : ClassId) (mf : Nat) (wo ri : Nat → Nat) (pa0 pb0 pc0 : Nat) (kb0 kc0 : ClassId) (n0 : Nat) (so0 nu0 : Nat → Nat) (pa1 pb1 pc1 : Nat) (kb1 kc1 : ClassId) (n1 : Nat) (so1 nu1 : Nat → Nat)  (hn0 : n0 < 8) (hn1 : n1 < 8) : Met l yX0_goodEnd (.code yX0_goodEnd cX0_goodEnd 1 (some .long) :: wsL_law) ({ frames := 1, cells := 0, slots := 0, locals := 21 }) (va_Pc [.ref ma] (PR D (kW ma mb mc md k0 k1 k2 mf wo ri pa0 pb0 pc0 kb0 kc0 n0 so0 nu0 pa1 pb1 pc1 kb1 kc1 n1 so1 nu1) (kT k0 k1 k2 kb0 kc0 kb1 kc1))) (QrL (lN (n0 * 65536 + n1 * 524288))) 0 0 (fun _ => False) := by
  refine Met.ofW (cc := cX0_goodEnd) (maxL := 1) (ret := (some .long)) (by decide) rfl ?_
  intro p e s m args below meth c s₁ B hml hv
  obtain ⟨rfl, hP, hK⟩ := hv
  have hx := B.exec
  have hb := B.bytes
  have hr := B.returns
  have hts := atoms_spec (ws := .code yX0_goodEnd cX0_goodEnd 1 (some .long) :: wsL_law) B.pre
  have hU : ∀ w ∈ wsL_law, w.before _ s = true := fun w h => hts w (List.mem_cons_of_mem _ h)
  have hown : s.vm.findClass RX0 = some m.cls := findClass_of_methodNamed B.named
  have hlocks := B.notSynchronized
  generalize hQ : MQ _ _ _ _ _ _ _ = Q
  have hl := lv_entry ([.ref ma]) (n := 1) (Nat.le_of_ble_eq_true rfl)
  rw [lg_entry_eq]
  generalize (lg_sl ([.ref ma]) ++ List.replicate (1 - (lg_sl ([.ref ma])).length) Slot.unset).toArray = ls at hl ⊢
  have hl : lv_has ls 1 [(0, .ref ma)] := hl
  refine lv_aload_n hx hb dX0_goodEnd_0 rfl (lv_at hl 0 rfl) ?_
  refine va_get (D := D) (ci := 0) (v := .ref mb) (C := RX0) (T := TX0) (N := 4) hx hb hU iX0 hown hK hP 0 rfl rfl 0 (by decide) (hU _ mU_54) (fun _ h9 => h9) rfl dX0_goodEnd_1 ?_
  refine lv_iconst (v := nI 0) hx hb dX0_goodEnd_4 (by decide) ?_
  refine va_aldq hx hb hK hP 1 0 rfl rfl (vp_in_nI (n := 0) (by decide) (by decide)) dX0_goodEnd_5 ?_
  refine W.eq (g2 := F0 m 6 ls [.ref pa0]) (by rw [nI_clamp (show 0 < 2 ^ 31 by decide)]; rfl) ?_
  refine va_get (D := D) (ci := 1) (v := .int (nI n0)) (C := RX1) (T := TX1) (N := 3) hx hb hU iX1 hown hK hP 4 rfl rfl 0 (by decide) (hU _ mU_396) (fun _ h9 => h9) rfl dX0_goodEnd_6 ?_
  refine lv_aload_n hx hb dX0_goodEnd_9 rfl (lv_at hl 0 rfl) ?_
  refine va_get (D := D) (ci := 0) (v := .ref mb) (C := RX0) (T := TX0) (N := 4) hx hb hU iX0 hown hK hP 0 rfl rfl 0 (by decide) (hU _ mU_54) (fun _ h9 => h9) rfl dX0_goodEnd_10 ?_
  refine lv_iconst (v := nI 1) hx hb dX0_goodEnd_13 (by decide) ?_
  refine va_aldq hx hb hK hP 1 0 rfl rfl (vp_in_nI (n := 1) (by decide) (by decide)) dX0_goodEnd_14 ?_
  refine W.eq (g2 := F0 m 15 ls [.ref pa1, .int (nI n0)]) (by rw [nI_clamp (show 1 < 2 ^ 31 by decide)]; rfl) ?_
  refine va_get (D := D) (ci := 1) (v := .int (nI n1)) (C := RX1) (T := TX1) (N := 3) hx hb hU iX1 hown hK hP 7 rfl rfl 0 (by decide) (hU _ mU_396) (fun _ h9 => h9) rfl dX0_goodEnd_15 ?_
  refine cSl (As := [.int (nI n0), .int (nI n1)]) (rest := []) ⟨hx, hb, hml, hown, hts⟩ (c_X0_placesOf l  n0 n1 (by omega) (by omega)) (va_cwS 2 hts (gS mU_454 mU_455 mU_27 mU_456) rfl rfl rfl (by decide +kernel) ⟨Nat.le_of_ble_eq_true rfl, Nat.le_of_ble_eq_true rfl⟩) fbU (fun _ _ _ => trivial) rfl hl.1 rfl (Nat.le_of_ble_eq_true rfl) dX0_goodEnd_18 ⟨Nat.zero_le _, Nat.zero_le _⟩ ?_
  subst hQ
  exact rtl hx hb hr hlocks rfl (rfl) dX0_goodEnd_21

set_option maxHeartbeats 4000000 in
set_option maxRecDepth 100000 in
theorem c_X0_beginning (l : Launch) (D : va_G) (ma mb mc md : Nat) (k0 k1 k2 : ClassId) (mf : Nat) (wo ri : Nat → Nat) (pa0 pb0 pc0 : Nat) (kb0 kc0 : ClassId) (n0 : Nat) (so0 nu0 : Nat → Nat) (pa1 pb1 pc1 : Nat) (kb1 kc1 : ClassId) (n1 : Nat) (so1 nu1 : Nat → Nat)  (hwo : ∀ j, j < 4 → wo j < 4) : Met l yX0_beginning (.code yX0_beginning cX0_beginning 4 (some .long) :: wsL_law) ({ frames := 0, cells := 0, slots := 0, locals := 0 }) (va_Pc [.ref ma] (PR D (kW ma mb mc md k0 k1 k2 mf wo ri pa0 pb0 pc0 kb0 kc0 n0 so0 nu0 pa1 pb1 pc1 kb1 kc1 n1 so1 nu1) (kT k0 k1 k2 kb0 kc0 kb1 kc1))) (QrL (lN (0 + wo 0 * 2 ^ 0 + wo 1 * 2 ^ 2 + wo 2 * 2 ^ 4 + wo 3 * 2 ^ 6))) 0 0 (fun _ => False) := by
  refine Met.ofW (cc := cX0_beginning) (maxL := 4) (ret := (some .long)) (by decide) rfl ?_
  intro p e s m args below meth c s₁ B hml hv
  obtain ⟨rfl, hP, hK⟩ := hv
  have hx := B.exec
  have hb := B.bytes
  have hr := B.returns
  have hts := atoms_spec (ws := .code yX0_beginning cX0_beginning 4 (some .long) :: wsL_law) B.pre
  have hU : ∀ w ∈ wsL_law, w.before _ s = true := fun w h => hts w (List.mem_cons_of_mem _ h)
  have hown : s.vm.findClass RX0 = some m.cls := findClass_of_methodNamed B.named
  have hlocks := B.notSynchronized
  generalize hQ : MQ _ _ _ _ _ _ _ = Q
  have hl := lv_entry ([.ref ma]) (n := 4) (Nat.le_of_ble_eq_true rfl)
  rw [lg_entry_eq]
  generalize (lg_sl ([.ref ma]) ++ List.replicate (4 - (lg_sl ([.ref ma])).length) Slot.unset).toArray = ls at hl ⊢
  have hl : lv_has ls 4 [(0, .ref ma)] := hl
  refine lv_lconst (v := lN 0) hx hb dX0_beginning_0 rfl ?_
  refine lv_lstore_n (lv' := [(1, .long (lN 0)), (0, .ref ma)]) hx hb dX0_beginning_1 rfl hl (by decide) rfl (fun ls hl => ?_)
  refine lv_iconst (v := nI 0) hx hb dX0_beginning_2 (by decide) ?_
  refine lv_istore_n (lv' := [(3, .int (nI 0)), (1, .long (lN 0)), (0, .ref ma)]) hx hb dX0_beginning_3 rfl hl (by decide) rfl (fun ls hl => ?_)
  refine lv_iload_n hx hb dX0_beginning_4 rfl (lv_at hl 0 rfl) ?_
  refine lv_iconst (v := nI 4) hx hb dX0_beginning_5 (by decide) ?_
  refine lv_icmp_ge (tgt := 29) hx hb dX0_beginning_6 (by decide) (fun c6_1 => absurd c6_1 (by decide)) (fun c6_1 => ?_)
  refine lv_lload_n hx hb dX0_beginning_9 rfl (lv_at hl 1 rfl) ?_
  refine lv_aload_n hx hb dX0_beginning_10 rfl (lv_at hl 2 rfl) ?_
  refine va_get (D := D) (ci := 0) (v := .ref mc) (C := RX0) (T := TX0) (N := 4) hx hb hU iX0 hown hK hP 0 rfl rfl 1 (by decide) (hU _ mU_55) (fun _ h9 => h9) rfl dX0_beginning_11 ?_
  refine lv_iload_n hx hb dX0_beginning_14 rfl (lv_at hl 0 rfl) ?_
  refine n_iald hx hb hK hP 2 1 rfl rfl (i := 0) (by omega) (by decide) dX0_beginning_15 ?_
  have hw0 := hwo 0 (by decide)
  refine lv_i2l (v := lN (wo 0)) hx hb dX0_beginning_16 (nI_l (by omega)) ?_
  refine lv_iconst (v := nI 2) hx hb dX0_beginning_17 (by decide) ?_
  refine lv_iload_n hx hb dX0_beginning_18 rfl (lv_at hl 0 rfl) ?_
  refine lv_imul hx hb dX0_beginning_19 ?_
  refine lv_topE (nI 0) (pk_mul _ _) ?_
  refine lv_lshl hx hb dX0_beginning_20 rfl ?_
  refine lv_lor hx hb dX0_beginning_21 ?_
  refine lv_topEl (lN (0 + wo 0 * 2 ^ 0)) (z_ork (by omega) (by omega) (by decide)) ?_
  refine lv_lstore_n (lv' := [(1, .long (lN (0 + wo 0 * 2 ^ 0))), (3, .int (nI 0)), (0, .ref ma)]) hx hb dX0_beginning_22 rfl hl (by decide) rfl (fun ls hl => ?_)
  refine lv_iinc (v := nI 1) (lv' := [(3, .int (nI 1)), (1, .long (lN (0 + wo 0 * 2 ^ 0))), (0, .ref ma)]) hx hb dX0_beginning_23 hl (k := 1) rfl (by decide) (by decide) rfl (fun ls hl => ?_)
  refine lv_goto (tgt := 4) hx hb dX0_beginning_26 (by decide) ?_
  refine lv_iload_n hx hb dX0_beginning_4 rfl (lv_at hl 0 rfl) ?_
  refine lv_iconst (v := nI 4) hx hb dX0_beginning_5 (by decide) ?_
  refine lv_icmp_ge (tgt := 29) hx hb dX0_beginning_6 (by decide) (fun c6_2 => absurd c6_2 (by decide)) (fun c6_2 => ?_)
  refine lv_lload_n hx hb dX0_beginning_9 rfl (lv_at hl 1 rfl) ?_
  refine lv_aload_n hx hb dX0_beginning_10 rfl (lv_at hl 2 rfl) ?_
  refine va_get (D := D) (ci := 0) (v := .ref mc) (C := RX0) (T := TX0) (N := 4) hx hb hU iX0 hown hK hP 0 rfl rfl 1 (by decide) (hU _ mU_55) (fun _ h9 => h9) rfl dX0_beginning_11 ?_
  refine lv_iload_n hx hb dX0_beginning_14 rfl (lv_at hl 0 rfl) ?_
  refine n_iald hx hb hK hP 2 1 rfl rfl (i := 1) (by omega) (by decide) dX0_beginning_15 ?_
  have hw1 := hwo 1 (by decide)
  refine lv_i2l (v := lN (wo 1)) hx hb dX0_beginning_16 (nI_l (by omega)) ?_
  refine lv_iconst (v := nI 2) hx hb dX0_beginning_17 (by decide) ?_
  refine lv_iload_n hx hb dX0_beginning_18 rfl (lv_at hl 0 rfl) ?_
  refine lv_imul hx hb dX0_beginning_19 ?_
  refine lv_topE (nI 2) (pk_mul _ _) ?_
  refine lv_lshl hx hb dX0_beginning_20 rfl ?_
  refine lv_lor hx hb dX0_beginning_21 ?_
  refine lv_topEl (lN (0 + wo 0 * 2 ^ 0 + wo 1 * 2 ^ 2)) (z_ork (by omega) (by omega) (by decide)) ?_
  refine lv_lstore_n (lv' := [(1, .long (lN (0 + wo 0 * 2 ^ 0 + wo 1 * 2 ^ 2))), (3, .int (nI 1)), (0, .ref ma)]) hx hb dX0_beginning_22 rfl hl (by decide) rfl (fun ls hl => ?_)
  refine lv_iinc (v := nI 2) (lv' := [(3, .int (nI 2)), (1, .long (lN (0 + wo 0 * 2 ^ 0 + wo 1 * 2 ^ 2))), (0, .ref ma)]) hx hb dX0_beginning_23 hl (k := 1) rfl (by decide) (by decide) rfl (fun ls hl => ?_)
  refine lv_goto (tgt := 4) hx hb dX0_beginning_26 (by decide) ?_
  refine lv_iload_n hx hb dX0_beginning_4 rfl (lv_at hl 0 rfl) ?_
  refine lv_iconst (v := nI 4) hx hb dX0_beginning_5 (by decide) ?_
  refine lv_icmp_ge (tgt := 29) hx hb dX0_beginning_6 (by decide) (fun c6_3 => absurd c6_3 (by decide)) (fun c6_3 => ?_)
  refine lv_lload_n hx hb dX0_beginning_9 rfl (lv_at hl 1 rfl) ?_
  refine lv_aload_n hx hb dX0_beginning_10 rfl (lv_at hl 2 rfl) ?_
  refine va_get (D := D) (ci := 0) (v := .ref mc) (C := RX0) (T := TX0) (N := 4) hx hb hU iX0 hown hK hP 0 rfl rfl 1 (by decide) (hU _ mU_55) (fun _ h9 => h9) rfl dX0_beginning_11 ?_
  refine lv_iload_n hx hb dX0_beginning_14 rfl (lv_at hl 0 rfl) ?_
  refine n_iald hx hb hK hP 2 1 rfl rfl (i := 2) (by omega) (by decide) dX0_beginning_15 ?_
  have hw2 := hwo 2 (by decide)
  refine lv_i2l (v := lN (wo 2)) hx hb dX0_beginning_16 (nI_l (by omega)) ?_
  refine lv_iconst (v := nI 2) hx hb dX0_beginning_17 (by decide) ?_
  refine lv_iload_n hx hb dX0_beginning_18 rfl (lv_at hl 0 rfl) ?_
  refine lv_imul hx hb dX0_beginning_19 ?_
  refine lv_topE (nI 4) (pk_mul _ _) ?_
  refine lv_lshl hx hb dX0_beginning_20 rfl ?_
  refine lv_lor hx hb dX0_beginning_21 ?_
  refine lv_topEl (lN (0 + wo 0 * 2 ^ 0 + wo 1 * 2 ^ 2 + wo 2 * 2 ^ 4)) (z_ork (by omega) (by omega) (by decide)) ?_
  refine lv_lstore_n (lv' := [(1, .long (lN (0 + wo 0 * 2 ^ 0 + wo 1 * 2 ^ 2 + wo 2 * 2 ^ 4))), (3, .int (nI 2)), (0, .ref ma)]) hx hb dX0_beginning_22 rfl hl (by decide) rfl (fun ls hl => ?_)
  refine lv_iinc (v := nI 3) (lv' := [(3, .int (nI 3)), (1, .long (lN (0 + wo 0 * 2 ^ 0 + wo 1 * 2 ^ 2 + wo 2 * 2 ^ 4))), (0, .ref ma)]) hx hb dX0_beginning_23 hl (k := 1) rfl (by decide) (by decide) rfl (fun ls hl => ?_)
  refine lv_goto (tgt := 4) hx hb dX0_beginning_26 (by decide) ?_
  refine lv_iload_n hx hb dX0_beginning_4 rfl (lv_at hl 0 rfl) ?_
  refine lv_iconst (v := nI 4) hx hb dX0_beginning_5 (by decide) ?_
  refine lv_icmp_ge (tgt := 29) hx hb dX0_beginning_6 (by decide) (fun c6_4 => absurd c6_4 (by decide)) (fun c6_4 => ?_)
  refine lv_lload_n hx hb dX0_beginning_9 rfl (lv_at hl 1 rfl) ?_
  refine lv_aload_n hx hb dX0_beginning_10 rfl (lv_at hl 2 rfl) ?_
  refine va_get (D := D) (ci := 0) (v := .ref mc) (C := RX0) (T := TX0) (N := 4) hx hb hU iX0 hown hK hP 0 rfl rfl 1 (by decide) (hU _ mU_55) (fun _ h9 => h9) rfl dX0_beginning_11 ?_
  refine lv_iload_n hx hb dX0_beginning_14 rfl (lv_at hl 0 rfl) ?_
  refine n_iald hx hb hK hP 2 1 rfl rfl (i := 3) (by omega) (by decide) dX0_beginning_15 ?_
  have hw3 := hwo 3 (by decide)
  refine lv_i2l (v := lN (wo 3)) hx hb dX0_beginning_16 (nI_l (by omega)) ?_
  refine lv_iconst (v := nI 2) hx hb dX0_beginning_17 (by decide) ?_
  refine lv_iload_n hx hb dX0_beginning_18 rfl (lv_at hl 0 rfl) ?_
  refine lv_imul hx hb dX0_beginning_19 ?_
  refine lv_topE (nI 6) (pk_mul _ _) ?_
  refine lv_lshl hx hb dX0_beginning_20 rfl ?_
  refine lv_lor hx hb dX0_beginning_21 ?_
  refine lv_topEl (lN (0 + wo 0 * 2 ^ 0 + wo 1 * 2 ^ 2 + wo 2 * 2 ^ 4 + wo 3 * 2 ^ 6)) (z_ork (by omega) (by omega) (by decide)) ?_
  refine lv_lstore_n (lv' := [(1, .long (lN (0 + wo 0 * 2 ^ 0 + wo 1 * 2 ^ 2 + wo 2 * 2 ^ 4 + wo 3 * 2 ^ 6))), (3, .int (nI 3)), (0, .ref ma)]) hx hb dX0_beginning_22 rfl hl (by decide) rfl (fun ls hl => ?_)
  refine lv_iinc (v := nI 4) (lv' := [(3, .int (nI 4)), (1, .long (lN (0 + wo 0 * 2 ^ 0 + wo 1 * 2 ^ 2 + wo 2 * 2 ^ 4 + wo 3 * 2 ^ 6))), (0, .ref ma)]) hx hb dX0_beginning_23 hl (k := 1) rfl (by decide) (by decide) rfl (fun ls hl => ?_)
  refine lv_goto (tgt := 4) hx hb dX0_beginning_26 (by decide) ?_
  refine lv_iload_n hx hb dX0_beginning_4 rfl (lv_at hl 0 rfl) ?_
  refine lv_iconst (v := nI 4) hx hb dX0_beginning_5 (by decide) ?_
  refine lv_icmp_ge (tgt := 29) hx hb dX0_beginning_6 (by decide) (fun c6_5 => ?_) (fun c6_5 => absurd (by decide) c6_5)
  refine lv_lload_n hx hb dX0_beginning_29 rfl (lv_at hl 1 rfl) ?_
  subst hQ
  exact rtl hx hb hr hlocks rfl (rfl) dX0_beginning_30

set_option maxHeartbeats 4000000 in
set_option maxRecDepth 100000 in
theorem c_X0_hasRight0 (l : Launch) (D : va_G) (ma mb mc md : Nat) (k0 k1 k2 : ClassId) (mf : Nat) (wo ri : Nat → Nat) (pa0 pb0 pc0 : Nat) (kb0 kc0 : ClassId) (n0 : Nat) (so0 nu0 : Nat → Nat) (pa1 pb1 pc1 : Nat) (kb1 kc1 : ClassId) (n1 : Nat) (so1 nu1 : Nat → Nat) (wi : Nat) (hwi : wi < 7) (hna : nu0 (wi * 4 + 0) < 4) (hso : so0 wi < 2147483648) (hri : ∀ j, ri j < 2147483648) : Met l yX0_hasRight (.code yX0_hasRight cX0_hasRight 4 (some .boolean) :: wsL_law) ({ frames := 1, cells := 0, slots := 0, locals := 22 }) (va_Pc [.ref ma, .ref pa0, .int (nI wi)] (PR D (kW ma mb mc md k0 k1 k2 mf wo ri pa0 pb0 pc0 kb0 kc0 n0 so0 nu0 pa1 pb1 pc1 kb1 kc1 n1 so1 nu1) (kT k0 k1 k2 kb0 kc0 kb1 kc1))) (QrI (bP (rgtC ri so0 nu0 wi))) 0 0 (fun _ => False) := by
  refine Met.ofW (cc := cX0_hasRight) (maxL := 4) (ret := (some .boolean)) (by decide) rfl ?_
  intro p e s m args below meth c s₁ B hml hv
  obtain ⟨rfl, hP, hK⟩ := hv
  have hx := B.exec
  have hb := B.bytes
  have hr := B.returns
  have hts := atoms_spec (ws := .code yX0_hasRight cX0_hasRight 4 (some .boolean) :: wsL_law) B.pre
  have hU : ∀ w ∈ wsL_law, w.before _ s = true := fun w h => hts w (List.mem_cons_of_mem _ h)
  have hown : s.vm.findClass RX0 = some m.cls := findClass_of_methodNamed B.named
  have hlocks := B.notSynchronized
  generalize hQ : MQ _ _ _ _ _ _ _ = Q
  have hl := lv_entry ([.ref ma, .ref pa0, .int (nI wi)]) (n := 4) (Nat.le_of_ble_eq_true rfl)
  rw [lg_entry_eq]
  generalize (lg_sl ([.ref ma, .ref pa0, .int (nI wi)]) ++ List.replicate (4 - (lg_sl ([.ref ma, .ref pa0, .int (nI wi)])).length) Slot.unset).toArray = ls at hl ⊢
  have hl : lv_has ls 4 [(0, .ref ma), (1, .ref pa0), (2, .int (nI wi))] := hl
  refine lv_aload_n hx hb dX0_hasRight_0 rfl (lv_at hl 1 rfl) ?_
  refine lv_iload_n hx hb dX0_hasRight_1 rfl (lv_at hl 2 rfl) ?_
  refine lv_iconst (v := nI 0) hx hb dX0_hasRight_2 (by decide) ?_
  have hPc := hP.sub (ws' := [(pa0, .inr (1, [.int (nI n0), .ref pb0, .ref pc0])), (pb0, .inl (kb0, 8, .inl (nA so0))), (pc0, .inl (kc0, 32, .inl (nA nu0)))]) [4, 5, 6] rfl
  have hKc := hK.sub (tys' := [(kb0, .int), (kc0, .int)]) [3, 4] rfl
  refine cVi (As := [.int (nI wi), .int (nI 0)]) (rest := []) ⟨hx, hb, hml, hown, hts⟩ (c_X1_number l D pa0 pb0 pc0 kb0 kc0 n0 so0 nu0 wi 0 (by omega)) (cwV 2 hts (gV mU_416 mU_417 mU_418 mU_22 mU_419) rfl rfl rfl (by decide +kernel) ⟨Nat.le_of_ble_eq_true rfl, Nat.le_of_ble_eq_true rfl⟩) fbR (va_recv hK hP (ci := 1) (q0 := 4) rfl rfl) (PR.of hPc hKc) rfl hl.1 rfl (Nat.le_of_ble_eq_true rfl) dX0_hasRight_3 ⟨Nat.zero_le _, Nat.zero_le _⟩ ?_
  refine lv_istore_n (lv' := [(3, .int (nI (nu0 (wi * 4 + 0)))), (0, .ref ma), (1, .ref pa0), (2, .int (nI wi))]) hx hb dX0_hasRight_6 rfl hl (by decide) rfl (fun ls hl => ?_)
  refine lv_iload_n hx hb dX0_hasRight_7 rfl (lv_at hl 0 rfl) ?_
  refine lv_if_lt (tgt := 16) hx hb dX0_hasRight_8 (by decide) (fun c8_1 => ?_) (fun c8_1 => ?_)
  · have c8_1 : 2147483648 ≤ nu0 (wi * 4 + 0) := (nI_lt0 (a := nu0 (wi * 4 + 0)) (by omega)).mp c8_1
    refine lv_iconst (v := nI 0) hx hb dX0_hasRight_16 (by decide) ?_
    subst hQ
    exact rtz hx hb hr hlocks rfl rfl (by exfalso; omega) dX0_hasRight_17
  · have c8_1 : ¬ (2147483648 ≤ nu0 (wi * 4 + 0)) := fun h9 => c8_1 ((nI_lt0 (a := nu0 (wi * 4 + 0)) (by omega)).mpr h9)
    refine lv_iload_n hx hb dX0_hasRight_11 rfl (lv_at hl 0 rfl) ?_
    refine lv_iconst (v := nI 4) hx hb dX0_hasRight_12 (by decide) ?_
    refine lv_icmp_lt (tgt := 18) hx hb dX0_hasRight_13 (by decide) (fun c13_2 => ?_) (fun c13_2 => ?_)
    · have c13_2 : nu0 (wi * 4 + 0) < 4 := (nI_ltI (a := nu0 (wi * 4 + 0)) (b := 4) (by omega) (by omega)).mp c13_2
      refine lv_aload_n hx hb dX0_hasRight_18 rfl (lv_at hl 2 rfl) ?_
      refine va_get (D := D) (ci := 1) (v := .ref pb0) (C := RX1) (T := TX1) (N := 3) hx hb hU iX1 hown hK hP 4 rfl rfl 1 (by decide) (hU _ mU_397) (fun _ h9 => h9) rfl dX0_hasRight_19 ?_
      refine lv_iload_n hx hb dX0_hasRight_22 rfl (lv_at hl 3 rfl) ?_
      refine n_iald hx hb hK hP 5 3 rfl rfl (i := wi) (by omega) (by decide) dX0_hasRight_23 ?_
      rcases (show so0 wi = 0 ∨ so0 wi = 1 ∨ (¬ (so0 wi = 0) ∧ ¬ (so0 wi = 1)) by omega) with c24_3 | c24_3 | c24_3
      · have hx9 : (nI (so0 wi)).toInt = 0 := by rw [nI_toInt (show so0 wi < 2 ^ 31 by omega)]; omega
        refine lv_lookup (tgt := 52) (off := 28) hx hb dX0_hasRight_24 (by decide) (by rw [hx9]; rfl) (by decide) ?_
        refine lv_aload_n hx hb dX0_hasRight_52 rfl (lv_at hl 1 rfl) ?_
        refine va_get (D := D) (ci := 0) (v := .ref md) (C := RX0) (T := TX0) (N := 4) hx hb hU iX0 hown hK hP 0 rfl rfl 2 (by decide) (hU _ mU_56) (fun _ h9 => h9) rfl dX0_hasRight_53 ?_
        refine lv_iload_n hx hb dX0_hasRight_56 rfl (lv_at hl 0 rfl) ?_
        refine n_iald hx hb hK hP 3 2 rfl rfl (i := nu0 (wi * 4 + 0)) (by omega) (by decide) dX0_hasRight_57 ?_
        have hb_4 := hri  (nu0 (wi * 4 + 0))
        refine lv_iconst (v := nI 2) hx hb dX0_hasRight_58 (by decide) ?_
        refine lv_iand hx hb dX0_hasRight_59 ?_
        have hb_5 : (ri (nu0 (wi * 4 + 0))) &&& 2 ≤ 2 := Nat.and_le_right
        refine lv_topE (nI ((ri (nu0 (wi * 4 + 0))) &&& 2)) (fa_and _ _) ?_
        refine lv_if_eq (tgt := 67) hx hb dX0_hasRight_60 (by decide) (fun c60_6 => ?_) (fun c60_6 => ?_)
        · have c60_6 : (ri (nu0 (wi * 4 + 0))) &&& 2 = 0 := (nI_eqG (a := (ri (nu0 (wi * 4 + 0))) &&& 2) (b := 0) (by omega) (by omega)).mp c60_6
          refine lv_iconst (v := nI 0) hx hb dX0_hasRight_67 (by decide) ?_
          subst hQ
          exact rtz hx hb hr hlocks rfl rfl (bP_0 (by unfold rgtC needM; rw [if_neg (by omega), if_pos c24_3]; exact fun q => q c60_6)) dX0_hasRight_68
        · have c60_6 : ¬ ((ri (nu0 (wi * 4 + 0))) &&& 2 = 0) := fun h9 => c60_6 ((nI_eqG (a := (ri (nu0 (wi * 4 + 0))) &&& 2) (b := 0) (by omega) (by omega)).mpr h9)
          refine lv_iconst (v := nI 1) hx hb dX0_hasRight_63 (by decide) ?_
          refine lv_goto (tgt := 68) hx hb dX0_hasRight_64 (by decide) ?_
          subst hQ
          exact rtz hx hb hr hlocks rfl rfl (bP_1 (by unfold rgtC needM; rw [if_neg (by omega), if_pos c24_3]; exact c60_6)) dX0_hasRight_68
      · have hx9 : (nI (so0 wi)).toInt = 1 := by rw [nI_toInt (show so0 wi < 2 ^ 31 by omega)]; omega
        refine lv_lookup (tgt := 69) (off := 45) hx hb dX0_hasRight_24 (by decide) (by rw [hx9]; rfl) (by decide) ?_
        refine lv_aload_n hx hb dX0_hasRight_69 rfl (lv_at hl 1 rfl) ?_
        refine va_get (D := D) (ci := 0) (v := .ref md) (C := RX0) (T := TX0) (N := 4) hx hb hU iX0 hown hK hP 0 rfl rfl 2 (by decide) (hU _ mU_56) (fun _ h9 => h9) rfl dX0_hasRight_70 ?_
        refine lv_iload_n hx hb dX0_hasRight_73 rfl (lv_at hl 0 rfl) ?_
        refine n_iald hx hb hK hP 3 2 rfl rfl (i := nu0 (wi * 4 + 0)) (by omega) (by decide) dX0_hasRight_74 ?_
        have hb_7 := hri  (nu0 (wi * 4 + 0))
        refine lv_iconst (v := nI 1) hx hb dX0_hasRight_75 (by decide) ?_
        refine lv_iand hx hb dX0_hasRight_76 ?_
        have hb_8 : (ri (nu0 (wi * 4 + 0))) &&& 1 ≤ 1 := Nat.and_le_right
        refine lv_topE (nI ((ri (nu0 (wi * 4 + 0))) &&& 1)) (fa_and _ _) ?_
        refine lv_if_eq (tgt := 84) hx hb dX0_hasRight_77 (by decide) (fun c77_9 => ?_) (fun c77_9 => ?_)
        · have c77_9 : (ri (nu0 (wi * 4 + 0))) &&& 1 = 0 := (nI_eqG (a := (ri (nu0 (wi * 4 + 0))) &&& 1) (b := 0) (by omega) (by omega)).mp c77_9
          refine lv_iconst (v := nI 0) hx hb dX0_hasRight_84 (by decide) ?_
          subst hQ
          exact rtz hx hb hr hlocks rfl rfl (bP_0 (by unfold rgtC needM; rw [if_pos c24_3]; exact fun q => q c77_9)) dX0_hasRight_85
        · have c77_9 : ¬ ((ri (nu0 (wi * 4 + 0))) &&& 1 = 0) := fun h9 => c77_9 ((nI_eqG (a := (ri (nu0 (wi * 4 + 0))) &&& 1) (b := 0) (by omega) (by omega)).mpr h9)
          refine lv_iconst (v := nI 1) hx hb dX0_hasRight_80 (by decide) ?_
          refine lv_goto (tgt := 85) hx hb dX0_hasRight_81 (by decide) ?_
          subst hQ
          exact rtz hx hb hr hlocks rfl rfl (bP_1 (by unfold rgtC needM; rw [if_pos c24_3]; exact c77_9)) dX0_hasRight_85
      · have n24_0 : ¬ (so0 wi = 0) := by omega
        have n24_1 : ¬ (so0 wi = 1) := by omega
        refine lv_lookup (tgt := 86) (off := 62) hx hb dX0_hasRight_24 (by decide) ((lv_osw (k := nI 0) (fun q => n24_0 ((nI_eqG (a := so0 wi) (b := 0) (by omega) (by omega)).mp q)) (by decide)).trans ((lv_osw (k := nI 1) (fun q => n24_1 ((nI_eqG (a := so0 wi) (b := 1) (by omega) (by omega)).mp q)) (by decide)).trans (rfl))) (by decide) ?_
        refine lv_aload_n hx hb dX0_hasRight_86 rfl (lv_at hl 1 rfl) ?_
        refine va_get (D := D) (ci := 0) (v := .ref md) (C := RX0) (T := TX0) (N := 4) hx hb hU iX0 hown hK hP 0 rfl rfl 2 (by decide) (hU _ mU_56) (fun _ h9 => h9) rfl dX0_hasRight_87 ?_
        refine lv_iload_n hx hb dX0_hasRight_90 rfl (lv_at hl 0 rfl) ?_
        refine n_iald hx hb hK hP 3 2 rfl rfl (i := nu0 (wi * 4 + 0)) (by omega) (by decide) dX0_hasRight_91 ?_
        have hb_10 := hri  (nu0 (wi * 4 + 0))
        refine lv_iconst (v := nI 4) hx hb dX0_hasRight_92 (by decide) ?_
        refine lv_iand hx hb dX0_hasRight_93 ?_
        have hb_11 : (ri (nu0 (wi * 4 + 0))) &&& 4 ≤ 4 := Nat.and_le_right
        refine lv_topE (nI ((ri (nu0 (wi * 4 + 0))) &&& 4)) (fa_and _ _) ?_
        refine lv_if_eq (tgt := 101) hx hb dX0_hasRight_94 (by decide) (fun c94_12 => ?_) (fun c94_12 => ?_)
        · have c94_12 : (ri (nu0 (wi * 4 + 0))) &&& 4 = 0 := (nI_eqG (a := (ri (nu0 (wi * 4 + 0))) &&& 4) (b := 0) (by omega) (by omega)).mp c94_12
          refine lv_iconst (v := nI 0) hx hb dX0_hasRight_101 (by decide) ?_
          subst hQ
          exact rtz hx hb hr hlocks rfl rfl (bP_0 (by unfold rgtC needM; rw [if_neg n24_1, if_neg n24_0]; exact fun q => q c94_12)) dX0_hasRight_102
        · have c94_12 : ¬ ((ri (nu0 (wi * 4 + 0))) &&& 4 = 0) := fun h9 => c94_12 ((nI_eqG (a := (ri (nu0 (wi * 4 + 0))) &&& 4) (b := 0) (by omega) (by omega)).mpr h9)
          refine lv_iconst (v := nI 1) hx hb dX0_hasRight_97 (by decide) ?_
          refine lv_goto (tgt := 102) hx hb dX0_hasRight_98 (by decide) ?_
          subst hQ
          exact rtz hx hb hr hlocks rfl rfl (bP_1 (by unfold rgtC needM; rw [if_neg n24_1, if_neg n24_0]; exact c94_12)) dX0_hasRight_102
    · have c13_2 : ¬ (nu0 (wi * 4 + 0) < 4) := fun h9 => c13_2 ((nI_ltI (a := nu0 (wi * 4 + 0)) (b := 4) (by omega) (by omega)).mpr h9)
      refine lv_iconst (v := nI 0) hx hb dX0_hasRight_16 (by decide) ?_
      subst hQ
      exact rtz hx hb hr hlocks rfl rfl (by exfalso; omega) dX0_hasRight_17

set_option maxHeartbeats 4000000 in
set_option maxRecDepth 100000 in
theorem c_X0_hasRight1 (l : Launch) (D : va_G) (ma mb mc md : Nat) (k0 k1 k2 : ClassId) (mf : Nat) (wo ri : Nat → Nat) (pa0 pb0 pc0 : Nat) (kb0 kc0 : ClassId) (n0 : Nat) (so0 nu0 : Nat → Nat) (pa1 pb1 pc1 : Nat) (kb1 kc1 : ClassId) (n1 : Nat) (so1 nu1 : Nat → Nat) (wi : Nat) (hwi : wi < 7) (hna : nu1 (wi * 4 + 0) < 4) (hso : so1 wi < 2147483648) (hri : ∀ j, ri j < 2147483648) : Met l yX0_hasRight (.code yX0_hasRight cX0_hasRight 4 (some .boolean) :: wsL_law) ({ frames := 1, cells := 0, slots := 0, locals := 22 }) (va_Pc [.ref ma, .ref pa1, .int (nI wi)] (PR D (kW ma mb mc md k0 k1 k2 mf wo ri pa0 pb0 pc0 kb0 kc0 n0 so0 nu0 pa1 pb1 pc1 kb1 kc1 n1 so1 nu1) (kT k0 k1 k2 kb0 kc0 kb1 kc1))) (QrI (bP (rgtC ri so1 nu1 wi))) 0 0 (fun _ => False) := by
  refine Met.ofW (cc := cX0_hasRight) (maxL := 4) (ret := (some .boolean)) (by decide) rfl ?_
  intro p e s m args below meth c s₁ B hml hv
  obtain ⟨rfl, hP, hK⟩ := hv
  have hx := B.exec
  have hb := B.bytes
  have hr := B.returns
  have hts := atoms_spec (ws := .code yX0_hasRight cX0_hasRight 4 (some .boolean) :: wsL_law) B.pre
  have hU : ∀ w ∈ wsL_law, w.before _ s = true := fun w h => hts w (List.mem_cons_of_mem _ h)
  have hown : s.vm.findClass RX0 = some m.cls := findClass_of_methodNamed B.named
  have hlocks := B.notSynchronized
  generalize hQ : MQ _ _ _ _ _ _ _ = Q
  have hl := lv_entry ([.ref ma, .ref pa1, .int (nI wi)]) (n := 4) (Nat.le_of_ble_eq_true rfl)
  rw [lg_entry_eq]
  generalize (lg_sl ([.ref ma, .ref pa1, .int (nI wi)]) ++ List.replicate (4 - (lg_sl ([.ref ma, .ref pa1, .int (nI wi)])).length) Slot.unset).toArray = ls at hl ⊢
  have hl : lv_has ls 4 [(0, .ref ma), (1, .ref pa1), (2, .int (nI wi))] := hl
  refine lv_aload_n hx hb dX0_hasRight_0 rfl (lv_at hl 1 rfl) ?_
  refine lv_iload_n hx hb dX0_hasRight_1 rfl (lv_at hl 2 rfl) ?_
  refine lv_iconst (v := nI 0) hx hb dX0_hasRight_2 (by decide) ?_
  have hPc := hP.sub (ws' := [(pa1, .inr (1, [.int (nI n1), .ref pb1, .ref pc1])), (pb1, .inl (kb1, 8, .inl (nA so1))), (pc1, .inl (kc1, 32, .inl (nA nu1)))]) [7, 8, 9] rfl
  have hKc := hK.sub (tys' := [(kb1, .int), (kc1, .int)]) [5, 6] rfl
  refine cVi (As := [.int (nI wi), .int (nI 0)]) (rest := []) ⟨hx, hb, hml, hown, hts⟩ (c_X1_number l D pa1 pb1 pc1 kb1 kc1 n1 so1 nu1 wi 0 (by omega)) (cwV 2 hts (gV mU_416 mU_417 mU_418 mU_22 mU_419) rfl rfl rfl (by decide +kernel) ⟨Nat.le_of_ble_eq_true rfl, Nat.le_of_ble_eq_true rfl⟩) fbR (va_recv hK hP (ci := 1) (q0 := 7) rfl rfl) (PR.of hPc hKc) rfl hl.1 rfl (Nat.le_of_ble_eq_true rfl) dX0_hasRight_3 ⟨Nat.zero_le _, Nat.zero_le _⟩ ?_
  refine lv_istore_n (lv' := [(3, .int (nI (nu1 (wi * 4 + 0)))), (0, .ref ma), (1, .ref pa1), (2, .int (nI wi))]) hx hb dX0_hasRight_6 rfl hl (by decide) rfl (fun ls hl => ?_)
  refine lv_iload_n hx hb dX0_hasRight_7 rfl (lv_at hl 0 rfl) ?_
  refine lv_if_lt (tgt := 16) hx hb dX0_hasRight_8 (by decide) (fun c8_1 => ?_) (fun c8_1 => ?_)
  · have c8_1 : 2147483648 ≤ nu1 (wi * 4 + 0) := (nI_lt0 (a := nu1 (wi * 4 + 0)) (by omega)).mp c8_1
    refine lv_iconst (v := nI 0) hx hb dX0_hasRight_16 (by decide) ?_
    subst hQ
    exact rtz hx hb hr hlocks rfl rfl (by exfalso; omega) dX0_hasRight_17
  · have c8_1 : ¬ (2147483648 ≤ nu1 (wi * 4 + 0)) := fun h9 => c8_1 ((nI_lt0 (a := nu1 (wi * 4 + 0)) (by omega)).mpr h9)
    refine lv_iload_n hx hb dX0_hasRight_11 rfl (lv_at hl 0 rfl) ?_
    refine lv_iconst (v := nI 4) hx hb dX0_hasRight_12 (by decide) ?_
    refine lv_icmp_lt (tgt := 18) hx hb dX0_hasRight_13 (by decide) (fun c13_2 => ?_) (fun c13_2 => ?_)
    · have c13_2 : nu1 (wi * 4 + 0) < 4 := (nI_ltI (a := nu1 (wi * 4 + 0)) (b := 4) (by omega) (by omega)).mp c13_2
      refine lv_aload_n hx hb dX0_hasRight_18 rfl (lv_at hl 2 rfl) ?_
      refine va_get (D := D) (ci := 1) (v := .ref pb1) (C := RX1) (T := TX1) (N := 3) hx hb hU iX1 hown hK hP 7 rfl rfl 1 (by decide) (hU _ mU_397) (fun _ h9 => h9) rfl dX0_hasRight_19 ?_
      refine lv_iload_n hx hb dX0_hasRight_22 rfl (lv_at hl 3 rfl) ?_
      refine n_iald hx hb hK hP 8 5 rfl rfl (i := wi) (by omega) (by decide) dX0_hasRight_23 ?_
      rcases (show so1 wi = 0 ∨ so1 wi = 1 ∨ (¬ (so1 wi = 0) ∧ ¬ (so1 wi = 1)) by omega) with c24_3 | c24_3 | c24_3
      · have hx9 : (nI (so1 wi)).toInt = 0 := by rw [nI_toInt (show so1 wi < 2 ^ 31 by omega)]; omega
        refine lv_lookup (tgt := 52) (off := 28) hx hb dX0_hasRight_24 (by decide) (by rw [hx9]; rfl) (by decide) ?_
        refine lv_aload_n hx hb dX0_hasRight_52 rfl (lv_at hl 1 rfl) ?_
        refine va_get (D := D) (ci := 0) (v := .ref md) (C := RX0) (T := TX0) (N := 4) hx hb hU iX0 hown hK hP 0 rfl rfl 2 (by decide) (hU _ mU_56) (fun _ h9 => h9) rfl dX0_hasRight_53 ?_
        refine lv_iload_n hx hb dX0_hasRight_56 rfl (lv_at hl 0 rfl) ?_
        refine n_iald hx hb hK hP 3 2 rfl rfl (i := nu1 (wi * 4 + 0)) (by omega) (by decide) dX0_hasRight_57 ?_
        have hb_4 := hri  (nu1 (wi * 4 + 0))
        refine lv_iconst (v := nI 2) hx hb dX0_hasRight_58 (by decide) ?_
        refine lv_iand hx hb dX0_hasRight_59 ?_
        have hb_5 : (ri (nu1 (wi * 4 + 0))) &&& 2 ≤ 2 := Nat.and_le_right
        refine lv_topE (nI ((ri (nu1 (wi * 4 + 0))) &&& 2)) (fa_and _ _) ?_
        refine lv_if_eq (tgt := 67) hx hb dX0_hasRight_60 (by decide) (fun c60_6 => ?_) (fun c60_6 => ?_)
        · have c60_6 : (ri (nu1 (wi * 4 + 0))) &&& 2 = 0 := (nI_eqG (a := (ri (nu1 (wi * 4 + 0))) &&& 2) (b := 0) (by omega) (by omega)).mp c60_6
          refine lv_iconst (v := nI 0) hx hb dX0_hasRight_67 (by decide) ?_
          subst hQ
          exact rtz hx hb hr hlocks rfl rfl (bP_0 (by unfold rgtC needM; rw [if_neg (by omega), if_pos c24_3]; exact fun q => q c60_6)) dX0_hasRight_68
        · have c60_6 : ¬ ((ri (nu1 (wi * 4 + 0))) &&& 2 = 0) := fun h9 => c60_6 ((nI_eqG (a := (ri (nu1 (wi * 4 + 0))) &&& 2) (b := 0) (by omega) (by omega)).mpr h9)
          refine lv_iconst (v := nI 1) hx hb dX0_hasRight_63 (by decide) ?_
          refine lv_goto (tgt := 68) hx hb dX0_hasRight_64 (by decide) ?_
          subst hQ
          exact rtz hx hb hr hlocks rfl rfl (bP_1 (by unfold rgtC needM; rw [if_neg (by omega), if_pos c24_3]; exact c60_6)) dX0_hasRight_68
      · have hx9 : (nI (so1 wi)).toInt = 1 := by rw [nI_toInt (show so1 wi < 2 ^ 31 by omega)]; omega
        refine lv_lookup (tgt := 69) (off := 45) hx hb dX0_hasRight_24 (by decide) (by rw [hx9]; rfl) (by decide) ?_
        refine lv_aload_n hx hb dX0_hasRight_69 rfl (lv_at hl 1 rfl) ?_
        refine va_get (D := D) (ci := 0) (v := .ref md) (C := RX0) (T := TX0) (N := 4) hx hb hU iX0 hown hK hP 0 rfl rfl 2 (by decide) (hU _ mU_56) (fun _ h9 => h9) rfl dX0_hasRight_70 ?_
        refine lv_iload_n hx hb dX0_hasRight_73 rfl (lv_at hl 0 rfl) ?_
        refine n_iald hx hb hK hP 3 2 rfl rfl (i := nu1 (wi * 4 + 0)) (by omega) (by decide) dX0_hasRight_74 ?_
        have hb_7 := hri  (nu1 (wi * 4 + 0))
        refine lv_iconst (v := nI 1) hx hb dX0_hasRight_75 (by decide) ?_
        refine lv_iand hx hb dX0_hasRight_76 ?_
        have hb_8 : (ri (nu1 (wi * 4 + 0))) &&& 1 ≤ 1 := Nat.and_le_right
        refine lv_topE (nI ((ri (nu1 (wi * 4 + 0))) &&& 1)) (fa_and _ _) ?_
        refine lv_if_eq (tgt := 84) hx hb dX0_hasRight_77 (by decide) (fun c77_9 => ?_) (fun c77_9 => ?_)
        · have c77_9 : (ri (nu1 (wi * 4 + 0))) &&& 1 = 0 := (nI_eqG (a := (ri (nu1 (wi * 4 + 0))) &&& 1) (b := 0) (by omega) (by omega)).mp c77_9
          refine lv_iconst (v := nI 0) hx hb dX0_hasRight_84 (by decide) ?_
          subst hQ
          exact rtz hx hb hr hlocks rfl rfl (bP_0 (by unfold rgtC needM; rw [if_pos c24_3]; exact fun q => q c77_9)) dX0_hasRight_85
        · have c77_9 : ¬ ((ri (nu1 (wi * 4 + 0))) &&& 1 = 0) := fun h9 => c77_9 ((nI_eqG (a := (ri (nu1 (wi * 4 + 0))) &&& 1) (b := 0) (by omega) (by omega)).mpr h9)
          refine lv_iconst (v := nI 1) hx hb dX0_hasRight_80 (by decide) ?_
          refine lv_goto (tgt := 85) hx hb dX0_hasRight_81 (by decide) ?_
          subst hQ
          exact rtz hx hb hr hlocks rfl rfl (bP_1 (by unfold rgtC needM; rw [if_pos c24_3]; exact c77_9)) dX0_hasRight_85
      · have n24_0 : ¬ (so1 wi = 0) := by omega
        have n24_1 : ¬ (so1 wi = 1) := by omega
        refine lv_lookup (tgt := 86) (off := 62) hx hb dX0_hasRight_24 (by decide) ((lv_osw (k := nI 0) (fun q => n24_0 ((nI_eqG (a := so1 wi) (b := 0) (by omega) (by omega)).mp q)) (by decide)).trans ((lv_osw (k := nI 1) (fun q => n24_1 ((nI_eqG (a := so1 wi) (b := 1) (by omega) (by omega)).mp q)) (by decide)).trans (rfl))) (by decide) ?_
        refine lv_aload_n hx hb dX0_hasRight_86 rfl (lv_at hl 1 rfl) ?_
        refine va_get (D := D) (ci := 0) (v := .ref md) (C := RX0) (T := TX0) (N := 4) hx hb hU iX0 hown hK hP 0 rfl rfl 2 (by decide) (hU _ mU_56) (fun _ h9 => h9) rfl dX0_hasRight_87 ?_
        refine lv_iload_n hx hb dX0_hasRight_90 rfl (lv_at hl 0 rfl) ?_
        refine n_iald hx hb hK hP 3 2 rfl rfl (i := nu1 (wi * 4 + 0)) (by omega) (by decide) dX0_hasRight_91 ?_
        have hb_10 := hri  (nu1 (wi * 4 + 0))
        refine lv_iconst (v := nI 4) hx hb dX0_hasRight_92 (by decide) ?_
        refine lv_iand hx hb dX0_hasRight_93 ?_
        have hb_11 : (ri (nu1 (wi * 4 + 0))) &&& 4 ≤ 4 := Nat.and_le_right
        refine lv_topE (nI ((ri (nu1 (wi * 4 + 0))) &&& 4)) (fa_and _ _) ?_
        refine lv_if_eq (tgt := 101) hx hb dX0_hasRight_94 (by decide) (fun c94_12 => ?_) (fun c94_12 => ?_)
        · have c94_12 : (ri (nu1 (wi * 4 + 0))) &&& 4 = 0 := (nI_eqG (a := (ri (nu1 (wi * 4 + 0))) &&& 4) (b := 0) (by omega) (by omega)).mp c94_12
          refine lv_iconst (v := nI 0) hx hb dX0_hasRight_101 (by decide) ?_
          subst hQ
          exact rtz hx hb hr hlocks rfl rfl (bP_0 (by unfold rgtC needM; rw [if_neg n24_1, if_neg n24_0]; exact fun q => q c94_12)) dX0_hasRight_102
        · have c94_12 : ¬ ((ri (nu1 (wi * 4 + 0))) &&& 4 = 0) := fun h9 => c94_12 ((nI_eqG (a := (ri (nu1 (wi * 4 + 0))) &&& 4) (b := 0) (by omega) (by omega)).mpr h9)
          refine lv_iconst (v := nI 1) hx hb dX0_hasRight_97 (by decide) ?_
          refine lv_goto (tgt := 102) hx hb dX0_hasRight_98 (by decide) ?_
          subst hQ
          exact rtz hx hb hr hlocks rfl rfl (bP_1 (by unfold rgtC needM; rw [if_neg n24_1, if_neg n24_0]; exact c94_12)) dX0_hasRight_102
    · have c13_2 : ¬ (nu1 (wi * 4 + 0) < 4) := fun h9 => c13_2 ((nI_ltI (a := nu1 (wi * 4 + 0)) (b := 4) (by omega) (by omega)).mpr h9)
      refine lv_iconst (v := nI 0) hx hb dX0_hasRight_16 (by decide) ?_
      subst hQ
      exact rtz hx hb hr hlocks rfl rfl (by exfalso; omega) dX0_hasRight_17

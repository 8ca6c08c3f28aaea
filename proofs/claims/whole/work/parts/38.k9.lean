/-- what step k makes of a state of the class -/
def afterC (so0 nu0 : Nat → Nat) (n0 : Nat) (so1 nu1 : Nat → Nat) (n1 : Nat) (ri : Nat → Nat) (mf x k : Nat) : Option Nat :=
  if k = 0 then stmtC so0 nu0 n0 x 0 else if k = 1 then stmtC so1 nu1 n1 x 1 else if k < 5 then wishC so0 nu0 ri x 0 (k - 2) else if k < 8 then wishC so1 nu1 ri x 1 (k - 5)
  else if mf = 0 then none else if bitsN x 42 2 = 0 then some (x ||| 1 * 2 ^ (34 + k)) else none
set_option maxHeartbeats 4000000 in
set_option maxRecDepth 100000 in
theorem c_X0_after (l : Launch) (D : va_G) (ma mb mc md : Nat) (k0 k1 k2 : ClassId) (mf : Nat) (wo ri : Nat → Nat) (pa0 pb0 pc0 : Nat) (kb0 kc0 : ClassId) (n0 : Nat) (so0 nu0 : Nat → Nat) (pa1 pb1 pc1 : Nat) (kb1 kc1 : ClassId) (n1 : Nat) (so1 nu1 : Nat → Nat) (sx : Nat) (k : Nat) (hsx : sx < 2 ^ 44) (hk : k < 10) (hmf : mf < 2) (hn0 : n0 ≤ 7) (hn1 : n1 ≤ 7) (hso0 : ∀ j, so0 j < 2147483648) (hso1 : ∀ j, so1 j < 2147483648) (hri : ∀ j, ri j < 2147483648) (hok0 : ∀ i, i < n0 → okS (so0 i) (nu0 (i * 4 + 0)) (nu0 (i * 4 + 1)) (nu0 (i * 4 + 2)) (nu0 (i * 4 + 3))) (hok1 : ∀ i, i < n1 → okS (so1 i) (nu1 (i * 4 + 0)) (nu1 (i * 4 + 1)) (nu1 (i * 4 + 2)) (nu1 (i * 4 + 3))) (hqv0 : ∀ k, k < 3 → ¬ wishA (bitsN sx 22 9) k = 4294967295 → wishA (bitsN sx 22 9) k < n0 ∧ so0 (wishA (bitsN sx 22 9) k) < 4) (hqv1 : ∀ k, k < 3 → ¬ wishA (bitsN sx 31 9) k = 4294967295 → wishA (bitsN sx 31 9) k < n1 ∧ so1 (wishA (bitsN sx 31 9) k) < 4) : Met l yX0_after (.code yX0_after cX0_after 5 (some .long) :: wsL_law) ({ frames := 4, cells := 0, slots := 0, locals := 97 }) (va_Pc [.ref ma, .long (lN sx), .int (nI k)] (PR D (kW ma mb mc md k0 k1 k2 mf wo ri pa0 pb0 pc0 kb0 kc0 n0 so0 nu0 pa1 pb1 pc1 kb1 kc1 n1 so1 nu1) (kT k0 k1 k2 kb0 kc0 kb1 kc1))) (QrL (eO (afterC so0 nu0 n0 so1 nu1 n1 ri mf sx k))) 0 0 (fun _ => False) := by
  refine Met.ofW (cc := cX0_after) (maxL := 5) (ret := (some .long)) (by decide) rfl ?_
  intro p e s m args below meth c s₁ B hml hv
  obtain ⟨rfl, hP, hK⟩ := hv
  have hx := B.exec
  have hb := B.bytes
  have hr := B.returns
  have hts := atoms_spec (ws := .code yX0_after cX0_after 5 (some .long) :: wsL_law) B.pre
  have hU : ∀ w ∈ wsL_law, w.before _ s = true := fun w h => hts w (List.mem_cons_of_mem _ h)
  have hown : s.vm.findClass RX0 = some m.cls := findClass_of_methodNamed B.named
  have hlocks := B.notSynchronized
  generalize hQ : MQ _ _ _ _ _ _ _ = Q
  have hl := lv_entry ([.ref ma, .long (lN sx), .int (nI k)]) (n := 5) (Nat.le_of_ble_eq_true rfl)
  rw [lg_entry_eq]
  generalize (lg_sl ([.ref ma, .long (lN sx), .int (nI k)]) ++ List.replicate (5 - (lg_sl ([.ref ma, .long (lN sx), .int (nI k)])).length) Slot.unset).toArray = ls at hl ⊢
  have hl : lv_has ls 5 [(0, .ref ma), (1, .long (lN sx)), (3, .int (nI k))] := hl
  rcases (show k = 0 ∨ k = 1 ∨ k = 2 ∨ k = 3 ∨ k = 4 ∨ k = 5 ∨ k = 6 ∨ k = 7 ∨ k = 8 ∨ k = 9 from by omega) with rfl | rfl | rfl | rfl | rfl | rfl | rfl | rfl | rfl | rfl
  · have hl : lv_has ls 5 [(0, .ref ma), (1, .long (lN sx)), (3, .int (nI 0))] := hl
    refine lv_iload_n hx hb dX0_after_0 rfl (lv_at hl 2 rfl) ?_
    refine lv_iconst (v := nI 2) hx hb dX0_after_1 (by decide) ?_
    refine lv_icmp_ge (tgt := 12) hx hb dX0_after_2 (by decide) (fun c2_1 => by first | exact absurd c2_1 (by decide) | exact absurd (by decide) c2_1) (fun c2_1 => ?_)
    refine lv_aload_n hx hb dX0_after_5 rfl (lv_at hl 0 rfl) ?_
    refine lv_lload_n hx hb dX0_after_6 rfl (lv_at hl 1 rfl) ?_
    refine lv_iload_n hx hb dX0_after_7 rfl (lv_at hl 2 rfl) ?_
    refine cVl (As := [.long (lN sx), .int (nI 0)]) (rest := []) ⟨hx, hb, hml, hown, hts⟩ (c_X0_afterStatement0 l D ma mb mc md k0 k1 k2 mf wo ri pa0 pb0 pc0 kb0 kc0 n0 so0 nu0 pa1 pb1 pc1 kb1 kc1 n1 so1 nu1 sx (by omega) (hn0) (hso0) (hok0)) (cwV 2 hts (gV mU_392 mU_393 mU_394 mU_27 mU_395) rfl rfl rfl (by decide +kernel) ⟨Nat.le_of_ble_eq_true rfl, Nat.le_of_ble_eq_true rfl⟩) fbR (va_recv hK hP (ci := 0) (q0 := 0) rfl rfl) (PR.of hP hK) rfl hl.1 rfl (Nat.le_of_ble_eq_true rfl) dX0_after_8 ⟨Nat.zero_le _, Nat.zero_le _⟩ ?_
    subst hQ
    exact rtl hx hb hr hlocks rfl (by first | (unfold afterC; (try rfl); done) | (exfalso; omega)) dX0_after_11
  · have hl : lv_has ls 5 [(0, .ref ma), (1, .long (lN sx)), (3, .int (nI 1))] := hl
    refine lv_iload_n hx hb dX0_after_0 rfl (lv_at hl 2 rfl) ?_
    refine lv_iconst (v := nI 2) hx hb dX0_after_1 (by decide) ?_
    refine lv_icmp_ge (tgt := 12) hx hb dX0_after_2 (by decide) (fun c2_2 => by first | exact absurd c2_2 (by decide) | exact absurd (by decide) c2_2) (fun c2_2 => ?_)
    refine lv_aload_n hx hb dX0_after_5 rfl (lv_at hl 0 rfl) ?_
    refine lv_lload_n hx hb dX0_after_6 rfl (lv_at hl 1 rfl) ?_
    refine lv_iload_n hx hb dX0_after_7 rfl (lv_at hl 2 rfl) ?_
    refine cVl (As := [.long (lN sx), .int (nI 1)]) (rest := []) ⟨hx, hb, hml, hown, hts⟩ (c_X0_afterStatement1 l D ma mb mc md k0 k1 k2 mf wo ri pa0 pb0 pc0 kb0 kc0 n0 so0 nu0 pa1 pb1 pc1 kb1 kc1 n1 so1 nu1 sx (by omega) (hn1) (hso1) (hok1)) (cwV 2 hts (gV mU_392 mU_393 mU_394 mU_27 mU_395) rfl rfl rfl (by decide +kernel) ⟨Nat.le_of_ble_eq_true rfl, Nat.le_of_ble_eq_true rfl⟩) fbR (va_recv hK hP (ci := 0) (q0 := 0) rfl rfl) (PR.of hP hK) rfl hl.1 rfl (Nat.le_of_ble_eq_true rfl) dX0_after_8 ⟨Nat.zero_le _, Nat.zero_le _⟩ ?_
    subst hQ
    exact rtl hx hb hr hlocks rfl (by first | (unfold afterC; (try rfl); done) | (exfalso; omega)) dX0_after_11
  · have hl : lv_has ls 5 [(0, .ref ma), (1, .long (lN sx)), (3, .int (nI 2))] := hl
    refine lv_iload_n hx hb dX0_after_0 rfl (lv_at hl 2 rfl) ?_
    refine lv_iconst (v := nI 2) hx hb dX0_after_1 (by decide) ?_
    refine lv_icmp_ge (tgt := 12) hx hb dX0_after_2 (by decide) (fun c2_3 => ?_) (fun c2_3 => by first | exact absurd (by decide) c2_3 | exact absurd c2_3 (by decide))
    refine lv_iload_n hx hb dX0_after_12 rfl (lv_at hl 2 rfl) ?_
    refine lv_bipush (v := nI 8) hx hb dX0_after_13 (by decide) ?_
    refine lv_icmp_ge (tgt := 46) hx hb dX0_after_15 (by decide) (fun c15_4 => by first | exact absurd c15_4 (by decide) | exact absurd (by decide) c15_4) (fun c15_4 => ?_)
    refine lv_iload_n hx hb dX0_after_18 rfl (lv_at hl 2 rfl) ?_
    refine lv_iconst (v := nI 5) hx hb dX0_after_19 (by decide) ?_
    refine lv_icmp_ge (tgt := 27) hx hb dX0_after_20 (by decide) (fun c20_5 => by first | exact absurd c20_5 (by decide) | exact absurd (by decide) c20_5) (fun c20_5 => ?_)
    refine lv_iconst (v := nI 0) hx hb dX0_after_23 (by decide) ?_
    refine lv_goto (tgt := 28) hx hb dX0_after_24 (by decide) ?_
    refine lv_istore (lv' := [(4, .int (nI 0)), (0, .ref ma), (1, .long (lN sx)), (3, .int (nI 2))]) hx hb dX0_after_28 hl (by decide) rfl (fun ls hl => ?_)
    refine lv_aload_n hx hb dX0_after_30 rfl (lv_at hl 1 rfl) ?_
    refine lv_lload_n hx hb dX0_after_31 rfl (lv_at hl 2 rfl) ?_
    refine lv_iload hx hb dX0_after_32 (lv_at hl 0 rfl) ?_
    refine lv_iload_n hx hb dX0_after_34 rfl (lv_at hl 3 rfl) ?_
    refine lv_iconst (v := nI 2) hx hb dX0_after_35 (by decide) ?_
    refine lv_isub hx hb dX0_after_36 ?_
    refine lv_topE (nI 0) (pk_sub (by omega)) ?_
    refine lv_iload hx hb dX0_after_37 (lv_at hl 0 rfl) ?_
    refine lv_iconst (v := nI 3) hx hb dX0_after_39 (by decide) ?_
    refine lv_imul hx hb dX0_after_40 ?_
    refine lv_topE (nI 0) (pk_mul _ _) ?_
    refine lv_isub hx hb dX0_after_41 ?_
    refine lv_topE (nI 0) (pk_sub (by omega)) ?_
    refine cVl (As := [.long (lN sx), .int (nI 0), .int (nI 0)]) (rest := []) ⟨hx, hb, hml, hown, hts⟩ (c_X0_afterWish0 l D ma mb mc md k0 k1 k2 mf wo ri pa0 pb0 pc0 kb0 kc0 n0 so0 nu0 pa1 pb1 pc1 kb1 kc1 n1 so1 nu1 sx 0 (by omega) (by omega) (hn0) (hso0) (hri) (hok0) (hqv0)) (cwV 3 hts (gV mU_435 mU_436 mU_437 mU_27 mU_438) rfl rfl rfl (by decide +kernel) ⟨Nat.le_of_ble_eq_true rfl, Nat.le_of_ble_eq_true rfl⟩) fbR (va_recv hK hP (ci := 0) (q0 := 0) rfl rfl) (PR.of hP hK) rfl hl.1 rfl (Nat.le_of_ble_eq_true rfl) dX0_after_42 ⟨Nat.zero_le _, Nat.zero_le _⟩ ?_
    subst hQ
    exact rtl hx hb hr hlocks rfl (by first | (unfold afterC; (try rfl); done) | (exfalso; omega)) dX0_after_45
  · have hl : lv_has ls 5 [(0, .ref ma), (1, .long (lN sx)), (3, .int (nI 3))] := hl
    refine lv_iload_n hx hb dX0_after_0 rfl (lv_at hl 2 rfl) ?_
    refine lv_iconst (v := nI 2) hx hb dX0_after_1 (by decide) ?_
    refine lv_icmp_ge (tgt := 12) hx hb dX0_after_2 (by decide) (fun c2_6 => ?_) (fun c2_6 => by first | exact absurd (by decide) c2_6 | exact absurd c2_6 (by decide))
    refine lv_iload_n hx hb dX0_after_12 rfl (lv_at hl 2 rfl) ?_
    refine lv_bipush (v := nI 8) hx hb dX0_after_13 (by decide) ?_
    refine lv_icmp_ge (tgt := 46) hx hb dX0_after_15 (by decide) (fun c15_7 => by first | exact absurd c15_7 (by decide) | exact absurd (by decide) c15_7) (fun c15_7 => ?_)
    refine lv_iload_n hx hb dX0_after_18 rfl (lv_at hl 2 rfl) ?_
    refine lv_iconst (v := nI 5) hx hb dX0_after_19 (by decide) ?_
    refine lv_icmp_ge (tgt := 27) hx hb dX0_after_20 (by decide) (fun c20_8 => by first | exact absurd c20_8 (by decide) | exact absurd (by decide) c20_8) (fun c20_8 => ?_)
    refine lv_iconst (v := nI 0) hx hb dX0_after_23 (by decide) ?_
    refine lv_goto (tgt := 28) hx hb dX0_after_24 (by decide) ?_
    refine lv_istore (lv' := [(4, .int (nI 0)), (0, .ref ma), (1, .long (lN sx)), (3, .int (nI 3))]) hx hb dX0_after_28 hl (by decide) rfl (fun ls hl => ?_)
    refine lv_aload_n hx hb dX0_after_30 rfl (lv_at hl 1 rfl) ?_
    refine lv_lload_n hx hb dX0_after_31 rfl (lv_at hl 2 rfl) ?_
    refine lv_iload hx hb dX0_after_32 (lv_at hl 0 rfl) ?_
    refine lv_iload_n hx hb dX0_after_34 rfl (lv_at hl 3 rfl) ?_
    refine lv_iconst (v := nI 2) hx hb dX0_after_35 (by decide) ?_
    refine lv_isub hx hb dX0_after_36 ?_
    refine lv_topE (nI 1) (pk_sub (by omega)) ?_
    refine lv_iload hx hb dX0_after_37 (lv_at hl 0 rfl) ?_
    refine lv_iconst (v := nI 3) hx hb dX0_after_39 (by decide) ?_
    refine lv_imul hx hb dX0_after_40 ?_
    refine lv_topE (nI 0) (pk_mul _ _) ?_
    refine lv_isub hx hb dX0_after_41 ?_
    refine lv_topE (nI 1) (pk_sub (by omega)) ?_
    refine cVl (As := [.long (lN sx), .int (nI 0), .int (nI 1)]) (rest := []) ⟨hx, hb, hml, hown, hts⟩ (c_X0_afterWish0 l D ma mb mc md k0 k1 k2 mf wo ri pa0 pb0 pc0 kb0 kc0 n0 so0 nu0 pa1 pb1 pc1 kb1 kc1 n1 so1 nu1 sx 1 (by omega) (by omega) (hn0) (hso0) (hri) (hok0) (hqv0)) (cwV 3 hts (gV mU_435 mU_436 mU_437 mU_27 mU_438) rfl rfl rfl (by decide +kernel) ⟨Nat.le_of_ble_eq_true rfl, Nat.le_of_ble_eq_true rfl⟩) fbR (va_recv hK hP (ci := 0) (q0 := 0) rfl rfl) (PR.of hP hK) rfl hl.1 rfl (Nat.le_of_ble_eq_true rfl) dX0_after_42 ⟨Nat.zero_le _, Nat.zero_le _⟩ ?_
    subst hQ
    exact rtl hx hb hr hlocks rfl (by first | (unfold afterC; (try rfl); done) | (exfalso; omega)) dX0_after_45
  · have hl : lv_has ls 5 [(0, .ref ma), (1, .long (lN sx)), (3, .int (nI 4))] := hl
    refine lv_iload_n hx hb dX0_after_0 rfl (lv_at hl 2 rfl) ?_
    refine lv_iconst (v := nI 2) hx hb dX0_after_1 (by decide) ?_
    refine lv_icmp_ge (tgt := 12) hx hb dX0_after_2 (by decide) (fun c2_9 => ?_) (fun c2_9 => by first | exact absurd (by decide) c2_9 | exact absurd c2_9 (by decide))
    refine lv_iload_n hx hb dX0_after_12 rfl (lv_at hl 2 rfl) ?_
    refine lv_bipush (v := nI 8) hx hb dX0_after_13 (by decide) ?_
    refine lv_icmp_ge (tgt := 46) hx hb dX0_after_15 (by decide) (fun c15_10 => by first | exact absurd c15_10 (by decide) | exact absurd (by decide) c15_10) (fun c15_10 => ?_)
    refine lv_iload_n hx hb dX0_after_18 rfl (lv_at hl 2 rfl) ?_
    refine lv_iconst (v := nI 5) hx hb dX0_after_19 (by decide) ?_
    refine lv_icmp_ge (tgt := 27) hx hb dX0_after_20 (by decide) (fun c20_11 => by first | exact absurd c20_11 (by decide) | exact absurd (by decide) c20_11) (fun c20_11 => ?_)
    refine lv_iconst (v := nI 0) hx hb dX0_after_23 (by decide) ?_
    refine lv_goto (tgt := 28) hx hb dX0_after_24 (by decide) ?_
    refine lv_istore (lv' := [(4, .int (nI 0)), (0, .ref ma), (1, .long (lN sx)), (3, .int (nI 4))]) hx hb dX0_after_28 hl (by decide) rfl (fun ls hl => ?_)
    refine lv_aload_n hx hb dX0_after_30 rfl (lv_at hl 1 rfl) ?_
    refine lv_lload_n hx hb dX0_after_31 rfl (lv_at hl 2 rfl) ?_
    refine lv_iload hx hb dX0_after_32 (lv_at hl 0 rfl) ?_
    refine lv_iload_n hx hb dX0_after_34 rfl (lv_at hl 3 rfl) ?_
    refine lv_iconst (v := nI 2) hx hb dX0_after_35 (by decide) ?_
    refine lv_isub hx hb dX0_after_36 ?_
    refine lv_topE (nI 2) (pk_sub (by omega)) ?_
    refine lv_iload hx hb dX0_after_37 (lv_at hl 0 rfl) ?_
    refine lv_iconst (v := nI 3) hx hb dX0_after_39 (by decide) ?_
    refine lv_imul hx hb dX0_after_40 ?_
    refine lv_topE (nI 0) (pk_mul _ _) ?_
    refine lv_isub hx hb dX0_after_41 ?_
    refine lv_topE (nI 2) (pk_sub (by omega)) ?_
    refine cVl (As := [.long (lN sx), .int (nI 0), .int (nI 2)]) (rest := []) ⟨hx, hb, hml, hown, hts⟩ (c_X0_afterWish0 l D ma mb mc md k0 k1 k2 mf wo ri pa0 pb0 pc0 kb0 kc0 n0 so0 nu0 pa1 pb1 pc1 kb1 kc1 n1 so1 nu1 sx 2 (by omega) (by omega) (hn0) (hso0) (hri) (hok0) (hqv0)) (cwV 3 hts (gV mU_435 mU_436 mU_437 mU_27 mU_438) rfl rfl rfl (by decide +kernel) ⟨Nat.le_of_ble_eq_true rfl, Nat.le_of_ble_eq_true rfl⟩) fbR (va_recv hK hP (ci := 0) (q0 := 0) rfl rfl) (PR.of hP hK) rfl hl.1 rfl (Nat.le_of_ble_eq_true rfl) dX0_after_42 ⟨Nat.zero_le _, Nat.zero_le _⟩ ?_
    subst hQ
    exact rtl hx hb hr hlocks rfl (by first | (unfold afterC; (try rfl); done) | (exfalso; omega)) dX0_after_45
  · have hl : lv_has ls 5 [(0, .ref ma), (1, .long (lN sx)), (3, .int (nI 5))] := hl
    refine lv_iload_n hx hb dX0_after_0 rfl (lv_at hl 2 rfl) ?_
    refine lv_iconst (v := nI 2) hx hb dX0_after_1 (by decide) ?_
    refine lv_icmp_ge (tgt := 12) hx hb dX0_after_2 (by decide) (fun c2_12 => ?_) (fun c2_12 => by first | exact absurd (by decide) c2_12 | exact absurd c2_12 (by decide))
    refine lv_iload_n hx hb dX0_after_12 rfl (lv_at hl 2 rfl) ?_
    refine lv_bipush (v := nI 8) hx hb dX0_after_13 (by decide) ?_
    refine lv_icmp_ge (tgt := 46) hx hb dX0_after_15 (by decide) (fun c15_13 => by first | exact absurd c15_13 (by decide) | exact absurd (by decide) c15_13) (fun c15_13 => ?_)
    refine lv_iload_n hx hb dX0_after_18 rfl (lv_at hl 2 rfl) ?_
    refine lv_iconst (v := nI 5) hx hb dX0_after_19 (by decide) ?_
    refine lv_icmp_ge (tgt := 27) hx hb dX0_after_20 (by decide) (fun c20_14 => ?_) (fun c20_14 => by first | exact absurd (by decide) c20_14 | exact absurd c20_14 (by decide))
    refine lv_iconst (v := nI 1) hx hb dX0_after_27 (by decide) ?_
    refine lv_istore (lv' := [(4, .int (nI 1)), (0, .ref ma), (1, .long (lN sx)), (3, .int (nI 5))]) hx hb dX0_after_28 hl (by decide) rfl (fun ls hl => ?_)
    refine lv_aload_n hx hb dX0_after_30 rfl (lv_at hl 1 rfl) ?_
    refine lv_lload_n hx hb dX0_after_31 rfl (lv_at hl 2 rfl) ?_
    refine lv_iload hx hb dX0_after_32 (lv_at hl 0 rfl) ?_
    refine lv_iload_n hx hb dX0_after_34 rfl (lv_at hl 3 rfl) ?_
    refine lv_iconst (v := nI 2) hx hb dX0_after_35 (by decide) ?_
    refine lv_isub hx hb dX0_after_36 ?_
    refine lv_topE (nI 3) (pk_sub (by omega)) ?_
    refine lv_iload hx hb dX0_after_37 (lv_at hl 0 rfl) ?_
    refine lv_iconst (v := nI 3) hx hb dX0_after_39 (by decide) ?_
    refine lv_imul hx hb dX0_after_40 ?_
    refine lv_topE (nI 3) (pk_mul _ _) ?_
    refine lv_isub hx hb dX0_after_41 ?_
    refine lv_topE (nI 0) (pk_sub (by omega)) ?_
    refine cVl (As := [.long (lN sx), .int (nI 1), .int (nI 0)]) (rest := []) ⟨hx, hb, hml, hown, hts⟩ (c_X0_afterWish1 l D ma mb mc md k0 k1 k2 mf wo ri pa0 pb0 pc0 kb0 kc0 n0 so0 nu0 pa1 pb1 pc1 kb1 kc1 n1 so1 nu1 sx 0 (by omega) (by omega) (hn1) (hso1) (hri) (hok1) (hqv1)) (cwV 3 hts (gV mU_435 mU_436 mU_437 mU_27 mU_438) rfl rfl rfl (by decide +kernel) ⟨Nat.le_of_ble_eq_true rfl, Nat.le_of_ble_eq_true rfl⟩) fbR (va_recv hK hP (ci := 0) (q0 := 0) rfl rfl) (PR.of hP hK) rfl hl.1 rfl (Nat.le_of_ble_eq_true rfl) dX0_after_42 ⟨Nat.zero_le _, Nat.zero_le _⟩ ?_
    subst hQ
    exact rtl hx hb hr hlocks rfl (by first | (unfold afterC; (try rfl); done) | (exfalso; omega)) dX0_after_45
  · have hl : lv_has ls 5 [(0, .ref ma), (1, .long (lN sx)), (3, .int (nI 6))] := hl
    refine lv_iload_n hx hb dX0_after_0 rfl (lv_at hl 2 rfl) ?_
    refine lv_iconst (v := nI 2) hx hb dX0_after_1 (by decide) ?_
    refine lv_icmp_ge (tgt := 12) hx hb dX0_after_2 (by decide) (fun c2_15 => ?_) (fun c2_15 => by first | exact absurd (by decide) c2_15 | exact absurd c2_15 (by decide))
    refine lv_iload_n hx hb dX0_after_12 rfl (lv_at hl 2 rfl) ?_
    refine lv_bipush (v := nI 8) hx hb dX0_after_13 (by decide) ?_
    refine lv_icmp_ge (tgt := 46) hx hb dX0_after_15 (by decide) (fun c15_16 => by first | exact absurd c15_16 (by decide) | exact absurd (by decide) c15_16) (fun c15_16 => ?_)
    refine lv_iload_n hx hb dX0_after_18 rfl (lv_at hl 2 rfl) ?_
    refine lv_iconst (v := nI 5) hx hb dX0_after_19 (by decide) ?_
    refine lv_icmp_ge (tgt := 27) hx hb dX0_after_20 (by decide) (fun c20_17 => ?_) (fun c20_17 => by first | exact absurd (by decide) c20_17 | exact absurd c20_17 (by decide))
    refine lv_iconst (v := nI 1) hx hb dX0_after_27 (by decide) ?_
    refine lv_istore (lv' := [(4, .int (nI 1)), (0, .ref ma), (1, .long (lN sx)), (3, .int (nI 6))]) hx hb dX0_after_28 hl (by decide) rfl (fun ls hl => ?_)
    refine lv_aload_n hx hb dX0_after_30 rfl (lv_at hl 1 rfl) ?_
    refine lv_lload_n hx hb dX0_after_31 rfl (lv_at hl 2 rfl) ?_
    refine lv_iload hx hb dX0_after_32 (lv_at hl 0 rfl) ?_
    refine lv_iload_n hx hb dX0_after_34 rfl (lv_at hl 3 rfl) ?_
    refine lv_iconst (v := nI 2) hx hb dX0_after_35 (by decide) ?_
    refine lv_isub hx hb dX0_after_36 ?_
    refine lv_topE (nI 4) (pk_sub (by omega)) ?_
    refine lv_iload hx hb dX0_after_37 (lv_at hl 0 rfl) ?_
    refine lv_iconst (v := nI 3) hx hb dX0_after_39 (by decide) ?_
    refine lv_imul hx hb dX0_after_40 ?_
    refine lv_topE (nI 3) (pk_mul _ _) ?_
    refine lv_isub hx hb dX0_after_41 ?_
    refine lv_topE (nI 1) (pk_sub (by omega)) ?_
    refine cVl (As := [.long (lN sx), .int (nI 1), .int (nI 1)]) (rest := []) ⟨hx, hb, hml, hown, hts⟩ (c_X0_afterWish1 l D ma mb mc md k0 k1 k2 mf wo ri pa0 pb0 pc0 kb0 kc0 n0 so0 nu0 pa1 pb1 pc1 kb1 kc1 n1 so1 nu1 sx 1 (by omega) (by omega) (hn1) (hso1) (hri) (hok1) (hqv1)) (cwV 3 hts (gV mU_435 mU_436 mU_437 mU_27 mU_438) rfl rfl rfl (by decide +kernel) ⟨Nat.le_of_ble_eq_true rfl, Nat.le_of_ble_eq_true rfl⟩) fbR (va_recv hK hP (ci := 0) (q0 := 0) rfl rfl) (PR.of hP hK) rfl hl.1 rfl (Nat.le_of_ble_eq_true rfl) dX0_after_42 ⟨Nat.zero_le _, Nat.zero_le _⟩ ?_
    subst hQ
    exact rtl hx hb hr hlocks rfl (by first | (unfold afterC; (try rfl); done) | (exfalso; omega)) dX0_after_45
  · have hl : lv_has ls 5 [(0, .ref ma), (1, .long (lN sx)), (3, .int (nI 7))] := hl
    refine lv_iload_n hx hb dX0_after_0 rfl (lv_at hl 2 rfl) ?_
    refine lv_iconst (v := nI 2) hx hb dX0_after_1 (by decide) ?_
    refine lv_icmp_ge (tgt := 12) hx hb dX0_after_2 (by decide) (fun c2_18 => ?_) (fun c2_18 => by first | exact absurd (by decide) c2_18 | exact absurd c2_18 (by decide))
    refine lv_iload_n hx hb dX0_after_12 rfl (lv_at hl 2 rfl) ?_
    refine lv_bipush (v := nI 8) hx hb dX0_after_13 (by decide) ?_
    refine lv_icmp_ge (tgt := 46) hx hb dX0_after_15 (by decide) (fun c15_19 => by first | exact absurd c15_19 (by decide) | exact absurd (by decide) c15_19) (fun c15_19 => ?_)
    refine lv_iload_n hx hb dX0_after_18 rfl (lv_at hl 2 rfl) ?_
    refine lv_iconst (v := nI 5) hx hb dX0_after_19 (by decide) ?_
    refine lv_icmp_ge (tgt := 27) hx hb dX0_after_20 (by decide) (fun c20_20 => ?_) (fun c20_20 => by first | exact absurd (by decide) c20_20 | exact absurd c20_20 (by decide))
    refine lv_iconst (v := nI 1) hx hb dX0_after_27 (by decide) ?_
    refine lv_istore (lv' := [(4, .int (nI 1)), (0, .ref ma), (1, .long (lN sx)), (3, .int (nI 7))]) hx hb dX0_after_28 hl (by decide) rfl (fun ls hl => ?_)
    refine lv_aload_n hx hb dX0_after_30 rfl (lv_at hl 1 rfl) ?_
    refine lv_lload_n hx hb dX0_after_31 rfl (lv_at hl 2 rfl) ?_
    refine lv_iload hx hb dX0_after_32 (lv_at hl 0 rfl) ?_
    refine lv_iload_n hx hb dX0_after_34 rfl (lv_at hl 3 rfl) ?_
    refine lv_iconst (v := nI 2) hx hb dX0_after_35 (by decide) ?_
    refine lv_isub hx hb dX0_after_36 ?_
    refine lv_topE (nI 5) (pk_sub (by omega)) ?_
    refine lv_iload hx hb dX0_after_37 (lv_at hl 0 rfl) ?_
    refine lv_iconst (v := nI 3) hx hb dX0_after_39 (by decide) ?_
    refine lv_imul hx hb dX0_after_40 ?_
    refine lv_topE (nI 3) (pk_mul _ _) ?_
    refine lv_isub hx hb dX0_after_41 ?_
    refine lv_topE (nI 2) (pk_sub (by omega)) ?_
    refine cVl (As := [.long (lN sx), .int (nI 1), .int (nI 2)]) (rest := []) ⟨hx, hb, hml, hown, hts⟩ (c_X0_afterWish1 l D ma mb mc md k0 k1 k2 mf wo ri pa0 pb0 pc0 kb0 kc0 n0 so0 nu0 pa1 pb1 pc1 kb1 kc1 n1 so1 nu1 sx 2 (by omega) (by omega) (hn1) (hso1) (hri) (hok1) (hqv1)) (cwV 3 hts (gV mU_435 mU_436 mU_437 mU_27 mU_438) rfl rfl rfl (by decide +kernel) ⟨Nat.le_of_ble_eq_true rfl, Nat.le_of_ble_eq_true rfl⟩) fbR (va_recv hK hP (ci := 0) (q0 := 0) rfl rfl) (PR.of hP hK) rfl hl.1 rfl (Nat.le_of_ble_eq_true rfl) dX0_after_42 ⟨Nat.zero_le _, Nat.zero_le _⟩ ?_
    subst hQ
    exact rtl hx hb hr hlocks rfl (by first | (unfold afterC; (try rfl); done) | (exfalso; omega)) dX0_after_45
  · have hl : lv_has ls 5 [(0, .ref ma), (1, .long (lN sx)), (3, .int (nI 8))] := hl
    refine lv_iload_n hx hb dX0_after_0 rfl (lv_at hl 2 rfl) ?_
    refine lv_iconst (v := nI 2) hx hb dX0_after_1 (by decide) ?_
    refine lv_icmp_ge (tgt := 12) hx hb dX0_after_2 (by decide) (fun c2_21 => ?_) (fun c2_21 => by first | exact absurd (by decide) c2_21 | exact absurd c2_21 (by decide))
    refine lv_iload_n hx hb dX0_after_12 rfl (lv_at hl 2 rfl) ?_
    refine lv_bipush (v := nI 8) hx hb dX0_after_13 (by decide) ?_
    refine lv_icmp_ge (tgt := 46) hx hb dX0_after_15 (by decide) (fun c15_22 => ?_) (fun c15_22 => by first | exact absurd (by decide) c15_22 | exact absurd c15_22 (by decide))
    refine lv_aload_n hx hb dX0_after_46 rfl (lv_at hl 0 rfl) ?_
    refine va_get (D := D) (ci := 0) (v := .int (nI mf)) (C := RX0) (T := TX0) (N := 4) hx hb hU iX0 hown hK hP 0 rfl rfl 3 (by decide) (hU _ mU_57) (fun _ h9 => h9) rfl dX0_after_47 ?_
    refine lv_if_eq (tgt := 63) hx hb dX0_after_50 (by decide) (fun c50_23 => ?_) (fun c50_23 => ?_)
    · have c50_23 : mf = 0 := (nI_eqG (a := mf) (b := 0) (by omega) (by omega)).mp c50_23
      refine lv_ldc2 (v := (-1)) hx hb hown (hU _ mU_391) dX0_after_63 ?_
      subst hQ
      exact rtl hx hb hr hlocks rfl (by first | (unfold afterC; (try first | rw [if_pos c50_23] | rw [if_neg c50_23]); (try rfl); done) | (exfalso; omega)) dX0_after_66
    · have c50_23 : ¬ (mf = 0) := fun h9 => c50_23 ((nI_eqG (a := mf) (b := 0) (by omega) (by omega)).mpr h9)
      refine lv_lload_n hx hb dX0_after_53 rfl (lv_at hl 1 rfl) ?_
      refine lv_bipush (v := nI 42) hx hb dX0_after_54 (by decide) ?_
      refine lv_iconst (v := nI 3) hx hb dX0_after_56 (by decide) ?_
      refine cSi (As := [.long (lN sx), .int (nI 42), .int (nI 3)]) (rest := []) ⟨hx, hb, hml, hown, hts⟩ (c_X0_bits l  sx 42 2 (by omega) (by omega)) (va_cwS 3 hts (gS mU_398 mU_399 mU_27 mU_400) rfl rfl rfl (by decide +kernel) ⟨Nat.le_of_ble_eq_true rfl, Nat.le_of_ble_eq_true rfl⟩) fbU (fun _ _ _ => trivial) rfl hl.1 rfl (Nat.le_of_ble_eq_true rfl) dX0_after_57 ⟨Nat.zero_le _, Nat.zero_le _⟩ ?_
      have hf_24 : bitsN sx 42 2 < 2 ^ 2 := bitsN_lt _ _ _
      refine lv_if_eq (tgt := 67) hx hb dX0_after_60 (by decide) (fun c60_25 => ?_) (fun c60_25 => ?_)
      · have c60_25 : bitsN sx 42 2 = 0 := (nI_eqG (a := bitsN sx 42 2) (b := 0) (by omega) (by omega)).mp c60_25
        refine lv_lload_n hx hb dX0_after_67 rfl (lv_at hl 1 rfl) ?_
        refine lv_lconst (v := lN 1) hx hb dX0_after_68 rfl ?_
        refine lv_bipush (v := nI 42) hx hb dX0_after_69 (by decide) ?_
        refine lv_iload_n hx hb dX0_after_71 rfl (lv_at hl 2 rfl) ?_
        refine lv_iadd hx hb dX0_after_72 ?_
        refine lv_topE (nI 50) (nI_add _ _) ?_
        refine lv_bipush (v := nI 8) hx hb dX0_after_73 (by decide) ?_
        refine lv_isub hx hb dX0_after_75 ?_
        refine lv_topE (nI 42) (pk_sub (by omega)) ?_
        refine lv_lshl hx hb dX0_after_76 rfl ?_
        refine lv_lor hx hb dX0_after_77 ?_
        refine lv_topEl (lN (sx ||| 1 * 2 ^ 42)) (z_orv (by omega) (by omega) (by decide)) ?_
        subst hQ
        exact rtl hx hb hr hlocks rfl (by first | (unfold afterC; (try first | rw [if_pos c50_23] | rw [if_neg c50_23]); (try first | rw [if_pos c60_25] | rw [if_neg c60_25]); (try rfl); done) | (exfalso; omega)) dX0_after_78
      · have c60_25 : ¬ (bitsN sx 42 2 = 0) := fun h9 => c60_25 ((nI_eqG (a := bitsN sx 42 2) (b := 0) (by omega) (by omega)).mpr h9)
        refine lv_ldc2 (v := (-1)) hx hb hown (hU _ mU_391) dX0_after_63 ?_
        subst hQ
        exact rtl hx hb hr hlocks rfl (by first | (unfold afterC; (try first | rw [if_pos c50_23] | rw [if_neg c50_23]); (try first | rw [if_pos c60_25] | rw [if_neg c60_25]); (try rfl); done) | (exfalso; omega)) dX0_after_66
  · have hl : lv_has ls 5 [(0, .ref ma), (1, .long (lN sx)), (3, .int (nI 9))] := hl
    refine lv_iload_n hx hb dX0_after_0 rfl (lv_at hl 2 rfl) ?_
    refine lv_iconst (v := nI 2) hx hb dX0_after_1 (by decide) ?_
    refine lv_icmp_ge (tgt := 12) hx hb dX0_after_2 (by decide) (fun c2_26 => ?_) (fun c2_26 => by first | exact absurd (by decide) c2_26 | exact absurd c2_26 (by decide))
    refine lv_iload_n hx hb dX0_after_12 rfl (lv_at hl 2 rfl) ?_
    refine lv_bipush (v := nI 8) hx hb dX0_after_13 (by decide) ?_
    refine lv_icmp_ge (tgt := 46) hx hb dX0_after_15 (by decide) (fun c15_27 => ?_) (fun c15_27 => by first | exact absurd (by decide) c15_27 | exact absurd c15_27 (by decide))
    refine lv_aload_n hx hb dX0_after_46 rfl (lv_at hl 0 rfl) ?_
    refine va_get (D := D) (ci := 0) (v := .int (nI mf)) (C := RX0) (T := TX0) (N := 4) hx hb hU iX0 hown hK hP 0 rfl rfl 3 (by decide) (hU _ mU_57) (fun _ h9 => h9) rfl dX0_after_47 ?_
    refine lv_if_eq (tgt := 63) hx hb dX0_after_50 (by decide) (fun c50_28 => ?_) (fun c50_28 => ?_)
    · have c50_28 : mf = 0 := (nI_eqG (a := mf) (b := 0) (by omega) (by omega)).mp c50_28
      refine lv_ldc2 (v := (-1)) hx hb hown (hU _ mU_391) dX0_after_63 ?_
      subst hQ
      exact rtl hx hb hr hlocks rfl (by first | (unfold afterC; (try first | rw [if_pos c50_28] | rw [if_neg c50_28]); (try rfl); done) | (exfalso; omega)) dX0_after_66
    · have c50_28 : ¬ (mf = 0) := fun h9 => c50_28 ((nI_eqG (a := mf) (b := 0) (by omega) (by omega)).mpr h9)
      refine lv_lload_n hx hb dX0_after_53 rfl (lv_at hl 1 rfl) ?_
      refine lv_bipush (v := nI 42) hx hb dX0_after_54 (by decide) ?_
      refine lv_iconst (v := nI 3) hx hb dX0_after_56 (by decide) ?_
      refine cSi (As := [.long (lN sx), .int (nI 42), .int (nI 3)]) (rest := []) ⟨hx, hb, hml, hown, hts⟩ (c_X0_bits l  sx 42 2 (by omega) (by omega)) (va_cwS 3 hts (gS mU_398 mU_399 mU_27 mU_400) rfl rfl rfl (by decide +kernel) ⟨Nat.le_of_ble_eq_true rfl, Nat.le_of_ble_eq_true rfl⟩) fbU (fun _ _ _ => trivial) rfl hl.1 rfl (Nat.le_of_ble_eq_true rfl) dX0_after_57 ⟨Nat.zero_le _, Nat.zero_le _⟩ ?_
      have hf_29 : bitsN sx 42 2 < 2 ^ 2 := bitsN_lt _ _ _
      refine lv_if_eq (tgt := 67) hx hb dX0_after_60 (by decide) (fun c60_30 => ?_) (fun c60_30 => ?_)
      · have c60_30 : bitsN sx 42 2 = 0 := (nI_eqG (a := bitsN sx 42 2) (b := 0) (by omega) (by omega)).mp c60_30
        refine lv_lload_n hx hb dX0_after_67 rfl (lv_at hl 1 rfl) ?_
        refine lv_lconst (v := lN 1) hx hb dX0_after_68 rfl ?_
        refine lv_bipush (v := nI 42) hx hb dX0_after_69 (by decide) ?_
        refine lv_iload_n hx hb dX0_after_71 rfl (lv_at hl 2 rfl) ?_
        refine lv_iadd hx hb dX0_after_72 ?_
        refine lv_topE (nI 51) (nI_add _ _) ?_
        refine lv_bipush (v := nI 8) hx hb dX0_after_73 (by decide) ?_
        refine lv_isub hx hb dX0_after_75 ?_
        refine lv_topE (nI 43) (pk_sub (by omega)) ?_
        refine lv_lshl hx hb dX0_after_76 rfl ?_
        refine lv_lor hx hb dX0_after_77 ?_
        refine lv_topEl (lN (sx ||| 1 * 2 ^ 43)) (z_orv (by omega) (by omega) (by decide)) ?_
        subst hQ
        exact rtl hx hb hr hlocks rfl (by first | (unfold afterC; (try first | rw [if_pos c50_28] | rw [if_neg c50_28]); (try first | rw [if_pos c60_30] | rw [if_neg c60_30]); (try rfl); done) | (exfalso; omega)) dX0_after_78
      · have c60_30 : ¬ (bitsN sx 42 2 = 0) := fun h9 => c60_30 ((nI_eqG (a := bitsN sx 42 2) (b := 0) (by omega) (by omega)).mpr h9)
        refine lv_ldc2 (v := (-1)) hx hb hown (hU _ mU_391) dX0_after_63 ?_
        subst hQ
        exact rtl hx hb hr hlocks rfl (by first | (unfold afterC; (try first | rw [if_pos c50_28] | rw [if_neg c50_28]); (try first | rw [if_pos c60_30] | rw [if_neg c60_30]); (try rfl); done) | (exfalso; omega)) dX0_after_66

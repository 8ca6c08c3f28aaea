abbrev kW (ma mb mc md : Nat) (k0 k1 k2 : ClassId) (mf : Nat) (wo ri : Nat → Nat) (pa0 pb0 pc0 : Nat) (kb0 kc0 : ClassId) (n0 : Nat) (so0 nu0 : Nat → Nat) (pa1 pb1 pc1 : Nat) (kb1 kc1 : ClassId) (n1 : Nat) (so1 nu1 : Nat → Nat) : va_W := [(ma, .inr (0, [.ref mb, .ref mc, .ref md, .int (nI mf)])), (mb, .inl (k0, 2, .inr (.inr (.inr (.inr (fun j => if j = 0 then some pa0 else some pa1)))))), (mc, .inl (k1, 4, .inl (nA wo))), (md, .inl (k2, 4, .inl (nA ri))), (pa0, .inr (1, [.int (nI n0), .ref pb0, .ref pc0])), (pb0, .inl (kb0, 8, .inl (nA so0))), (pc0, .inl (kc0, 32, .inl (nA nu0))), (pa1, .inr (1, [.int (nI n1), .ref pb1, .ref pc1])), (pb1, .inl (kb1, 8, .inl (nA so1))), (pc1, .inl (kc1, 32, .inl (nA nu1)))]
abbrev kT (k0 k1 k2 kb0 kc0 kb1 kc1 : ClassId) : List (ClassId × FieldType) := [(k0, .object "FarStore$Program"), (k1, .int), (k2, .int), (kb0, .int), (kc0, .int), (kb1, .int), (kc1, .int)]
set_option maxHeartbeats 4000000 in
set_option maxRecDepth 100000 in
theorem c_X0_goodEnd (l : Launch) (D : va_G) (ma mb mc md : Nat) (k0 k1 k2 : ClassId) (mf : Nat) (wo ri : Nat → Nat) (pa0 pb0 pc0 : Nat) (kb0 kc0 : ClassId) (n0 : Nat) (so0 nu0 : Nat → Nat) (pa1 pb1 pc1 : Nat) (kb1 kc1 : ClassId) (n1 : Nat) (so1 nu1 : Nat → Nat)  (hn0 : n0 < 8) (hn1 : n1 < 8) : Met l yX0_goodEnd (.code yX0_goodEnd cX0_goodEnd 1 (some .long) :: wsL_law) ({ frames := 1, cells := 0, slots := 0, locals := 21 }) (va_Pc [.ref ma] (PR D (kW ma mb mc md k0 k1 k2 mf wo ri pa0 pb0 pc0 kb0 kc0 n0 so0 nu0 pa1 pb1 pc1 kb1 kc1 n1 so1 nu1) (kT k0 k1 k2 kb0 kc0 kb1 kc1))) (QrL (lN (n0 * 65536 + n1 * 524288))) 0 0 (fun _ => False) := by
  refine Met.ofW (cc := cX0_goodEnd) (maxL := 1) (ret := (some .long)) (by decide) rfl ?_
  intro p e s m args below meth c s₁ B hml hv
  obtain ⟨rfl, hP, hK⟩ := hv
  have hx := B.exec
  have hb := B.bytes
  have hr := B.returns
  have hts := atoms_spec (ws := .code yX0_goodEnd cX0_goodEnd 1 (some .long) :: wsL_law) B.pre
  have hU : ∀ w ∈ wsL_law, w.before _ s = true := fun w h => hts w (List.mem_cons_of_mem _ h)
  have hown : s.vm.findClass RX0 = some m.cls := findClass_of_methodNamed B.named
  have hlocks := B.notSynchronized
  generalize hQ : MQ _ _ _ _ _ _ _ = Q
  have hl := lv_entry ([.ref ma]) (n := 1) (Nat.le_of_ble_eq_true rfl)
  rw [lg_entry_eq]
  generalize (lg_sl ([.ref ma]) ++ List.replicate (1 - (lg_sl ([.ref ma])).length) Slot.unset).toArray = ls at hl ⊢
  have hl : lv_has ls 1 [(0, .ref ma)] := hl
  refine lv_aload_n hx hb dX0_goodEnd_0 rfl (lv_at hl 0 rfl) ?_
  refine va_get (D := D) (ci := 0) (v := .ref mb) (C := RX0) (T := TX0) (N := 4) hx hb hU iX0 hown hK hP 0 rfl rfl 0 (by decide) (hU _ mU_54) (fun _ h9 => h9) rfl dX0_goodEnd_1 ?_
  refine lv_iconst (v := nI 0) hx hb dX0_goodEnd_4 (by decide) ?_
  refine va_aldq hx hb hK hP 1 0 rfl rfl (vp_in_nI (n := 0) (by decide) (by decide)) dX0_goodEnd_5 ?_
  refine W.eq (g2 := F0 m 6 ls [.ref pa0]) (by rw [nI_clamp (show 0 < 2 ^ 31 by decide)]; rfl) ?_
  refine va_get (D := D) (ci := 1) (v := .int (nI n0)) (C := RX1) (T := TX1) (N := 3) hx hb hU iX1 hown hK hP 4 rfl rfl 0 (by decide) (hU _ mU_396) (fun _ h9 => h9) rfl dX0_goodEnd_6 ?_
  refine lv_aload_n hx hb dX0_goodEnd_9 rfl (lv_at hl 0 rfl) ?_
  refine va_get (D := D) (ci := 0) (v := .ref mb) (C := RX0) (T := TX0) (N := 4) hx hb hU iX0 hown hK hP 0 rfl rfl 0 (by decide) (hU _ mU_54) (fun _ h9 => h9) rfl dX0_goodEnd_10 ?_
  refine lv_iconst (v := nI 1) hx hb dX0_goodEnd_13 (by decide) ?_
  refine va_aldq hx hb hK hP 1 0 rfl rfl (vp_in_nI (n := 1) (by decide) (by decide)) dX0_goodEnd_14 ?_
  refine W.eq (g2 := F0 m 15 ls [.ref pa1, .int (nI n0)]) (by rw [nI_clamp (show 1 < 2 ^ 31 by decide)]; rfl) ?_
  refine va_get (D := D) (ci := 1) (v := .int (nI n1)) (C := RX1) (T := TX1) (N := 3) hx hb hU iX1 hown hK hP 7 rfl rfl 0 (by decide) (hU _ mU_396) (fun _ h9 => h9) rfl dX0_goodEnd_15 ?_
  refine cSl (As := [.int (nI n0), .int (nI n1)]) (rest := []) ⟨hx, hb, hml, hown, hts⟩ (c_X0_placesOf l  n0 n1 (by omega) (by omega)) (va_cwS 2 hts (gS mU_454 mU_455 mU_27 mU_456) rfl rfl rfl (by decide +kernel) ⟨Nat.le_of_ble_eq_true rfl, Nat.le_of_ble_eq_true rfl⟩) fbU (fun _ _ _ => trivial) rfl hl.1 rfl (Nat.le_of_ble_eq_true rfl) dX0_goodEnd_18 ⟨Nat.zero_le _, Nat.zero_le _⟩ ?_
  subst hQ
  exact rtl hx hb hr hlocks rfl (rfl) dX0_goodEnd_21

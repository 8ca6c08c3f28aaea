/-- what a taking of state x with what is ahead of it leaves: the rows as they were if it is there or there is no room, else one more -/
def takPost (wb wc wd : Nat) (kw0 kw1 kw2 : ClassId) (L M sp cn en ge be tl : Nat) (ts og sl : Nat → Nat) (x o : Nat) (r : Int32) (u : WSt) : Prop :=
  ((∃ i, i < cn ∧ ts i = x) → r = nI 1 ∧ u = (wb, wc, wd, kw0, kw1, kw2, L, M, sp, cn, en, ge, be, tl, ts, og, sl)) ∧ (¬ (∃ i, i < cn ∧ ts i = x) → (12000 ≤ cn → r = nI 0 ∧ u = (wb, wc, wd, kw0, kw1, kw2, L, M, sp, cn, en, ge, be, tl, ts, og, sl)) ∧ (cn < 12000 → r = nI 1 ∧ ∃ wb2 wc2 wd2 ka2 kb2 kc2 L2 M2 ts2 og2 sl2, u = (wb2, wc2, wd2, ka2, kb2, kc2, L2, M2, sp, cn + 1, en, ge, be, tl, ts2, og2, sl2) ∧ L2 = (if cn < L then L else 12000) ∧ TI L2 M2 sp (cn + 1) ts2 og2 sl2 ∧ (∀ i, i < cn → ts2 i = ts i ∧ og2 i = og i) ∧ ts2 cn = x ∧ og2 cn = o))
set_option maxHeartbeats 4000000 in
set_option maxRecDepth 100000 in
theorem c_X3_take (l : Launch) (D : va_G) (wa wb wc wd : Nat) (kw0 kw1 kw2 : ClassId) (L M sp cn en ge be tl : Nat) (ts og sl : Nat → Nat) (sz : Nat) (sx : Nat) (o : Nat) (hT : TI L M sp cn ts og sl) (hsx : sx < 2 ^ 44) (ho : o < 2147483648) (hng : (∃ i, i < cn ∧ ts i = sx) ∨ 12000 ≤ cn ∨ cn < L) : Met l yX3_take (.code yX3_take cX3_take 5 (some .boolean) :: wsL_law) ({ frames := 2, cells := 0, slots := 0, locals := 46 }) (va_Pc [.ref wa, .long (lN sx), .int (nI o)] (PW D (wW wa wb wc wd kw0 kw1 kw2 L M sp cn en ge be tl ts og sl) (wT kw0 kw1 kw2) sz)) (va_Qi (fun (r : Int32) (u : WSt) => takPost wb wc wd kw0 kw1 kw2 L M sp cn en ge be tl ts og sl sx o r u) (QW D (fun u : WSt => wW wa u.1 u.2.1 u.2.2.1 u.2.2.2.1 u.2.2.2.2.1 u.2.2.2.2.2.1 u.2.2.2.2.2.2.1 u.2.2.2.2.2.2.2.1 u.2.2.2.2.2.2.2.2.1 u.2.2.2.2.2.2.2.2.2.1 u.2.2.2.2.2.2.2.2.2.2.1 u.2.2.2.2.2.2.2.2.2.2.2.1 u.2.2.2.2.2.2.2.2.2.2.2.2.1 u.2.2.2.2.2.2.2.2.2.2.2.2.2.1 u.2.2.2.2.2.2.2.2.2.2.2.2.2.2.1 u.2.2.2.2.2.2.2.2.2.2.2.2.2.2.2.1 u.2.2.2.2.2.2.2.2.2.2.2.2.2.2.2.2) (fun u : WSt => wT u.2.2.2.1 u.2.2.2.2.1 u.2.2.2.2.2.1) (va_A (wW wa wb wc wd kw0 kw1 kw2 L M sp cn en ge be tl ts og sl) sz)) (va_A (wW wa wb wc wd kw0 kw1 kw2 L M sp cn en ge be tl ts og sl) sz)) 0 0 (va_A (wW wa wb wc wd kw0 kw1 kw2 L M sp cn en ge be tl ts og sl) sz) := by
  refine Met.ofW (cc := cX3_take) (maxL := 5) (ret := (some .boolean)) (by decide) rfl ?_
  intro p e s m args below meth c s₁ B hml hv
  obtain ⟨rfl, hsz, hP, hK, hD0⟩ := hv
  have hx := B.exec
  have hb := B.bytes
  have hr := B.returns
  have hts := atoms_spec (ws := .code yX3_take cX3_take 5 (some .boolean) :: wsL_law) B.pre
  have hU : ∀ w ∈ wsL_law, w.before _ s = true := fun w h => hts w (List.mem_cons_of_mem _ h)
  have hown : s.vm.findClass RX3 = some m.cls := findClass_of_methodNamed B.named
  have hlocks := B.notSynchronized
  subst hsz
  have hD := hD0.self (sz := s.heap.size)
  generalize hAe : va_A (wW wa wb wc wd kw0 kw1 kw2 L M sp cn en ge be tl ts og sl) s.heap.size = Ar at hD ⊢
  have hA : ∀ q : Nat, s.heap.size ≤ q → Ar q := fun q h => by rw [← hAe]; exact Or.inr h
  have hS : va_S Ar s.heap s.heap [] := va_S.rf
  have hP : va_P D vwCl [(wa, .inr (3, [.ref wb, .ref wc, .ref wd, .int (nI sp), .int (nI cn), .int (nI en), .int (nI ge), .int (nI be), .int (nI tl)])), (wb, .inl (kw0, L, .inr (.inl (lA ts)))), (wc, .inl (kw1, L, .inl (nA og))), (wd, .inl (kw2, M, .inl (nA sl)))] s.heap := hP
  have hD : va_D Ar [(wa, .inr (3, [.ref wb, .ref wc, .ref wd, .int (nI sp), .int (nI cn), .int (nI en), .int (nI ge), .int (nI be), .int (nI tl)])), (wb, .inl (kw0, L, .inr (.inl (lA ts)))), (wc, .inl (kw1, L, .inl (nA og))), (wd, .inl (kw2, M, .inl (nA sl)))] := hD
  generalize hQ : MQ _ _ _ _ _ _ _ = Q
  have hl := lv_entry ([.ref wa, .long (lN sx), .int (nI o)]) (n := 5) (Nat.le_of_ble_eq_true rfl)
  rw [lg_entry_eq]
  generalize (lg_sl ([.ref wa, .long (lN sx), .int (nI o)]) ++ List.replicate (5 - (lg_sl ([.ref wa, .long (lN sx), .int (nI o)])).length) Slot.unset).toArray = ls at hl ⊢
  have hl : lv_has ls 5 [(0, .ref wa), (1, .long (lN sx)), (3, .int (nI o))] := hl
  have hsp9 := hT.2.2.2.2.2.2.2.2.1
  have hcl9 := hT.2.1
  have hLM9 := hT.1
  refine lv_aload_n hx hb dX3_take_0 rfl (lv_at hl 0 rfl) ?_
  refine lv_lload_n hx hb dX3_take_1 rfl (lv_at hl 1 rfl) ?_
  refine cVi (As := [.long (lN sx)]) (rest := []) ⟨hx, hb, hml, hown, hts⟩ (c_X3_slotOf l D wa wb wc wd kw0 kw1 kw2 L M sp cn en ge be tl ts og sl sx (hT.M) (hT.2.2.2.2.2.2.1) (by omega) (hT.2.2.2.2.1) (hT.ix) (by omega) (by omega)) (cwV 1 hts (gV mU_353 mU_354 mU_355 mU_31 mU_356) rfl rfl rfl (by decide +kernel) ⟨Nat.le_of_ble_eq_true rfl, Nat.le_of_ble_eq_true rfl⟩) fbR (va_recv hK hP (ci := 3) (q0 := 0) rfl rfl) (PR.of hP hK) rfl hl.1 rfl (Nat.le_of_ble_eq_true rfl) dX3_take_2 ⟨Nat.zero_le _, Nat.zero_le _⟩ ?_
  have hf_1 : slotC M sp ts sl sx < M := slotC_lt (by omega)
  refine lv_istore (lv' := [(4, .int (nI (slotC M sp ts sl sx))), (0, .ref wa), (1, .long (lN sx)), (3, .int (nI o))]) hx hb dX3_take_5 hl (by decide) rfl (fun ls hl => ?_)
  refine lv_aload_n hx hb dX3_take_7 rfl (lv_at hl 1 rfl) ?_
  refine lv_iload hx hb dX3_take_8 (lv_at hl 0 rfl) ?_
  refine cVi (As := [.int (nI (slotC M sp ts sl sx))]) (rest := []) ⟨hx, hb, hml, hown, hts⟩ (c_X3_isTaken l D wa wb wc wd kw0 kw1 kw2 L M sp cn en ge be tl ts og sl (slotC M sp ts sl sx) (by omega) (hT.M) (hT.2.2.2.2.2.2.1) (by omega)) (cwV 1 hts (gV mU_358 mU_359 mU_360 mU_31 mU_361) rfl rfl rfl (by decide +kernel) ⟨Nat.le_of_ble_eq_true rfl, Nat.le_of_ble_eq_true rfl⟩) fbR (va_recv hK hP (ci := 3) (q0 := 0) rfl rfl) (PR.of hP hK) rfl hl.1 rfl (Nat.le_of_ble_eq_true rfl) dX3_take_10 ⟨Nat.zero_le _, Nat.zero_le _⟩ ?_
  refine lv_if_eq (tgt := 18) hx hb dX3_take_13 (by decide) (fun c13_2 => ?_) (fun c13_2 => ?_)
  · have c13_2 : ¬ (sl (slotC M sp ts sl sx) / 16384 = sp) := bP_f c13_2
    refine lv_aload_n hx hb dX3_take_18 rfl (lv_at hl 1 rfl) ?_
    refine va_get (D := D) (ci := 3) (v := .int (nI cn)) (C := RX3) (T := TX3) (N := 9) hx hb hU iX3 hown hK hP 0 rfl rfl 4 (by decide) (hU _ mU_66) (fun _ h9 => h9) rfl dX3_take_19 ?_
    refine lv_sipush (v := nI 12000) hx hb dX3_take_22 (by decide) ?_
    refine lv_icmp_lt (tgt := 30) hx hb dX3_take_25 (by decide) (fun c25_3 => ?_) (fun c25_3 => ?_)
    · have c25_3 : cn < 12000 := (nI_ltI (a := cn) (b := 12000) (by omega) (by omega)).mp c25_3
      refine lv_aload_n hx hb dX3_take_30 rfl (lv_at hl 1 rfl) ?_
      refine va_get (D := D) (ci := 3) (v := .int (nI cn)) (C := RX3) (T := TX3) (N := 9) hx hb hU iX3 hown hK hP 0 rfl rfl 4 (by decide) (hU _ mU_66) (fun _ h9 => h9) rfl dX3_take_31 ?_
      refine lv_aload_n hx hb dX3_take_34 rfl (lv_at hl 1 rfl) ?_
      refine va_get (D := D) (ci := 3) (v := .ref wb) (C := RX3) (T := TX3) (N := 9) hx hb hU iX3 hown hK hP 0 rfl rfl 0 (by decide) (hU _ mU_62) (fun _ h9 => h9) rfl dX3_take_35 ?_
      refine va_alen (v := nI L) hx hb hK hP 1 0 rfl rfl rfl dX3_take_38 ?_
      refine lv_icmp_lt (tgt := 53) hx hb dX3_take_39 (by decide) (fun c39_4 => ?_) (fun c39_4 => ?_)
      · have c39_4 : cn < L := (nI_ltI (a := cn) (b := L) (by omega) (by omega)).mp c39_4
        refine lv_aload_n hx hb dX3_take_53 rfl (lv_at hl 1 rfl) ?_
        refine va_get (D := D) (ci := 3) (v := .ref wb) (C := RX3) (T := TX3) (N := 9) hx hb hU iX3 hown hK hP 0 rfl rfl 0 (by decide) (hU _ mU_62) (fun _ h9 => h9) rfl dX3_take_54 ?_
        refine lv_aload_n hx hb dX3_take_57 rfl (lv_at hl 1 rfl) ?_
        refine va_get (D := D) (ci := 3) (v := .int (nI cn)) (C := RX3) (T := TX3) (N := 9) hx hb hU iX3 hown hK hP 0 rfl rfl 4 (by decide) (hU _ mU_66) (fun _ h9 => h9) rfl dX3_take_58 ?_
        refine lv_lload_n hx hb dX3_take_61 rfl (lv_at hl 2 rfl) ?_
        refine n_last hx hb hK hP hD hS 1 0 rfl rfl (i := cn) (v := sx) (by omega) (by omega) dX3_take_62 (fun H locs hP hD hS => ?_)
        have hP : va_P D vwCl [(wa, .inr (3, [.ref wb, .ref wc, .ref wd, .int (nI sp), .int (nI cn), .int (nI en), .int (nI ge), .int (nI be), .int (nI tl)])), (wb, .inl (kw0, L, .inr (.inl (lA (upN ts cn sx))))), (wc, .inl (kw1, L, .inl (nA og))), (wd, .inl (kw2, M, .inl (nA sl)))] H := hP
        have hD : va_D Ar [(wa, .inr (3, [.ref wb, .ref wc, .ref wd, .int (nI sp), .int (nI cn), .int (nI en), .int (nI ge), .int (nI be), .int (nI tl)])), (wb, .inl (kw0, L, .inr (.inl (lA (upN ts cn sx))))), (wc, .inl (kw1, L, .inl (nA og))), (wd, .inl (kw2, M, .inl (nA sl)))] := hD
        refine lv_aload_n hx hb dX3_take_63 rfl (lv_at hl 1 rfl) ?_
        refine va_get (D := D) (ci := 3) (v := .ref wc) (C := RX3) (T := TX3) (N := 9) hx hb hU iX3 hown hK hP 0 rfl rfl 1 (by decide) (hU _ mU_63) (fun _ h9 => h9) rfl dX3_take_64 ?_
        refine lv_aload_n hx hb dX3_take_67 rfl (lv_at hl 1 rfl) ?_
        refine va_get (D := D) (ci := 3) (v := .int (nI cn)) (C := RX3) (T := TX3) (N := 9) hx hb hU iX3 hown hK hP 0 rfl rfl 4 (by decide) (hU _ mU_66) (fun _ h9 => h9) rfl dX3_take_68 ?_
        refine lv_iload_n hx hb dX3_take_71 rfl (lv_at hl 3 rfl) ?_
        refine n_iast hx hb hK hP hD hS 2 1 rfl rfl (i := cn) (v := o) (by omega) (by omega) dX3_take_72 (fun H locs hP hD hS => ?_)
        have hP : va_P D vwCl [(wa, .inr (3, [.ref wb, .ref wc, .ref wd, .int (nI sp), .int (nI cn), .int (nI en), .int (nI ge), .int (nI be), .int (nI tl)])), (wb, .inl (kw0, L, .inr (.inl (lA (upN ts cn sx))))), (wc, .inl (kw1, L, .inl (nA (upN og cn o)))), (wd, .inl (kw2, M, .inl (nA sl)))] H := hP
        have hD : va_D Ar [(wa, .inr (3, [.ref wb, .ref wc, .ref wd, .int (nI sp), .int (nI cn), .int (nI en), .int (nI ge), .int (nI be), .int (nI tl)])), (wb, .inl (kw0, L, .inr (.inl (lA (upN ts cn sx))))), (wc, .inl (kw1, L, .inl (nA (upN og cn o)))), (wd, .inl (kw2, M, .inl (nA sl)))] := hD
        refine lv_aload_n hx hb dX3_take_73 rfl (lv_at hl 1 rfl) ?_
        refine va_get (D := D) (ci := 3) (v := .ref wd) (C := RX3) (T := TX3) (N := 9) hx hb hU iX3 hown hK hP 0 rfl rfl 2 (by decide) (hU _ mU_64) (fun _ h9 => h9) rfl dX3_take_74 ?_
        refine lv_iload hx hb dX3_take_77 (lv_at hl 0 rfl) ?_
        refine lv_aload_n hx hb dX3_take_79 rfl (lv_at hl 1 rfl) ?_
        refine va_get (D := D) (ci := 3) (v := .int (nI sp)) (C := RX3) (T := TX3) (N := 9) hx hb hU iX3 hown hK hP 0 rfl rfl 3 (by decide) (hU _ mU_65) (fun _ h9 => h9) rfl dX3_take_80 ?_
        refine lv_bipush (v := nI 14) hx hb dX3_take_83 (by decide) ?_
        refine lv_ishl hx hb dX3_take_85 ?_
        refine lv_topE (nI (sp * 16384)) (pk_shlN _ 14 (z_s32 14 (by decide)) (by omega)) ?_
        refine lv_aload_n hx hb dX3_take_86 rfl (lv_at hl 1 rfl) ?_
        refine va_get (D := D) (ci := 3) (v := .int (nI cn)) (C := RX3) (T := TX3) (N := 9) hx hb hU iX3 hown hK hP 0 rfl rfl 4 (by decide) (hU _ mU_66) (fun _ h9 => h9) rfl dX3_take_87 ?_
        refine lv_ior hx hb dX3_take_90 ?_
        refine lv_topE (nI (sp * 16384 + cn)) (z_or14 (by omega)) ?_
        refine n_iast hx hb hK hP hD hS 3 2 rfl rfl (i := slotC M sp ts sl sx) (v := sp * 16384 + cn) (by omega) (by omega) dX3_take_91 (fun H locs hP hD hS => ?_)
        have hP : va_P D vwCl [(wa, .inr (3, [.ref wb, .ref wc, .ref wd, .int (nI sp), .int (nI cn), .int (nI en), .int (nI ge), .int (nI be), .int (nI tl)])), (wb, .inl (kw0, L, .inr (.inl (lA (upN ts cn sx))))), (wc, .inl (kw1, L, .inl (nA (upN og cn o)))), (wd, .inl (kw2, M, .inl (nA (upN sl (slotC M sp ts sl sx) (sp * 16384 + cn)))))] H := hP
        have hD : va_D Ar [(wa, .inr (3, [.ref wb, .ref wc, .ref wd, .int (nI sp), .int (nI cn), .int (nI en), .int (nI ge), .int (nI be), .int (nI tl)])), (wb, .inl (kw0, L, .inr (.inl (lA (upN ts cn sx))))), (wc, .inl (kw1, L, .inl (nA (upN og cn o)))), (wd, .inl (kw2, M, .inl (nA (upN sl (slotC M sp ts sl sx) (sp * 16384 + cn)))))] := hD
        refine lv_aload_n hx hb dX3_take_92 rfl (lv_at hl 1 rfl) ?_
        refine lv_dup hx hb dX3_take_93 rfl ?_
        refine va_get (D := D) (ci := 3) (v := .int (nI cn)) (C := RX3) (T := TX3) (N := 9) hx hb hU iX3 hown hK hP 0 rfl rfl 4 (by decide) (hU _ mU_66) (fun _ h9 => h9) rfl dX3_take_94 ?_
        refine lv_iconst (v := nI 1) hx hb dX3_take_97 (by decide) ?_
        refine lv_iadd hx hb dX3_take_98 ?_
        refine lv_topE (nI (cn + 1)) (nI_add _ _) ?_
        refine va_put (D := D) (ci := 3) (v := .int (nI (cn + 1))) (ty := .int) (C := RX3) (T := TX3) (N := 9) hx hb hU iX3 tyX3 tyX3_ok nmX3 hown hK hP hD hS 0 rfl rfl 4 (by decide) (hU _ mU_66) (fun _ h9 => h9) rfl (by decide +kernel) rfl rfl (Nat.le_of_ble_eq_true rfl) dX3_take_99 (fun H locs hP hD hS => ?_)
        have hP : va_P D vwCl [(wa, .inr (3, [.ref wb, .ref wc, .ref wd, .int (nI sp), .int (nI (cn + 1)), .int (nI en), .int (nI ge), .int (nI be), .int (nI tl)])), (wb, .inl (kw0, L, .inr (.inl (lA (upN ts cn sx))))), (wc, .inl (kw1, L, .inl (nA (upN og cn o)))), (wd, .inl (kw2, M, .inl (nA (upN sl (slotC M sp ts sl sx) (sp * 16384 + cn)))))] H := hP
        have hD : va_D Ar [(wa, .inr (3, [.ref wb, .ref wc, .ref wd, .int (nI sp), .int (nI (cn + 1)), .int (nI en), .int (nI ge), .int (nI be), .int (nI tl)])), (wb, .inl (kw0, L, .inr (.inl (lA (upN ts cn sx))))), (wc, .inl (kw1, L, .inl (nA (upN og cn o)))), (wd, .inl (kw2, M, .inl (nA (upN sl (slotC M sp ts sl sx) (sp * 16384 + cn)))))] := hD
        refine lv_iconst (v := nI 1) hx hb dX3_take_102 (by decide) ?_
        subst hQ
        exact rwz (wb, wc, wd, kw0, kw1, kw2, L, M, sp, cn + 1, en, ge, be, tl, upN ts cn sx, upN og cn o, upN sl (slotC M sp ts sl sx) (sp * 16384 + cn)) hx hb hr hlocks rfl (⟨fun h9 => absurd h9 (fun h9 : ∃ i, i < cn ∧ ts i = sx => h9.elim (fun i q => slot_free hT.2.2.1 hT.r (by omega) c13_2 i q.1 q.2)), fun _ => ⟨fun h9 => absurd h9 (by omega), fun _ => ⟨rfl, _, _, _, _, _, _, _, _, _, _, _, rfl, (if_pos c39_4).symm, TI_new hT hsx ho c39_4 c13_2, fun i hi => ⟨upN_n (by omega), upN_n (by omega)⟩, upN_s, upN_s⟩⟩⟩) hP hK hD hS dX3_take_103
      · have c39_4 : ¬ (cn < L) := fun h9 => c39_4 ((nI_ltI (a := cn) (b := L) (by omega) (by omega)).mpr h9)
        exact (hng.elim (fun q => q.elim (fun i q => slot_free hT.2.2.1 hT.r (by omega) c13_2 i q.1 q.2)) (fun q => by omega)).elim
    · have c25_3 : ¬ (cn < 12000) := fun h9 => c25_3 ((nI_ltI (a := cn) (b := 12000) (by omega) (by omega)).mpr h9)
      refine lv_iconst (v := nI 0) hx hb dX3_take_28 (by decide) ?_
      subst hQ
      exact rwz (wb, wc, wd, kw0, kw1, kw2, L, M, sp, cn, en, ge, be, tl, ts, og, sl) hx hb hr hlocks rfl (⟨fun h9 => absurd h9 (fun h9 : ∃ i, i < cn ∧ ts i = sx => h9.elim (fun i q => slot_free hT.2.2.1 hT.r (by omega) c13_2 i q.1 q.2)), fun _ => ⟨fun _ => ⟨rfl, rfl⟩, fun h9 => absurd h9 (by omega)⟩⟩) hP hK hD hS dX3_take_29
  · have c13_2 : sl (slotC M sp ts sl sx) / 16384 = sp := bP_t c13_2
    refine lv_iconst (v := nI 1) hx hb dX3_take_16 (by decide) ?_
    subst hQ
    exact rwz (wb, wc, wd, kw0, kw1, kw2, L, M, sp, cn, en, ge, be, tl, ts, og, sl) hx hb hr hlocks rfl (⟨fun _ => ⟨rfl, rfl⟩, fun h9 => absurd (slot_taken hT.2.2.1 hT.r c13_2) h9⟩) hP hK hD hS dX3_take_17

set_option maxHeartbeats 4000000 in
set_option maxRecDepth 100000 in
theorem c_X3_takeG (l : Launch) (D : va_G) (wa wb wc wd : Nat) (kw0 kw1 kw2 : ClassId) (L M sp cn en ge be tl : Nat) (ts og sl : Nat → Nat) (sz : Nat) (sx : Nat) (o : Nat) (hL7 : L = 700) (hM7 : M = 1024) (hT : TI L M sp cn ts og sl) (hsx : sx < 2 ^ 44) (ho : o < 2147483648) (habs : ∀ i, i < cn → ¬ ts i = sx) (hc7 : cn = 700) : Met l yX3_take (.code yX3_take cX3_take 5 (some .boolean) :: wsL_law) ({ frames := 3, cells := 3, slots := 40384, locals := 67 }) (va_Pc [.ref wa, .long (lN sx), .int (nI o)] (PW D (wW wa wb wc wd kw0 kw1 kw2 L M sp cn en ge be tl ts og sl) (wT kw0 kw1 kw2) sz)) (va_Qi (fun (r : Int32) (u : WSt) => takPost wb wc wd kw0 kw1 kw2 L M sp cn en ge be tl ts og sl sx o r u) (QW D (fun u : WSt => wW wa u.1 u.2.1 u.2.2.1 u.2.2.2.1 u.2.2.2.2.1 u.2.2.2.2.2.1 u.2.2.2.2.2.2.1 u.2.2.2.2.2.2.2.1 u.2.2.2.2.2.2.2.2.1 u.2.2.2.2.2.2.2.2.2.1 u.2.2.2.2.2.2.2.2.2.2.1 u.2.2.2.2.2.2.2.2.2.2.2.1 u.2.2.2.2.2.2.2.2.2.2.2.2.1 u.2.2.2.2.2.2.2.2.2.2.2.2.2.1 u.2.2.2.2.2.2.2.2.2.2.2.2.2.2.1 u.2.2.2.2.2.2.2.2.2.2.2.2.2.2.2.1 u.2.2.2.2.2.2.2.2.2.2.2.2.2.2.2.2) (fun u : WSt => wT u.2.2.2.1 u.2.2.2.2.1 u.2.2.2.2.2.1) (va_A (wW wa wb wc wd kw0 kw1 kw2 L M sp cn en ge be tl ts og sl) sz)) (va_A (wW wa wb wc wd kw0 kw1 kw2 L M sp cn en ge be tl ts og sl) sz)) 3 40384 (va_A (wW wa wb wc wd kw0 kw1 kw2 L M sp cn en ge be tl ts og sl) sz) := by
  subst hL7
  subst hM7
  refine Met.ofW (cc := cX3_take) (maxL := 5) (ret := (some .boolean)) (by decide) rfl ?_
  intro p e s m args below meth c s₁ B hml hv
  obtain ⟨rfl, hsz, hP, hK, hD0⟩ := hv
  have hx := B.exec
  have hb := B.bytes
  have hr := B.returns
  have hts := atoms_spec (ws := .code yX3_take cX3_take 5 (some .boolean) :: wsL_law) B.pre
  have hU : ∀ w ∈ wsL_law, w.before _ s = true := fun w h => hts w (List.mem_cons_of_mem _ h)
  have hown : s.vm.findClass RX3 = some m.cls := findClass_of_methodNamed B.named
  have hlocks := B.notSynchronized
  subst hsz
  have hD := hD0.self (sz := s.heap.size)
  generalize hAe : va_A (wW wa wb wc wd kw0 kw1 kw2 700 1024 sp cn en ge be tl ts og sl) s.heap.size = Ar at hD ⊢
  have hA : ∀ q : Nat, s.heap.size ≤ q → Ar q := fun q h => by rw [← hAe]; exact Or.inr h
  have hS : va_S Ar s.heap s.heap [] := va_S.rf
  have hP : va_P D vwCl [(wa, .inr (3, [.ref wb, .ref wc, .ref wd, .int (nI sp), .int (nI cn), .int (nI en), .int (nI ge), .int (nI be), .int (nI tl)])), (wb, .inl (kw0, 700, .inr (.inl (lA ts)))), (wc, .inl (kw1, 700, .inl (nA og))), (wd, .inl (kw2, 1024, .inl (nA sl)))] s.heap := hP
  have hD : va_D Ar [(wa, .inr (3, [.ref wb, .ref wc, .ref wd, .int (nI sp), .int (nI cn), .int (nI en), .int (nI ge), .int (nI be), .int (nI tl)])), (wb, .inl (kw0, 700, .inr (.inl (lA ts)))), (wc, .inl (kw1, 700, .inl (nA og))), (wd, .inl (kw2, 1024, .inl (nA sl)))] := hD
  generalize hQ : MQ _ _ _ _ _ _ _ = Q
  have hl := lv_entry ([.ref wa, .long (lN sx), .int (nI o)]) (n := 5) (Nat.le_of_ble_eq_true rfl)
  rw [lg_entry_eq]
  generalize (lg_sl ([.ref wa, .long (lN sx), .int (nI o)]) ++ List.replicate (5 - (lg_sl ([.ref wa, .long (lN sx), .int (nI o)])).length) Slot.unset).toArray = ls at hl ⊢
  have hl : lv_has ls 5 [(0, .ref wa), (1, .long (lN sx)), (3, .int (nI o))] := hl
  have hsp9 := hT.2.2.2.2.2.2.2.2.1
  have hcl9 := hT.2.1
  have hLM9 := hT.1
  refine lv_aload_n hx hb dX3_take_0 rfl (lv_at hl 0 rfl) ?_
  refine lv_lload_n hx hb dX3_take_1 rfl (lv_at hl 1 rfl) ?_
  refine cVi (As := [.long (lN sx)]) (rest := []) ⟨hx, hb, hml, hown, hts⟩ (c_X3_slotOf l D wa wb wc wd kw0 kw1 kw2 700 1024 sp cn en ge be tl ts og sl sx (hT.M) (hT.2.2.2.2.2.2.1) (by omega) (hT.2.2.2.2.1) (hT.ix) (by omega) (by omega)) (cwV 1 hts (gV mU_353 mU_354 mU_355 mU_31 mU_356) rfl rfl rfl (by decide +kernel) ⟨Nat.le_of_ble_eq_true rfl, Nat.le_of_ble_eq_true rfl⟩) fbR (va_recv hK hP (ci := 3) (q0 := 0) rfl rfl) (PR.of hP hK) rfl hl.1 rfl (Nat.le_of_ble_eq_true rfl) dX3_take_2 ⟨by decide, by decide⟩ ?_
  have hf_1 : slotC 1024 sp ts sl sx < 1024 := slotC_lt (by omega)
  refine lv_istore (lv' := [(4, .int (nI (slotC 1024 sp ts sl sx))), (0, .ref wa), (1, .long (lN sx)), (3, .int (nI o))]) hx hb dX3_take_5 hl (by decide) rfl (fun ls hl => ?_)
  refine lv_aload_n hx hb dX3_take_7 rfl (lv_at hl 1 rfl) ?_
  refine lv_iload hx hb dX3_take_8 (lv_at hl 0 rfl) ?_
  refine cVi (As := [.int (nI (slotC 1024 sp ts sl sx))]) (rest := []) ⟨hx, hb, hml, hown, hts⟩ (c_X3_isTaken l D wa wb wc wd kw0 kw1 kw2 700 1024 sp cn en ge be tl ts og sl (slotC 1024 sp ts sl sx) (by omega) (hT.M) (hT.2.2.2.2.2.2.1) (by omega)) (cwV 1 hts (gV mU_358 mU_359 mU_360 mU_31 mU_361) rfl rfl rfl (by decide +kernel) ⟨Nat.le_of_ble_eq_true rfl, Nat.le_of_ble_eq_true rfl⟩) fbR (va_recv hK hP (ci := 3) (q0 := 0) rfl rfl) (PR.of hP hK) rfl hl.1 rfl (Nat.le_of_ble_eq_true rfl) dX3_take_10 ⟨by decide, by decide⟩ ?_
  refine lv_if_eq (tgt := 18) hx hb dX3_take_13 (by decide) (fun c13_2 => ?_) (fun c13_2 => ?_)
  · have c13_2 : ¬ (sl (slotC 1024 sp ts sl sx) / 16384 = sp) := bP_f c13_2
    refine lv_aload_n hx hb dX3_take_18 rfl (lv_at hl 1 rfl) ?_
    refine va_get (D := D) (ci := 3) (v := .int (nI cn)) (C := RX3) (T := TX3) (N := 9) hx hb hU iX3 hown hK hP 0 rfl rfl 4 (by decide) (hU _ mU_66) (fun _ h9 => h9) rfl dX3_take_19 ?_
    refine lv_sipush (v := nI 12000) hx hb dX3_take_22 (by decide) ?_
    refine lv_icmp_lt (tgt := 30) hx hb dX3_take_25 (by decide) (fun c25_3 => ?_) (fun c25_3 => ?_)
    · have c25_3 : cn < 12000 := (nI_ltI (a := cn) (b := 12000) (by omega) (by omega)).mp c25_3
      refine lv_aload_n hx hb dX3_take_30 rfl (lv_at hl 1 rfl) ?_
      refine va_get (D := D) (ci := 3) (v := .int (nI cn)) (C := RX3) (T := TX3) (N := 9) hx hb hU iX3 hown hK hP 0 rfl rfl 4 (by decide) (hU _ mU_66) (fun _ h9 => h9) rfl dX3_take_31 ?_
      refine lv_aload_n hx hb dX3_take_34 rfl (lv_at hl 1 rfl) ?_
      refine va_get (D := D) (ci := 3) (v := .ref wb) (C := RX3) (T := TX3) (N := 9) hx hb hU iX3 hown hK hP 0 rfl rfl 0 (by decide) (hU _ mU_62) (fun _ h9 => h9) rfl dX3_take_35 ?_
      refine va_alen (v := nI 700) hx hb hK hP 1 0 rfl rfl rfl dX3_take_38 ?_
      refine lv_icmp_lt (tgt := 53) hx hb dX3_take_39 (by decide) (fun c39_4 => ?_) (fun c39_4 => ?_)
      · have c39_4 : cn < 700 := (nI_ltI (a := cn) (b := 700) (by omega) (by omega)).mp c39_4
        exfalso; omega
      · have c39_4 : ¬ (cn < 700) := fun h9 => c39_4 ((nI_ltI (a := cn) (b := 700) (by omega) (by omega)).mpr h9)
        refine lv_aload_n hx hb dX3_take_42 rfl (lv_at hl 1 rfl) ?_
        refine kVv (As := []) (rest := []) (wr := []) ⟨hx, hb, hml, hown, hts⟩ (c_X3_makeLongRows l D wa wb wc wd kw0 kw1 kw2 700 1024 sp cn en ge be tl ts og sl s.heap.size  (rfl) (rfl) (hT)) (cwV 0 hts (gV mU_362 mU_363 mU_364 mU_31 mU_365) rfl rfl rfl (by decide +kernel) ⟨Nat.le_of_ble_eq_true rfl, Nat.le_of_ble_eq_true rfl⟩) (va_recv hK hP (ci := 3) (q0 := 0) rfl rfl) hP hK hD hS hA [0, 1, 2, 3] [] [0, 1, 2] [] rfl rfl rfl rfl (by decide) rfl rfl rfl hl.1 rfl (Nat.le_of_ble_eq_true rfl) dX3_take_43 ⟨by decide, by decide⟩ (fun u H locs hw hP hD hK hS => ?_)
        obtain ⟨wb5, wc5, wd5, ka5, kb5, kc5, sl5, hu, hT5⟩ := hw
        subst hu
        have hP := hP.sub (ws' := [(wa, .inr (3, [.ref wb5, .ref wc5, .ref wd5, .int (nI sp), .int (nI cn), .int (nI en), .int (nI ge), .int (nI be), .int (nI tl)])), (wb5, .inl (ka5, 12000, .inr (.inl (lA (cp7 ts))))), (wc5, .inl (kb5, 12000, .inl (nA (cp7 og)))), (wd5, .inl (kc5, 16384, .inl (nA sl5)))]) [0, 1, 2, 3] rfl
        have hD := hD.sub (ws' := [(wa, .inr (3, [.ref wb5, .ref wc5, .ref wd5, .int (nI sp), .int (nI cn), .int (nI en), .int (nI ge), .int (nI be), .int (nI tl)])), (wb5, .inl (ka5, 12000, .inr (.inl (lA (cp7 ts))))), (wc5, .inl (kb5, 12000, .inl (nA (cp7 og)))), (wd5, .inl (kc5, 16384, .inl (nA sl5)))]) [0, 1, 2, 3] rfl rfl
        have hK : va_K D vwCl [(ka5, .long), (kb5, .int), (kc5, .int)] s := hK.sub [0, 1, 2] rfl
        refine lv_aload_n hx hb dX3_take_46 rfl (lv_at hl 1 rfl) ?_
        refine lv_lload_n hx hb dX3_take_47 rfl (lv_at hl 2 rfl) ?_
        refine cVi (As := [.long (lN sx)]) (rest := []) ⟨hx, hb, hml, hown, hts⟩ (c_X3_slotOf l D wa wb5 wc5 wd5 ka5 kb5 kc5 12000 16384 sp cn en ge be tl (cp7 ts) (cp7 og) sl5 sx (hT5.M) (hT5.2.2.2.2.2.2.1) (by omega) (hT5.2.2.2.2.1) (hT5.ix) (by omega) (by omega)) (cwV 1 hts (gV mU_353 mU_354 mU_355 mU_31 mU_356) rfl rfl rfl (by decide +kernel) ⟨Nat.le_of_ble_eq_true rfl, Nat.le_of_ble_eq_true rfl⟩) fbR (va_recv hK hP (ci := 3) (q0 := 0) rfl rfl) (PR.of hP hK) rfl hl.1 rfl (Nat.le_of_ble_eq_true rfl) dX3_take_48 ⟨by decide, by decide⟩ ?_
        have hf_7 : slotC 16384 sp (cp7 ts) sl5 sx < 16384 := slotC_lt (by omega)
        refine lv_istore (lv' := [(4, .int (nI (slotC 16384 sp (cp7 ts) sl5 sx))), (0, .ref wa), (1, .long (lN sx)), (3, .int (nI o))]) hx hb dX3_take_51 hl (by decide) rfl (fun ls hl => ?_)
        have hnt : ¬ tkn sp sl5 (slotC 16384 sp (cp7 ts) sl5 sx) := fun q => (slot_taken hT5.2.2.1 hT5.r q).elim (fun i q => absurd ((cp7_lt (by omega)).symm.trans q.2) (habs i q.1))
        refine lv_aload_n hx hb dX3_take_53 rfl (lv_at hl 1 rfl) ?_
        refine va_get (D := D) (ci := 3) (v := .ref wb5) (C := RX3) (T := TX3) (N := 9) hx hb hU iX3 hown hK hP 0 rfl rfl 0 (by decide) (hU _ mU_62) (fun _ h9 => h9) rfl dX3_take_54 ?_
        refine lv_aload_n hx hb dX3_take_57 rfl (lv_at hl 1 rfl) ?_
        refine va_get (D := D) (ci := 3) (v := .int (nI cn)) (C := RX3) (T := TX3) (N := 9) hx hb hU iX3 hown hK hP 0 rfl rfl 4 (by decide) (hU _ mU_66) (fun _ h9 => h9) rfl dX3_take_58 ?_
        refine lv_lload_n hx hb dX3_take_61 rfl (lv_at hl 2 rfl) ?_
        refine n_last hx hb hK hP hD hS 1 0 rfl rfl (i := cn) (v := sx) (by omega) (by decide) dX3_take_62 (fun H locs hP hD hS => ?_)
        have hP : va_P D vwCl [(wa, .inr (3, [.ref wb5, .ref wc5, .ref wd5, .int (nI sp), .int (nI cn), .int (nI en), .int (nI ge), .int (nI be), .int (nI tl)])), (wb5, .inl (ka5, 12000, .inr (.inl (lA (upN (cp7 ts) cn sx))))), (wc5, .inl (kb5, 12000, .inl (nA (cp7 og)))), (wd5, .inl (kc5, 16384, .inl (nA sl5)))] H := hP
        have hD : va_D Ar [(wa, .inr (3, [.ref wb5, .ref wc5, .ref wd5, .int (nI sp), .int (nI cn), .int (nI en), .int (nI ge), .int (nI be), .int (nI tl)])), (wb5, .inl (ka5, 12000, .inr (.inl (lA (upN (cp7 ts) cn sx))))), (wc5, .inl (kb5, 12000, .inl (nA (cp7 og)))), (wd5, .inl (kc5, 16384, .inl (nA sl5)))] := hD
        refine lv_aload_n hx hb dX3_take_63 rfl (lv_at hl 1 rfl) ?_
        refine va_get (D := D) (ci := 3) (v := .ref wc5) (C := RX3) (T := TX3) (N := 9) hx hb hU iX3 hown hK hP 0 rfl rfl 1 (by decide) (hU _ mU_63) (fun _ h9 => h9) rfl dX3_take_64 ?_
        refine lv_aload_n hx hb dX3_take_67 rfl (lv_at hl 1 rfl) ?_
        refine va_get (D := D) (ci := 3) (v := .int (nI cn)) (C := RX3) (T := TX3) (N := 9) hx hb hU iX3 hown hK hP 0 rfl rfl 4 (by decide) (hU _ mU_66) (fun _ h9 => h9) rfl dX3_take_68 ?_
        refine lv_iload_n hx hb dX3_take_71 rfl (lv_at hl 3 rfl) ?_
        refine n_iast hx hb hK hP hD hS 2 1 rfl rfl (i := cn) (v := o) (by omega) (by decide) dX3_take_72 (fun H locs hP hD hS => ?_)
        have hP : va_P D vwCl [(wa, .inr (3, [.ref wb5, .ref wc5, .ref wd5, .int (nI sp), .int (nI cn), .int (nI en), .int (nI ge), .int (nI be), .int (nI tl)])), (wb5, .inl (ka5, 12000, .inr (.inl (lA (upN (cp7 ts) cn sx))))), (wc5, .inl (kb5, 12000, .inl (nA (upN (cp7 og) cn o)))), (wd5, .inl (kc5, 16384, .inl (nA sl5)))] H := hP
        have hD : va_D Ar [(wa, .inr (3, [.ref wb5, .ref wc5, .ref wd5, .int (nI sp), .int (nI cn), .int (nI en), .int (nI ge), .int (nI be), .int (nI tl)])), (wb5, .inl (ka5, 12000, .inr (.inl (lA (upN (cp7 ts) cn sx))))), (wc5, .inl (kb5, 12000, .inl (nA (upN (cp7 og) cn o)))), (wd5, .inl (kc5, 16384, .inl (nA sl5)))] := hD
        refine lv_aload_n hx hb dX3_take_73 rfl (lv_at hl 1 rfl) ?_
        refine va_get (D := D) (ci := 3) (v := .ref wd5) (C := RX3) (T := TX3) (N := 9) hx hb hU iX3 hown hK hP 0 rfl rfl 2 (by decide) (hU _ mU_64) (fun _ h9 => h9) rfl dX3_take_74 ?_
        refine lv_iload hx hb dX3_take_77 (lv_at hl 0 rfl) ?_
        refine lv_aload_n hx hb dX3_take_79 rfl (lv_at hl 1 rfl) ?_
        refine va_get (D := D) (ci := 3) (v := .int (nI sp)) (C := RX3) (T := TX3) (N := 9) hx hb hU iX3 hown hK hP 0 rfl rfl 3 (by decide) (hU _ mU_65) (fun _ h9 => h9) rfl dX3_take_80 ?_
        refine lv_bipush (v := nI 14) hx hb dX3_take_83 (by decide) ?_
        refine lv_ishl hx hb dX3_take_85 ?_
        refine lv_topE (nI (sp * 16384)) (pk_shlN _ 14 (z_s32 14 (by decide)) (by omega)) ?_
        refine lv_aload_n hx hb dX3_take_86 rfl (lv_at hl 1 rfl) ?_
        refine va_get (D := D) (ci := 3) (v := .int (nI cn)) (C := RX3) (T := TX3) (N := 9) hx hb hU iX3 hown hK hP 0 rfl rfl 4 (by decide) (hU _ mU_66) (fun _ h9 => h9) rfl dX3_take_87 ?_
        refine lv_ior hx hb dX3_take_90 ?_
        refine lv_topE (nI (sp * 16384 + cn)) (z_or14 (by omega)) ?_
        refine n_iast hx hb hK hP hD hS 3 2 rfl rfl (i := slotC 16384 sp (cp7 ts) sl5 sx) (v := sp * 16384 + cn) (by omega) (by decide) dX3_take_91 (fun H locs hP hD hS => ?_)
        have hP : va_P D vwCl [(wa, .inr (3, [.ref wb5, .ref wc5, .ref wd5, .int (nI sp), .int (nI cn), .int (nI en), .int (nI ge), .int (nI be), .int (nI tl)])), (wb5, .inl (ka5, 12000, .inr (.inl (lA (upN (cp7 ts) cn sx))))), (wc5, .inl (kb5, 12000, .inl (nA (upN (cp7 og) cn o)))), (wd5, .inl (kc5, 16384, .inl (nA (upN sl5 (slotC 16384 sp (cp7 ts) sl5 sx) (sp * 16384 + cn)))))] H := hP
        have hD : va_D Ar [(wa, .inr (3, [.ref wb5, .ref wc5, .ref wd5, .int (nI sp), .int (nI cn), .int (nI en), .int (nI ge), .int (nI be), .int (nI tl)])), (wb5, .inl (ka5, 12000, .inr (.inl (lA (upN (cp7 ts) cn sx))))), (wc5, .inl (kb5, 12000, .inl (nA (upN (cp7 og) cn o)))), (wd5, .inl (kc5, 16384, .inl (nA (upN sl5 (slotC 16384 sp (cp7 ts) sl5 sx) (sp * 16384 + cn)))))] := hD
        refine lv_aload_n hx hb dX3_take_92 rfl (lv_at hl 1 rfl) ?_
        refine lv_dup hx hb dX3_take_93 rfl ?_
        refine va_get (D := D) (ci := 3) (v := .int (nI cn)) (C := RX3) (T := TX3) (N := 9) hx hb hU iX3 hown hK hP 0 rfl rfl 4 (by decide) (hU _ mU_66) (fun _ h9 => h9) rfl dX3_take_94 ?_
        refine lv_iconst (v := nI 1) hx hb dX3_take_97 (by decide) ?_
        refine lv_iadd hx hb dX3_take_98 ?_
        refine lv_topE (nI (cn + 1)) (nI_add _ _) ?_
        refine va_put (D := D) (ci := 3) (v := .int (nI (cn + 1))) (ty := .int) (C := RX3) (T := TX3) (N := 9) hx hb hU iX3 tyX3 tyX3_ok nmX3 hown hK hP hD hS 0 rfl rfl 4 (by decide) (hU _ mU_66) (fun _ h9 => h9) rfl (by decide +kernel) rfl rfl (Nat.le_of_ble_eq_true rfl) dX3_take_99 (fun H locs hP hD hS => ?_)
        have hP : va_P D vwCl [(wa, .inr (3, [.ref wb5, .ref wc5, .ref wd5, .int (nI sp), .int (nI (cn + 1)), .int (nI en), .int (nI ge), .int (nI be), .int (nI tl)])), (wb5, .inl (ka5, 12000, .inr (.inl (lA (upN (cp7 ts) cn sx))))), (wc5, .inl (kb5, 12000, .inl (nA (upN (cp7 og) cn o)))), (wd5, .inl (kc5, 16384, .inl (nA (upN sl5 (slotC 16384 sp (cp7 ts) sl5 sx) (sp * 16384 + cn)))))] H := hP
        have hD : va_D Ar [(wa, .inr (3, [.ref wb5, .ref wc5, .ref wd5, .int (nI sp), .int (nI (cn + 1)), .int (nI en), .int (nI ge), .int (nI be), .int (nI tl)])), (wb5, .inl (ka5, 12000, .inr (.inl (lA (upN (cp7 ts) cn sx))))), (wc5, .inl (kb5, 12000, .inl (nA (upN (cp7 og) cn o)))), (wd5, .inl (kc5, 16384, .inl (nA (upN sl5 (slotC 16384 sp (cp7 ts) sl5 sx) (sp * 16384 + cn)))))] := hD
        refine lv_iconst (v := nI 1) hx hb dX3_take_102 (by decide) ?_
        subst hQ
        refine W.widen (k := 3) (n := 40384) (by omega) (by omega) ?_
        exact rwz (wb5, wc5, wd5, ka5, kb5, kc5, 12000, 16384, sp, cn + 1, en, ge, be, tl, upN (cp7 ts) cn sx, upN (cp7 og) cn o, upN sl5 (slotC 16384 sp (cp7 ts) sl5 sx) (sp * 16384 + cn)) hx hb hr hlocks rfl (⟨fun h9 => absurd h9 (fun h9 : ∃ i, i < cn ∧ ts i = sx => h9.elim (fun i q => slot_free hT.2.2.1 hT.r (by omega) c13_2 i q.1 q.2)), fun _ => ⟨fun h9 => absurd h9 (by omega), fun _ => ⟨rfl, _, _, _, _, _, _, _, _, _, _, _, rfl, (if_neg c39_4).symm, TI_new hT5 hsx ho (by omega) hnt, fun i hi => ⟨(upN_n (by omega)).trans (cp7_lt (by omega)), (upN_n (by omega)).trans (cp7_lt (by omega))⟩, upN_s, upN_s⟩⟩⟩) hP hK hD hS dX3_take_103
    · have c25_3 : ¬ (cn < 12000) := fun h9 => c25_3 ((nI_ltI (a := cn) (b := 12000) (by omega) (by omega)).mpr h9)
      exfalso; omega
  · have c13_2 : sl (slotC 1024 sp ts sl sx) / 16384 = sp := bP_t c13_2
    exact (slot_taken hT.2.2.1 hT.r c13_2).elim (fun i q => absurd q.2 (habs i q.1))

theorem z_s32 : ∀ n, n < 32 → ((nI n &&& 31).toBitVec.smod 32).toNat = n := by decide +kernel
theorem z_shr32 {n w : Nat} (hn : n < 2 ^ 31) (hw : w < 32) : nI n >>> (nI w &&& 31) = nI (n / 2 ^ w) := pk_shrN hn _ w (z_s32 w hw)
abbrev askedM (va se x w : Nat) : Prop := se / 2 ^ w % 2 = 0 ∨ bitsN x (2 * w) 2 = va / 2 ^ (2 * w) % 4
abbrev isGoodM (mf : Nat) (g : Nat → Nat → Nat) (x : Nat) : Prop := bitsN x 44 4 = 0 ∧ bitsN x 16 3 = g 1 2 ∧ bitsN x 19 3 = g 1 3 ∧ isEndM mf g x
def endM (mf : Nat) (g : Nat → Nat → Nat) (va se x : Nat) : Bool := decide (isGoodM mf g x) && ((List.range 4).all (fun w => decide (askedM va se x w)))
theorem endM_iff {mf : Nat} {g : Nat → Nat → Nat} {va se x : Nat} : endM mf g va se x = true ↔ (isGoodM mf g x ∧ ∀ w, w < 4 → askedM va se x w) := by
  unfold endM
  rw [Bool.and_eq_true, decide_eq_true_iff, List.all_eq_true]
  constructor
  · intro ⟨a, b⟩
    exact ⟨a, fun w hw => of_decide_eq_true (b w (List.mem_range.mpr hw))⟩
  · intro ⟨a, b⟩
    exact ⟨a, fun w hw => decide_eq_true (b w (List.mem_range.mp hw))⟩
theorem endM_t {mf : Nat} {g : Nat → Nat → Nat} {va se x : Nat} (h : isGoodM mf g x ∧ ∀ w, w < 4 → askedM va se x w) : endM mf g va se x = true := endM_iff.mpr h
theorem endM_f {mf : Nat} {g : Nat → Nat → Nat} {va se x : Nat} (h : ¬ (isGoodM mf g x ∧ ∀ w, w < 4 → askedM va se x w)) : endM mf g va se x = false := by
  cases e : endM mf g va se x with
  | false => rfl
  | true => exact absurd (endM_iff.mp e) h
/-- the first place below n that is as asked; 4294967295 (-1) if there is none -/
def findN (P : Nat → Bool) (n : Nat) : Nat := match (List.range n).find? P with
  | some i => i
  | none => 4294967295
theorem findN_no {P : Nat → Bool} {n : Nat} (h : ∀ j, j < n → P j = false) : findN P n = 4294967295 := by
  unfold findN
  have : (List.range n).find? P = none := List.find?_eq_none.mpr (fun x hx => by rw [h x (List.mem_range.mp hx)]; decide)
  rw [this]
theorem findN_at {P : Nat → Bool} {n i : Nat} (hi : i < n) (h : ∀ j, j < i → P j = false) (hP : P i = true) : findN P n = i := by
  unfold findN
  have : (List.range n).find? P = some i := List.find?_range_eq_some.mpr ⟨hP, List.mem_range.mpr hi, fun j hj => by rw [h j hj]; rfl⟩
  rw [this]
set_option maxHeartbeats 4000000 in
set_option maxRecDepth 100000 in
theorem c_X5_stepOf (l : Launch) (D : va_G) (ad : Nat → Nat) (ka : Nat → ClassId) (f : Nat → Nat) (g : Nat → Nat → Nat) (t : Nat → Nat) (sx : Nat) (ki : Nat) (hg : ∀ a, a < 6 → ∀ i, g a i < 2147483648) (hL : okL g) (hwf : wfM g sx) (hf5 : f 5 < 2) (hki : ki < 10) : Met l yX5_stepOf (.code yX5_stepOf cX5_stepOf 4 (some .long) :: wsL_law) ({ frames := 4, cells := 0, slots := 0, locals := 102 }) (va_Pc [.ref (ad 0), .long (lN sx), .int (nI ki)] (PR D (mW ad ka f g t) (mT ka))) (QrL (eO (stepM (f 5) g sx ki))) 0 0 (fun _ => False) := by
  refine Met.ofW (cc := cX5_stepOf) (maxL := 4) (ret := (some .long)) (by decide) rfl ?_
  intro p e s m args below meth c s₁ B hml hv
  obtain ⟨rfl, hP, hK⟩ := hv
  have hx := B.exec
  have hb := B.bytes
  have hr := B.returns
  have hts := atoms_spec (ws := .code yX5_stepOf cX5_stepOf 4 (some .long) :: wsL_law) B.pre
  have hU : ∀ w ∈ wsL_law, w.before _ s = true := fun w h => hts w (List.mem_cons_of_mem _ h)
  have hown : s.vm.findClass RX5 = some m.cls := findClass_of_methodNamed B.named
  have hlocks := B.notSynchronized
  generalize hQ : MQ _ _ _ _ _ _ _ = Q
  have hl := lv_entry ([.ref (ad 0), .long (lN sx), .int (nI ki)]) (n := 4) (Nat.le_of_ble_eq_true rfl)
  rw [lg_entry_eq]
  generalize (lg_sl ([.ref (ad 0), .long (lN sx), .int (nI ki)]) ++ List.replicate (4 - (lg_sl ([.ref (ad 0), .long (lN sx), .int (nI ki)])).length) Slot.unset).toArray = ls at hl ⊢
  have hl : lv_has ls 4 [(0, .ref (ad 0)), (1, .long (lN sx)), (3, .int (nI ki))] := hl
  have hsx := hwf.1
  refine lv_iload_n hx hb dX5_stepOf_0 rfl (lv_at hl 2 rfl) ?_
  refine lv_iconst (v := nI 2) hx hb dX5_stepOf_1 (by decide) ?_
  refine lv_icmp_ge (tgt := 12) hx hb dX5_stepOf_2 (by decide) (fun c2_1 => ?_) (fun c2_1 => ?_)
  · have c2_1 : 2 ≤ ki := (nI_leI (a := 2) (b := ki) (by omega) (by omega)).mp c2_1
    refine lv_iload_n hx hb dX5_stepOf_12 rfl (lv_at hl 2 rfl) ?_
    refine lv_iconst (v := nI 5) hx hb dX5_stepOf_13 (by decide) ?_
    refine lv_icmp_ge (tgt := 27) hx hb dX5_stepOf_14 (by decide) (fun c14_2 => ?_) (fun c14_2 => ?_)
    · have c14_2 : 5 ≤ ki := (nI_leI (a := 5) (b := ki) (by omega) (by omega)).mp c14_2
      refine lv_iload_n hx hb dX5_stepOf_27 rfl (lv_at hl 2 rfl) ?_
      refine lv_bipush (v := nI 8) hx hb dX5_stepOf_28 (by decide) ?_
      refine lv_icmp_ge (tgt := 43) hx hb dX5_stepOf_30 (by decide) (fun c30_3 => ?_) (fun c30_3 => ?_)
      · have c30_3 : 8 ≤ ki := (nI_leI (a := 8) (b := ki) (by omega) (by omega)).mp c30_3
        refine lv_aload_n hx hb dX5_stepOf_43 rfl (lv_at hl 0 rfl) ?_
        refine va_get (D := D) (ci := 5) (v := .int (nI (f 5))) (C := RX5) (T := TX5) (N := 23) hx hb hU iX5 hown hK hP 0 rfl rfl 5 (by decide) (hU _ mU_320) (fun _ h9 => h9) rfl dX5_stepOf_44 ?_
        refine lv_if_eq (tgt := 74) hx hb dX5_stepOf_47 (by decide) (fun c47_4 => ?_) (fun c47_4 => ?_)
        · have c47_4 : f 5 = 0 := (nI_eqG (a := f 5) (b := 0) (by omega) (by omega)).mp c47_4
          refine lv_ldc2 (v := (-1)) hx hb hown (hU _ mU_483) dX5_stepOf_74 ?_
          subst hQ
          exact rtl hx hb hr hlocks rfl (by first | (unfold stepM; (try first | rw [if_pos c2_1] | rw [if_neg c2_1]); (try first | rw [if_pos c14_2] | rw [if_neg c14_2]); (try first | rw [if_pos c30_3] | rw [if_neg c30_3]); (try first | rw [if_pos c47_4] | rw [if_neg c47_4]); (try rfl); done) | (exfalso; omega)) dX5_stepOf_77
        · have c47_4 : ¬ (f 5 = 0) := fun h9 => c47_4 ((nI_eqG (a := f 5) (b := 0) (by omega) (by omega)).mpr h9)
          refine lv_lload_n hx hb dX5_stepOf_50 rfl (lv_at hl 1 rfl) ?_
          refine lv_bipush (v := nI 46) hx hb dX5_stepOf_51 (by decide) ?_
          refine lv_iconst (v := nI 2) hx hb dX5_stepOf_53 (by decide) ?_
          refine cSi (As := [.long (lN sx), .int (nI 46), .int (nI 2)]) (rest := []) ⟨hx, hb, hml, hown, hts⟩ (c_X5_bits l  sx 46 2 (by omega) (by omega) (by omega)) (va_cwS 3 hts (gS mU_503 mU_504 mU_6 mU_505) rfl rfl rfl (by decide +kernel) ⟨Nat.le_of_ble_eq_true rfl, Nat.le_of_ble_eq_true rfl⟩) fbU (fun _ _ _ => trivial) rfl hl.1 rfl (Nat.le_of_ble_eq_true rfl) dX5_stepOf_54 ⟨Nat.zero_le _, Nat.zero_le _⟩ ?_
          have hf_5 : bitsN sx 46 2 < 2 ^ 2 := bitsN_lt _ _ _
          refine lv_if_ne (tgt := 74) hx hb dX5_stepOf_57 (by decide) (fun c57_6 => ?_) (fun c57_6 => ?_)
          · have c57_6 : ¬ (bitsN sx 46 2 = 0) := fun h9 => c57_6 ((nI_eqG (a := bitsN sx 46 2) (b := 0) (by omega) (by omega)).mpr h9)
            refine lv_ldc2 (v := (-1)) hx hb hown (hU _ mU_483) dX5_stepOf_74 ?_
            subst hQ
            exact rtl hx hb hr hlocks rfl (by first | (unfold stepM; (try first | rw [if_pos c2_1] | rw [if_neg c2_1]); (try first | rw [if_pos c14_2] | rw [if_neg c14_2]); (try first | rw [if_pos c30_3] | rw [if_neg c30_3]); (try first | rw [if_pos c47_4] | rw [if_neg c47_4]); (try first | rw [if_pos c57_6] | rw [if_neg c57_6]); (try rfl); done) | (exfalso; omega)) dX5_stepOf_77
          · have c57_6 : bitsN sx 46 2 = 0 := (nI_eqG (a := bitsN sx 46 2) (b := 0) (by omega) (by omega)).mp c57_6
            refine lv_lload_n hx hb dX5_stepOf_60 rfl (lv_at hl 1 rfl) ?_
            refine lv_bipush (v := nI 46) hx hb dX5_stepOf_61 (by decide) ?_
            refine lv_iconst (v := nI 2) hx hb dX5_stepOf_63 (by decide) ?_
            refine lv_iload_n hx hb dX5_stepOf_64 rfl (lv_at hl 2 rfl) ?_
            refine lv_bipush (v := nI 7) hx hb dX5_stepOf_65 (by decide) ?_
            refine lv_isub hx hb dX5_stepOf_67 ?_
            refine lv_topE (nI (ki - 7)) (pk_sub (by omega)) ?_
            refine cSl (As := [.long (lN sx), .int (nI 46), .int (nI 2), .int (nI (ki - 7))]) (rest := []) ⟨hx, hb, hml, hown, hts⟩ (c_X5_with l  sx 46 2 (ki - 7) (by omega) (by omega) (by omega) (by omega)) (va_cwS 4 hts (gS mU_480 mU_481 mU_6 mU_482) rfl rfl rfl (by decide +kernel) ⟨Nat.le_of_ble_eq_true rfl, Nat.le_of_ble_eq_true rfl⟩) fbU (fun _ _ _ => trivial) rfl hl.1 rfl (Nat.le_of_ble_eq_true rfl) dX5_stepOf_68 ⟨Nat.zero_le _, Nat.zero_le _⟩ ?_
            have hf_7 : withN sx 46 2 (ki - 7) < 2 ^ 48 := withN_lt (by omega) (by omega) (by omega)
            refine lv_goto (tgt := 77) hx hb dX5_stepOf_71 (by decide) ?_
            subst hQ
            exact rtl hx hb hr hlocks rfl (by first | (unfold stepM; (try first | rw [if_pos c2_1] | rw [if_neg c2_1]); (try first | rw [if_pos c14_2] | rw [if_neg c14_2]); (try first | rw [if_pos c30_3] | rw [if_neg c30_3]); (try first | rw [if_pos c47_4] | rw [if_neg c47_4]); (try first | rw [if_pos c57_6] | rw [if_neg c57_6]); (try rfl); done) | (exfalso; omega)) dX5_stepOf_77
      · have c30_3 : ¬ (8 ≤ ki) := fun h9 => c30_3 ((nI_leI (a := 8) (b := ki) (by omega) (by omega)).mpr h9)
        refine lv_aload_n hx hb dX5_stepOf_33 rfl (lv_at hl 0 rfl) ?_
        refine lv_lload_n hx hb dX5_stepOf_34 rfl (lv_at hl 1 rfl) ?_
        refine lv_iconst (v := nI 1) hx hb dX5_stepOf_35 (by decide) ?_
        refine lv_iload_n hx hb dX5_stepOf_36 rfl (lv_at hl 2 rfl) ?_
        refine lv_iconst (v := nI 5) hx hb dX5_stepOf_37 (by decide) ?_
        refine lv_isub hx hb dX5_stepOf_38 ?_
        refine lv_topE (nI (ki - 5)) (pk_sub (by omega)) ?_
        refine cVl (As := [.long (lN sx), .int (nI 1), .int (nI (ki - 5))]) (rest := []) ⟨hx, hb, hml, hown, hts⟩ (c_X5_wish l D ad ka f g t sx 1 (ki - 5) (hg) (hL) (hwf) (by omega) (by omega)) (cwV 3 hts (gV mU_517 mU_518 mU_519 mU_6 mU_520) rfl rfl rfl (by decide +kernel) ⟨Nat.le_of_ble_eq_true rfl, Nat.le_of_ble_eq_true rfl⟩) fbR (va_recv hK hP (ci := 5) (q0 := 0) rfl rfl) (PR.of hP hK) rfl hl.1 rfl (Nat.le_of_ble_eq_true rfl) dX5_stepOf_39 ⟨Nat.zero_le _, Nat.zero_le _⟩ ?_
        subst hQ
        exact rtl hx hb hr hlocks rfl (by first | (unfold stepM; (try first | rw [if_pos c2_1] | rw [if_neg c2_1]); (try first | rw [if_pos c14_2] | rw [if_neg c14_2]); (try first | rw [if_pos c30_3] | rw [if_neg c30_3]); (try rfl); done) | (exfalso; omega)) dX5_stepOf_42
    · have c14_2 : ¬ (5 ≤ ki) := fun h9 => c14_2 ((nI_leI (a := 5) (b := ki) (by omega) (by omega)).mpr h9)
      refine lv_aload_n hx hb dX5_stepOf_17 rfl (lv_at hl 0 rfl) ?_
      refine lv_lload_n hx hb dX5_stepOf_18 rfl (lv_at hl 1 rfl) ?_
      refine lv_iconst (v := nI 0) hx hb dX5_stepOf_19 (by decide) ?_
      refine lv_iload_n hx hb dX5_stepOf_20 rfl (lv_at hl 2 rfl) ?_
      refine lv_iconst (v := nI 2) hx hb dX5_stepOf_21 (by decide) ?_
      refine lv_isub hx hb dX5_stepOf_22 ?_
      refine lv_topE (nI (ki - 2)) (pk_sub (by omega)) ?_
      refine cVl (As := [.long (lN sx), .int (nI 0), .int (nI (ki - 2))]) (rest := []) ⟨hx, hb, hml, hown, hts⟩ (c_X5_wish l D ad ka f g t sx 0 (ki - 2) (hg) (hL) (hwf) (by omega) (by omega)) (cwV 3 hts (gV mU_517 mU_518 mU_519 mU_6 mU_520) rfl rfl rfl (by decide +kernel) ⟨Nat.le_of_ble_eq_true rfl, Nat.le_of_ble_eq_true rfl⟩) fbR (va_recv hK hP (ci := 5) (q0 := 0) rfl rfl) (PR.of hP hK) rfl hl.1 rfl (Nat.le_of_ble_eq_true rfl) dX5_stepOf_23 ⟨Nat.zero_le _, Nat.zero_le _⟩ ?_
      subst hQ
      exact rtl hx hb hr hlocks rfl (by first | (unfold stepM; (try first | rw [if_pos c2_1] | rw [if_neg c2_1]); (try first | rw [if_pos c14_2] | rw [if_neg c14_2]); (try rfl); done) | (exfalso; omega)) dX5_stepOf_26
  · have c2_1 : ¬ (2 ≤ ki) := fun h9 => c2_1 ((nI_leI (a := 2) (b := ki) (by omega) (by omega)).mpr h9)
    refine lv_aload_n hx hb dX5_stepOf_5 rfl (lv_at hl 0 rfl) ?_
    refine lv_lload_n hx hb dX5_stepOf_6 rfl (lv_at hl 1 rfl) ?_
    refine lv_iload_n hx hb dX5_stepOf_7 rfl (lv_at hl 2 rfl) ?_
    refine cVl (As := [.long (lN sx), .int (nI ki)]) (rest := []) ⟨hx, hb, hml, hown, hts⟩ (c_X5_does l D ad ka f g t sx ki (hg) (hL) (hwf) (by omega)) (cwV 2 hts (gV mU_496 mU_497 mU_498 mU_6 mU_499) rfl rfl rfl (by decide +kernel) ⟨Nat.le_of_ble_eq_true rfl, Nat.le_of_ble_eq_true rfl⟩) fbR (va_recv hK hP (ci := 5) (q0 := 0) rfl rfl) (PR.of hP hK) rfl hl.1 rfl (Nat.le_of_ble_eq_true rfl) dX5_stepOf_8 ⟨Nat.zero_le _, Nat.zero_le _⟩ ?_
    subst hQ
    exact rtl hx hb hr hlocks rfl (by first | (unfold stepM; (try first | rw [if_pos c2_1] | rw [if_neg c2_1]); (try rfl); done) | (exfalso; omega)) dX5_stepOf_11

set_option maxHeartbeats 4000000 in
set_option maxRecDepth 100000 in
theorem c_X5_isEnd (l : Launch) (D : va_G) (ad : Nat → Nat) (ka : Nat → ClassId) (f : Nat → Nat) (g : Nat → Nat → Nat) (t : Nat → Nat) (sx : Nat) (hg : ∀ a, a < 6 → ∀ i, g a i < 2147483648) (hL : okL g) (hwf : wfM g sx) (hf5 : f 5 < 2) : Met l yX5_isEnd (.code yX5_isEnd cX5_isEnd 4 (some .boolean) :: wsL_law) ({ frames := 5, cells := 0, slots := 0, locals := 125 }) (va_Pc [.ref (ad 0), .long (lN sx)] (PR D (mW ad ka f g t) (mT ka))) (QrI (bP (isEndM (f 5) g sx))) 0 0 (fun _ => False) := by
  refine Met.ofW (cc := cX5_isEnd) (maxL := 4) (ret := (some .boolean)) (by decide) rfl ?_
  intro p e s m args below meth c s₁ B hml hv
  obtain ⟨rfl, hP, hK⟩ := hv
  have hx := B.exec
  have hb := B.bytes
  have hr := B.returns
  have hts := atoms_spec (ws := .code yX5_isEnd cX5_isEnd 4 (some .boolean) :: wsL_law) B.pre
  have hU : ∀ w ∈ wsL_law, w.before _ s = true := fun w h => hts w (List.mem_cons_of_mem _ h)
  have hown : s.vm.findClass RX5 = some m.cls := findClass_of_methodNamed B.named
  have hlocks := B.notSynchronized
  generalize hQ : MQ _ _ _ _ _ _ _ = Q
  have hl := lv_entry ([.ref (ad 0), .long (lN sx)]) (n := 4) (Nat.le_of_ble_eq_true rfl)
  rw [lg_entry_eq]
  generalize (lg_sl ([.ref (ad 0), .long (lN sx)]) ++ List.replicate (4 - (lg_sl ([.ref (ad 0), .long (lN sx)])).length) Slot.unset).toArray = ls at hl ⊢
  have hl : lv_has ls 4 [(0, .ref (ad 0)), (1, .long (lN sx))] := hl
  refine lv_iconst (v := nI 0) hx hb dX5_isEnd_0 (by decide) ?_
  refine lv_istore_n (lv' := [(3, .int (nI 0)), (0, .ref (ad 0)), (1, .long (lN sx))]) hx hb dX5_isEnd_1 rfl hl (by decide) rfl (fun ls hl => ?_)
  have L2_17 : ∀ (n : Nat) (k : Nat), (k ≤ 8) → (∀ j, j < k → stepM (f 5) g sx j = none) → (8 - k) < n → ∀ ls : Array Slot, lv_has ls 4 [(0, .ref (ad 0)), (1, .long (lN sx)), (3, .int (nI k))] → W p l e ({ frames := 5, cells := 0, slots := 0, locals := 125 } : Room) s m (([.ref (ad 0), .long (lN sx)] : List Value).toArray) below meth c s.heap [] 0 0 Q (F0 m 2 ls []) := by
    intro n2
    induction n2 with
    | zero => intro k hk8 hall hm2; exact absurd hm2 (Nat.not_lt_zero _)
    | succ n2 ih2 =>
      intro k hk8 hall hm2 ls hl
      refine lv_iload_n hx hb dX5_isEnd_2 rfl (lv_at hl 2 rfl) ?_
      refine lv_bipush (v := nI 8) hx hb dX5_isEnd_3 (by decide) ?_
      refine lv_icmp_ge (tgt := 27) hx hb dX5_isEnd_5 (by decide) (fun c5_1 => ?_) (fun c5_1 => ?_)
      · have c5_1 : 8 ≤ k := (nI_leI (a := 8) (b := k) (by omega) (by omega)).mp c5_1
        refine lv_iconst (v := nI 1) hx hb dX5_isEnd_27 (by decide) ?_
        subst hQ
        exact rtz hx hb hr hlocks rfl rfl (bP_1 (fun j hj => hall j (by omega))) dX5_isEnd_28
      · have c5_1 : ¬ (8 ≤ k) := fun h9 => c5_1 ((nI_leI (a := 8) (b := k) (by omega) (by omega)).mpr h9)
        refine lv_aload_n hx hb dX5_isEnd_8 rfl (lv_at hl 0 rfl) ?_
        refine lv_lload_n hx hb dX5_isEnd_9 rfl (lv_at hl 1 rfl) ?_
        refine lv_iload_n hx hb dX5_isEnd_10 rfl (lv_at hl 2 rfl) ?_
        refine cVl (As := [.long (lN sx), .int (nI k)]) (rest := []) ⟨hx, hb, hml, hown, hts⟩ (c_X5_stepOf l D ad ka f g t sx k (hg) (hL) (hwf) (hf5) (by omega)) (cwV 2 hts (gV mU_492 mU_493 mU_494 mU_6 mU_495) rfl rfl rfl (by decide +kernel) ⟨Nat.le_of_ble_eq_true rfl, Nat.le_of_ble_eq_true rfl⟩) fbR (va_recv hK hP (ci := 5) (q0 := 0) rfl rfl) (PR.of hP hK) rfl hl.1 rfl (Nat.le_of_ble_eq_true rfl) dX5_isEnd_11 ⟨Nat.zero_le _, Nat.zero_le _⟩ ?_
        refine lv_lconst (v := lN 0) hx hb dX5_isEnd_14 rfl ?_
        refine W.lcmp hx hb dX5_isEnd_15 ?_
        refine lv_if_lt (tgt := 21) hx hb dX5_isEnd_16 (by decide) (fun c16_2 => ?_) (fun c16_2 => ?_)
        · have c16_2 : eO (stepM (f 5) g sx k) < lN 0 := (lg_cmp_lt _ _).mp c16_2
          refine lv_iinc (v := nI (k + 1)) (lv' := [(3, .int (nI (k + 1))), (0, .ref (ad 0)), (1, .long (lN sx))]) hx hb dX5_isEnd_21 hl (k := 2) rfl (by rw [show Int32.ofInt 1 = nI 1 from by decide, nI_add]) (by decide) rfl (fun ls hl => ?_)
          refine lv_goto (tgt := 2) hx hb dX5_isEnd_24 (by decide) ?_
          exact ih2 (k + 1) (by omega) (lt_s (p := fun j => stepM (f 5) g sx j = none) hall ((step_lt hL hwf (by omega)).mp c16_2)) (by omega) _ (lv_sub hl [1, 2, 0] rfl)
        · have c16_2 : ¬ (eO (stepM (f 5) g sx k) < lN 0) := fun h9 => c16_2 ((lg_cmp_lt _ _).mpr h9)
          refine lv_iconst (v := nI 0) hx hb dX5_isEnd_19 (by decide) ?_
          subst hQ
          exact rtz hx hb hr hlocks rfl rfl (bP_0 (fun q => c16_2 ((step_lt hL hwf (by omega)).mpr (q k (by omega))))) dX5_isEnd_20
  exact L2_17 (8 + 1) 0 (by omega) (fun j hj => absurd hj (Nat.not_lt_zero j)) (Nat.lt_succ_self _) _ (lv_sub hl [1, 2, 0] rfl)

set_option maxHeartbeats 4000000 in
set_option maxRecDepth 100000 in
theorem c_X5_isGood (l : Launch) (D : va_G) (ad : Nat → Nat) (ka : Nat → ClassId) (f : Nat → Nat) (g : Nat → Nat → Nat) (t : Nat → Nat) (sx : Nat) (hg : ∀ a, a < 6 → ∀ i, g a i < 2147483648) (hL : okL g) (hwf : wfM g sx) (hf5 : f 5 < 2) : Met l yX5_isGood (.code yX5_isGood cX5_isGood 3 (some .boolean) :: wsL_law) ({ frames := 6, cells := 0, slots := 0, locals := 148 }) (va_Pc [.ref (ad 0), .long (lN sx)] (PR D (mW ad ka f g t) (mT ka))) (QrI (bP (isGoodM (f 5) g sx))) 0 0 (fun _ => False) := by
  refine Met.ofW (cc := cX5_isGood) (maxL := 3) (ret := (some .boolean)) (by decide) rfl ?_
  intro p e s m args below meth c s₁ B hml hv
  obtain ⟨rfl, hP, hK⟩ := hv
  have hx := B.exec
  have hb := B.bytes
  have hr := B.returns
  have hts := atoms_spec (ws := .code yX5_isGood cX5_isGood 3 (some .boolean) :: wsL_law) B.pre
  have hU : ∀ w ∈ wsL_law, w.before _ s = true := fun w h => hts w (List.mem_cons_of_mem _ h)
  have hown : s.vm.findClass RX5 = some m.cls := findClass_of_methodNamed B.named
  have hlocks := B.notSynchronized
  generalize hQ : MQ _ _ _ _ _ _ _ = Q
  have hl := lv_entry ([.ref (ad 0), .long (lN sx)]) (n := 3) (Nat.le_of_ble_eq_true rfl)
  rw [lg_entry_eq]
  generalize (lg_sl ([.ref (ad 0), .long (lN sx)]) ++ List.replicate (3 - (lg_sl ([.ref (ad 0), .long (lN sx)])).length) Slot.unset).toArray = ls at hl ⊢
  have hl : lv_has ls 3 [(0, .ref (ad 0)), (1, .long (lN sx))] := hl
  have hsx := hwf.1
  refine lv_lload_n hx hb dX5_isGood_0 rfl (lv_at hl 1 rfl) ?_
  refine lv_bipush (v := nI 44) hx hb dX5_isGood_1 (by decide) ?_
  refine lv_iconst (v := nI 4) hx hb dX5_isGood_3 (by decide) ?_
  refine cSi (As := [.long (lN sx), .int (nI 44), .int (nI 4)]) (rest := []) ⟨hx, hb, hml, hown, hts⟩ (c_X5_bits l  sx 44 4 (by omega) (by omega) (by omega)) (va_cwS 3 hts (gS mU_503 mU_504 mU_6 mU_505) rfl rfl rfl (by decide +kernel) ⟨Nat.le_of_ble_eq_true rfl, Nat.le_of_ble_eq_true rfl⟩) fbU (fun _ _ _ => trivial) rfl hl.1 rfl (Nat.le_of_ble_eq_true rfl) dX5_isGood_4 ⟨Nat.zero_le _, Nat.zero_le _⟩ ?_
  have hf_1 : bitsN sx 44 4 < 2 ^ 4 := bitsN_lt _ _ _
  refine lv_if_ne (tgt := 50) hx hb dX5_isGood_7 (by decide) (fun c7_2 => ?_) (fun c7_2 => ?_)
  · have c7_2 : ¬ (bitsN sx 44 4 = 0) := fun h9 => c7_2 ((nI_eqG (a := bitsN sx 44 4) (b := 0) (by omega) (by omega)).mpr h9)
    refine lv_iconst (v := nI 0) hx hb dX5_isGood_50 (by decide) ?_
    subst hQ
    exact rtz hx hb hr hlocks rfl rfl (bP_0 (fun q => c7_2 q.1)) dX5_isGood_51
  · have c7_2 : bitsN sx 44 4 = 0 := (nI_eqG (a := bitsN sx 44 4) (b := 0) (by omega) (by omega)).mp c7_2
    refine lv_lload_n hx hb dX5_isGood_10 rfl (lv_at hl 1 rfl) ?_
    refine lv_iconst (v := nI 0) hx hb dX5_isGood_11 (by decide) ?_
    refine cSi (As := [.long (lN sx), .int (nI 0)]) (rest := []) ⟨hx, hb, hml, hown, hts⟩ (c_X5_atOf l  sx 0 (by omega) (by omega)) (va_cwS 2 hts (gS mU_500 mU_501 mU_6 mU_502) rfl rfl rfl (by decide +kernel) ⟨Nat.le_of_ble_eq_true rfl, Nat.le_of_ble_eq_true rfl⟩) fbU (fun _ _ _ => trivial) rfl hl.1 rfl (Nat.le_of_ble_eq_true rfl) dX5_isGood_12 ⟨Nat.zero_le _, Nat.zero_le _⟩ ?_
    have hf_3 : bitsN sx (16) 3 < 8 := bitsN_lt _ _ _
    refine lv_aload_n hx hb dX5_isGood_15 rfl (lv_at hl 0 rfl) ?_
    refine va_get (D := D) (ci := 5) (v := .ref (ad 1)) (C := RX5) (T := TX5) (N := 23) hx hb hU iX5 hown hK hP 0 rfl rfl 0 (by decide) (hU _ mU_75) (fun _ h9 => h9) rfl dX5_isGood_16 ?_
    refine lv_iconst (v := nI 2) hx hb dX5_isGood_19 (by decide) ?_
    refine n_iald hx hb hK hP 1 0 rfl rfl (i := 2) (by omega) (by decide) dX5_isGood_20 ?_
    have hb_4 := hg 1 (by decide) 2
    refine lv_icmp_ne (tgt := 50) hx hb dX5_isGood_21 (by decide) (fun c21_5 => ?_) (fun c21_5 => ?_)
    · have c21_5 : ¬ (bitsN sx (16) 3 = (g 1) 2) := fun h9 => c21_5 ((nI_eqG (a := bitsN sx (16) 3) (b := (g 1) 2) (by omega) (by omega)).mpr h9)
      refine lv_iconst (v := nI 0) hx hb dX5_isGood_50 (by decide) ?_
      subst hQ
      exact rtz hx hb hr hlocks rfl rfl (bP_0 (fun q => c21_5 q.2.1)) dX5_isGood_51
    · have c21_5 : bitsN sx (16) 3 = (g 1) 2 := (nI_eqG (a := bitsN sx (16) 3) (b := (g 1) 2) (by omega) (by omega)).mp c21_5
      refine lv_lload_n hx hb dX5_isGood_24 rfl (lv_at hl 1 rfl) ?_
      refine lv_iconst (v := nI 1) hx hb dX5_isGood_25 (by decide) ?_
      refine cSi (As := [.long (lN sx), .int (nI 1)]) (rest := []) ⟨hx, hb, hml, hown, hts⟩ (c_X5_atOf l  sx 1 (by omega) (by omega)) (va_cwS 2 hts (gS mU_500 mU_501 mU_6 mU_502) rfl rfl rfl (by decide +kernel) ⟨Nat.le_of_ble_eq_true rfl, Nat.le_of_ble_eq_true rfl⟩) fbU (fun _ _ _ => trivial) rfl hl.1 rfl (Nat.le_of_ble_eq_true rfl) dX5_isGood_26 ⟨Nat.zero_le _, Nat.zero_le _⟩ ?_
      have hf_6 : bitsN sx (19) 3 < 8 := bitsN_lt _ _ _
      refine lv_aload_n hx hb dX5_isGood_29 rfl (lv_at hl 0 rfl) ?_
      refine va_get (D := D) (ci := 5) (v := .ref (ad 1)) (C := RX5) (T := TX5) (N := 23) hx hb hU iX5 hown hK hP 0 rfl rfl 0 (by decide) (hU _ mU_75) (fun _ h9 => h9) rfl dX5_isGood_30 ?_
      refine lv_iconst (v := nI 3) hx hb dX5_isGood_33 (by decide) ?_
      refine n_iald hx hb hK hP 1 0 rfl rfl (i := 3) (by omega) (by decide) dX5_isGood_34 ?_
      have hb_7 := hg 1 (by decide) 3
      refine lv_icmp_ne (tgt := 50) hx hb dX5_isGood_35 (by decide) (fun c35_8 => ?_) (fun c35_8 => ?_)
      · have c35_8 : ¬ (bitsN sx (19) 3 = (g 1) 3) := fun h9 => c35_8 ((nI_eqG (a := bitsN sx (19) 3) (b := (g 1) 3) (by omega) (by omega)).mpr h9)
        refine lv_iconst (v := nI 0) hx hb dX5_isGood_50 (by decide) ?_
        subst hQ
        exact rtz hx hb hr hlocks rfl rfl (bP_0 (fun q => c35_8 q.2.2.1)) dX5_isGood_51
      · have c35_8 : bitsN sx (19) 3 = (g 1) 3 := (nI_eqG (a := bitsN sx (19) 3) (b := (g 1) 3) (by omega) (by omega)).mp c35_8
        refine lv_aload_n hx hb dX5_isGood_38 rfl (lv_at hl 0 rfl) ?_
        refine lv_lload_n hx hb dX5_isGood_39 rfl (lv_at hl 1 rfl) ?_
        refine cVi (As := [.long (lN sx)]) (rest := []) ⟨hx, hb, hml, hown, hts⟩ (c_X5_isEnd l D ad ka f g t sx (hg) (hL) (hwf) (hf5)) (cwV 1 hts (gV mU_547 mU_548 mU_549 mU_6 mU_550) rfl rfl rfl (by decide +kernel) ⟨Nat.le_of_ble_eq_true rfl, Nat.le_of_ble_eq_true rfl⟩) fbR (va_recv hK hP (ci := 5) (q0 := 0) rfl rfl) (PR.of hP hK) rfl hl.1 rfl (Nat.le_of_ble_eq_true rfl) dX5_isGood_40 ⟨Nat.zero_le _, Nat.zero_le _⟩ ?_
        refine lv_if_eq (tgt := 50) hx hb dX5_isGood_43 (by decide) (fun c43_9 => ?_) (fun c43_9 => ?_)
        · have c43_9 : ¬ (isEndM (f 5) g sx) := bP_f c43_9
          refine lv_iconst (v := nI 0) hx hb dX5_isGood_50 (by decide) ?_
          subst hQ
          exact rtz hx hb hr hlocks rfl rfl (bP_0 (fun q => c43_9 q.2.2.2)) dX5_isGood_51
        · have c43_9 : isEndM (f 5) g sx := bP_t c43_9
          refine lv_iconst (v := nI 1) hx hb dX5_isGood_46 (by decide) ?_
          refine lv_goto (tgt := 51) hx hb dX5_isGood_47 (by decide) ?_
          subst hQ
          exact rtz hx hb hr hlocks rfl rfl (bP_1 ⟨c7_2, c21_5, c35_8, c43_9⟩) dX5_isGood_51

set_option maxHeartbeats 4000000 in
set_option maxRecDepth 100000 in
theorem c_X5_findBoth (l : Launch) (D : va_G) (ad : Nat → Nat) (ka : Nat → ClassId) (f : Nat → Nat) (g : Nat → Nat → Nat) (t : Nat → Nat) (pa : Nat) (pb : Nat) (hg : ∀ a, a < 6 → ∀ i, g a i < 2147483648) (ht : ∀ i, i < f 19 → wfM g (t i)) (hst : f 19 ≤ 12001) (hpa : pa < 8) (hpb : pb < 8) : Met l yX5_findBoth (.code yX5_findBoth cX5_findBoth 4 (some .int) :: wsL_law) ({ frames := 2, cells := 0, slots := 0, locals := 45 }) (va_Pc [.ref (ad 0), .int (nI pa), .int (nI pb)] (PR D (mW ad ka f g t) (mT ka))) (QrI (nI (findN (fun i => decide (bitsN (t i) 16 3 = pa ∧ bitsN (t i) 19 3 = pb)) (f 19)))) 0 0 (fun _ => False) := by
  refine Met.ofW (cc := cX5_findBoth) (maxL := 4) (ret := (some .int)) (by decide) rfl ?_
  intro p e s m args below meth c s₁ B hml hv
  obtain ⟨rfl, hP, hK⟩ := hv
  have hx := B.exec
  have hb := B.bytes
  have hr := B.returns
  have hts := atoms_spec (ws := .code yX5_findBoth cX5_findBoth 4 (some .int) :: wsL_law) B.pre
  have hU : ∀ w ∈ wsL_law, w.before _ s = true := fun w h => hts w (List.mem_cons_of_mem _ h)
  have hown : s.vm.findClass RX5 = some m.cls := findClass_of_methodNamed B.named
  have hlocks := B.notSynchronized
  generalize hQ : MQ _ _ _ _ _ _ _ = Q
  have hl := lv_entry ([.ref (ad 0), .int (nI pa), .int (nI pb)]) (n := 4) (Nat.le_of_ble_eq_true rfl)
  rw [lg_entry_eq]
  generalize (lg_sl ([.ref (ad 0), .int (nI pa), .int (nI pb)]) ++ List.replicate (4 - (lg_sl ([.ref (ad 0), .int (nI pa), .int (nI pb)])).length) Slot.unset).toArray = ls at hl ⊢
  have hl : lv_has ls 4 [(0, .ref (ad 0)), (1, .int (nI pa)), (2, .int (nI pb))] := hl
  refine lv_iconst (v := nI 0) hx hb dX5_findBoth_0 (by decide) ?_
  refine lv_istore_n (lv' := [(3, .int (nI 0)), (0, .ref (ad 0)), (1, .int (nI pa)), (2, .int (nI pb))]) hx hb dX5_findBoth_1 rfl hl (by decide) rfl (fun ls hl => ?_)
  have L2_17 : ∀ (n : Nat) (i : Nat), (i ≤ f 19) → (∀ j, j < i → decide (bitsN (t j) 16 3 = pa ∧ bitsN (t j) 19 3 = pb) = false) → (f 19 - i) < n → ∀ ls : Array Slot, lv_has ls 4 [(0, .ref (ad 0)), (1, .int (nI pa)), (2, .int (nI pb)), (3, .int (nI i))] → W p l e ({ frames := 2, cells := 0, slots := 0, locals := 45 } : Room) s m (([.ref (ad 0), .int (nI pa), .int (nI pb)] : List Value).toArray) below meth c s.heap [] 0 0 Q (F0 m 2 ls []) := by
    intro n2
    induction n2 with
    | zero => intro i hi hall hm2; exact absurd hm2 (Nat.not_lt_zero _)
    | succ n2 ih2 =>
      intro i hi hall hm2 ls hl
      refine lv_iload_n hx hb dX5_findBoth_2 rfl (lv_at hl 3 rfl) ?_
      refine lv_aload_n hx hb dX5_findBoth_3 rfl (lv_at hl 0 rfl) ?_
      refine va_get (D := D) (ci := 5) (v := .int (nI (f 19))) (C := RX5) (T := TX5) (N := 23) hx hb hU iX5 hown hK hP 0 rfl rfl 19 (by decide) (hU _ mU_467) (fun _ h9 => h9) rfl dX5_findBoth_4 ?_
      refine lv_icmp_ge (tgt := 46) hx hb dX5_findBoth_7 (by decide) (fun c7_1 => ?_) (fun c7_1 => ?_)
      · have c7_1 : f 19 ≤ i := (nI_leI (a := f 19) (b := i) (by omega) (by omega)).mp c7_1
        refine lv_iconst (v := nI 4294967295) hx hb dX5_findBoth_46 (by decide) ?_
        subst hQ
        exact rti hx hb hr hlocks rfl (congrArg nI (findN_no (fun j hj => hall j (by omega))).symm) dX5_findBoth_47
      · have c7_1 : ¬ (f 19 ≤ i) := fun h9 => c7_1 ((nI_leI (a := f 19) (b := i) (by omega) (by omega)).mpr h9)
        have hti := (ht i (by omega)).1
        refine lv_aload_n hx hb dX5_findBoth_10 rfl (lv_at hl 0 rfl) ?_
        refine va_get (D := D) (ci := 5) (v := .ref (ad 7)) (C := RX5) (T := TX5) (N := 23) hx hb hU iX5 hown hK hP 0 rfl rfl 14 (by decide) (hU _ mU_83) (fun _ h9 => h9) rfl dX5_findBoth_11 ?_
        refine lv_iload_n hx hb dX5_findBoth_14 rfl (lv_at hl 3 rfl) ?_
        refine n_lald hx hb hK hP 7 6 rfl rfl (i := i) (by omega) (by decide) dX5_findBoth_15 ?_
        refine lv_iconst (v := nI 0) hx hb dX5_findBoth_16 (by decide) ?_
        refine cSi (As := [.long (lN (t i)), .int (nI 0)]) (rest := []) ⟨hx, hb, hml, hown, hts⟩ (c_X5_atOf l  (t i) 0 (by omega) (by omega)) (va_cwS 2 hts (gS mU_500 mU_501 mU_6 mU_502) rfl rfl rfl (by decide +kernel) ⟨Nat.le_of_ble_eq_true rfl, Nat.le_of_ble_eq_true rfl⟩) fbU (fun _ _ _ => trivial) rfl hl.1 rfl (Nat.le_of_ble_eq_true rfl) dX5_findBoth_17 ⟨Nat.zero_le _, Nat.zero_le _⟩ ?_
        have hf_2 : bitsN (t i) 16 3 < 8 := bitsN_lt _ _ _
        refine lv_iload_n hx hb dX5_findBoth_20 rfl (lv_at hl 1 rfl) ?_
        refine lv_icmp_ne (tgt := 40) hx hb dX5_findBoth_21 (by decide) (fun c21_3 => ?_) (fun c21_3 => ?_)
        · have c21_3 : ¬ (bitsN (t i) 16 3 = pa) := fun h9 => c21_3 ((nI_eqG (a := bitsN (t i) 16 3) (b := pa) (by omega) (by omega)).mpr h9)
          refine lv_iinc (v := nI (i + 1)) (lv' := [(3, .int (nI (i + 1))), (0, .ref (ad 0)), (1, .int (nI pa)), (2, .int (nI pb))]) hx hb dX5_findBoth_40 hl (k := 3) rfl (by rw [show Int32.ofInt 1 = nI 1 from by decide, nI_add]) (by decide) rfl (fun ls hl => ?_)
          refine lv_goto (tgt := 2) hx hb dX5_findBoth_43 (by decide) ?_
          exact ih2 (i + 1) (by omega) (lt_s (p := fun j => decide (bitsN (t j) 16 3 = pa ∧ bitsN (t j) 19 3 = pb) = false) hall (decide_eq_false (fun q => c21_3 q.1))) (by omega) _ (lv_sub hl [1, 2, 3, 0] rfl)
        · have c21_3 : bitsN (t i) 16 3 = pa := (nI_eqG (a := bitsN (t i) 16 3) (b := pa) (by omega) (by omega)).mp c21_3
          refine lv_aload_n hx hb dX5_findBoth_24 rfl (lv_at hl 0 rfl) ?_
          refine va_get (D := D) (ci := 5) (v := .ref (ad 7)) (C := RX5) (T := TX5) (N := 23) hx hb hU iX5 hown hK hP 0 rfl rfl 14 (by decide) (hU _ mU_83) (fun _ h9 => h9) rfl dX5_findBoth_25 ?_
          refine lv_iload_n hx hb dX5_findBoth_28 rfl (lv_at hl 3 rfl) ?_
          refine n_lald hx hb hK hP 7 6 rfl rfl (i := i) (by omega) (by decide) dX5_findBoth_29 ?_
          refine lv_iconst (v := nI 1) hx hb dX5_findBoth_30 (by decide) ?_
          refine cSi (As := [.long (lN (t i)), .int (nI 1)]) (rest := []) ⟨hx, hb, hml, hown, hts⟩ (c_X5_atOf l  (t i) 1 (by omega) (by omega)) (va_cwS 2 hts (gS mU_500 mU_501 mU_6 mU_502) rfl rfl rfl (by decide +kernel) ⟨Nat.le_of_ble_eq_true rfl, Nat.le_of_ble_eq_true rfl⟩) fbU (fun _ _ _ => trivial) rfl hl.1 rfl (Nat.le_of_ble_eq_true rfl) dX5_findBoth_31 ⟨Nat.zero_le _, Nat.zero_le _⟩ ?_
          have hf_4 : bitsN (t i) 19 3 < 8 := bitsN_lt _ _ _
          refine lv_iload_n hx hb dX5_findBoth_34 rfl (lv_at hl 2 rfl) ?_
          refine lv_icmp_ne (tgt := 40) hx hb dX5_findBoth_35 (by decide) (fun c35_5 => ?_) (fun c35_5 => ?_)
          · have c35_5 : ¬ (bitsN (t i) 19 3 = pb) := fun h9 => c35_5 ((nI_eqG (a := bitsN (t i) 19 3) (b := pb) (by omega) (by omega)).mpr h9)
            refine lv_iinc (v := nI (i + 1)) (lv' := [(3, .int (nI (i + 1))), (0, .ref (ad 0)), (1, .int (nI pa)), (2, .int (nI pb))]) hx hb dX5_findBoth_40 hl (k := 3) rfl (by rw [show Int32.ofInt 1 = nI 1 from by decide, nI_add]) (by decide) rfl (fun ls hl => ?_)
            refine lv_goto (tgt := 2) hx hb dX5_findBoth_43 (by decide) ?_
            exact ih2 (i + 1) (by omega) (lt_s (p := fun j => decide (bitsN (t j) 16 3 = pa ∧ bitsN (t j) 19 3 = pb) = false) hall (decide_eq_false (fun q => c35_5 q.2))) (by omega) _ (lv_sub hl [1, 2, 3, 0] rfl)
          · have c35_5 : bitsN (t i) 19 3 = pb := (nI_eqG (a := bitsN (t i) 19 3) (b := pb) (by omega) (by omega)).mp c35_5
            refine lv_iload_n hx hb dX5_findBoth_38 rfl (lv_at hl 3 rfl) ?_
            subst hQ
            exact rti hx hb hr hlocks rfl (congrArg nI (findN_at (P := fun i => decide (bitsN (t i) 16 3 = pa ∧ bitsN (t i) 19 3 = pb)) (by omega) hall (decide_eq_true ⟨c21_3, c35_5⟩)).symm) dX5_findBoth_39
  exact L2_17 ((f 19 - 0) + 1) 0 (by omega) (fun j hj => absurd hj (Nat.not_lt_zero j)) (Nat.lt_succ_self _) _ (lv_sub hl [1, 2, 3, 0] rfl)

set_option maxHeartbeats 4000000 in
set_option maxRecDepth 100000 in
theorem c_X5_findEnd (l : Launch) (D : va_G) (ad : Nat → Nat) (ka : Nat → ClassId) (f : Nat → Nat) (g : Nat → Nat → Nat) (t : Nat → Nat) (va : Nat) (se : Nat) (hg : ∀ a, a < 6 → ∀ i, g a i < 2147483648) (hL : okL g) (hf5 : f 5 < 2) (ht : ∀ i, i < f 19 → wfM g (t i)) (hst : f 19 ≤ 12001) (hva : va < 256) (hse : se < 16) : Met l yX5_findEnd (.code yX5_findEnd cX5_findEnd 6 (some .int) :: wsL_law) ({ frames := 7, cells := 0, slots := 0, locals := 170 }) (va_Pc [.ref (ad 0), .int (nI va), .int (nI se)] (PR D (mW ad ka f g t) (mT ka))) (QrI (nI (findN (fun i => endM (f 5) g va se (t i)) (f 19)))) 0 0 (fun _ => False) := by
  refine Met.ofW (cc := cX5_findEnd) (maxL := 6) (ret := (some .int)) (by decide) rfl ?_
  intro p e s m args below meth c s₁ B hml hv
  obtain ⟨rfl, hP, hK⟩ := hv
  have hx := B.exec
  have hb := B.bytes
  have hr := B.returns
  have hts := atoms_spec (ws := .code yX5_findEnd cX5_findEnd 6 (some .int) :: wsL_law) B.pre
  have hU : ∀ w ∈ wsL_law, w.before _ s = true := fun w h => hts w (List.mem_cons_of_mem _ h)
  have hown : s.vm.findClass RX5 = some m.cls := findClass_of_methodNamed B.named
  have hlocks := B.notSynchronized
  generalize hQ : MQ _ _ _ _ _ _ _ = Q
  have hl := lv_entry ([.ref (ad 0), .int (nI va), .int (nI se)]) (n := 6) (Nat.le_of_ble_eq_true rfl)
  rw [lg_entry_eq]
  generalize (lg_sl ([.ref (ad 0), .int (nI va), .int (nI se)]) ++ List.replicate (6 - (lg_sl ([.ref (ad 0), .int (nI va), .int (nI se)])).length) Slot.unset).toArray = ls at hl ⊢
  have hl : lv_has ls 6 [(0, .ref (ad 0)), (1, .int (nI va)), (2, .int (nI se))] := hl
  refine lv_iconst (v := nI 0) hx hb dX5_findEnd_0 (by decide) ?_
  refine lv_istore_n (lv' := [(3, .int (nI 0)), (0, .ref (ad 0)), (1, .int (nI va)), (2, .int (nI se))]) hx hb dX5_findEnd_1 rfl hl (by decide) rfl (fun ls hl => ?_)
  have L2_17 : ∀ (n : Nat) (i : Nat), (i ≤ f 19) → (∀ j, j < i → endM (f 5) g va se (t j) = false) → (f 19 - i) < n → ∀ ls : Array Slot, lv_has ls 6 [(0, .ref (ad 0)), (1, .int (nI va)), (2, .int (nI se)), (3, .int (nI i))] → W p l e ({ frames := 7, cells := 0, slots := 0, locals := 170 } : Room) s m (([.ref (ad 0), .int (nI va), .int (nI se)] : List Value).toArray) below meth c s.heap [] 0 0 Q (F0 m 2 ls []) := by
    intro n2
    induction n2 with
    | zero => intro i hi hall hm2; exact absurd hm2 (Nat.not_lt_zero _)
    | succ n2 ih2 =>
      intro i hi hall hm2 ls hl
      refine lv_iload_n hx hb dX5_findEnd_2 rfl (lv_at hl 3 rfl) ?_
      refine lv_aload_n hx hb dX5_findEnd_3 rfl (lv_at hl 0 rfl) ?_
      refine va_get (D := D) (ci := 5) (v := .int (nI (f 19))) (C := RX5) (T := TX5) (N := 23) hx hb hU iX5 hown hK hP 0 rfl rfl 19 (by decide) (hU _ mU_467) (fun _ h9 => h9) rfl dX5_findEnd_4 ?_
      refine lv_icmp_ge (tgt := 96) hx hb dX5_findEnd_7 (by decide) (fun c7_1 => ?_) (fun c7_1 => ?_)
      · have c7_1 : f 19 ≤ i := (nI_leI (a := f 19) (b := i) (by omega) (by omega)).mp c7_1
        refine lv_iconst (v := nI 4294967295) hx hb dX5_findEnd_96 (by decide) ?_
        subst hQ
        exact rti hx hb hr hlocks rfl (congrArg nI (findN_no (fun j hj => hall j (by omega))).symm) dX5_findEnd_97
      · have c7_1 : ¬ (f 19 ≤ i) := fun h9 => c7_1 ((nI_leI (a := f 19) (b := i) (by omega) (by omega)).mpr h9)
        have hti := ht i (by omega)
        have htl := hti.1
        refine lv_aload_n hx hb dX5_findEnd_10 rfl (lv_at hl 0 rfl) ?_
        refine lv_aload_n hx hb dX5_findEnd_11 rfl (lv_at hl 0 rfl) ?_
        refine va_get (D := D) (ci := 5) (v := .ref (ad 7)) (C := RX5) (T := TX5) (N := 23) hx hb hU iX5 hown hK hP 0 rfl rfl 14 (by decide) (hU _ mU_83) (fun _ h9 => h9) rfl dX5_findEnd_12 ?_
        refine lv_iload_n hx hb dX5_findEnd_15 rfl (lv_at hl 3 rfl) ?_
        refine n_lald hx hb hK hP 7 6 rfl rfl (i := i) (by omega) (by decide) dX5_findEnd_16 ?_
        refine cVi (As := [.long (lN (t i))]) (rest := []) ⟨hx, hb, hml, hown, hts⟩ (c_X5_isGood l D ad ka f g t (t i) (hg) (hL) (hti) (hf5)) (cwV 1 hts (gV mU_551 mU_552 mU_553 mU_6 mU_554) rfl rfl rfl (by decide +kernel) ⟨Nat.le_of_ble_eq_true rfl, Nat.le_of_ble_eq_true rfl⟩) fbR (va_recv hK hP (ci := 5) (q0 := 0) rfl rfl) (PR.of hP hK) rfl hl.1 rfl (Nat.le_of_ble_eq_true rfl) dX5_findEnd_17 ⟨Nat.zero_le _, Nat.zero_le _⟩ ?_
        refine lv_istore (lv' := [(4, .int (bP (isGoodM (f 5) g (t i)))), (0, .ref (ad 0)), (1, .int (nI va)), (2, .int (nI se)), (3, .int (nI i))]) hx hb dX5_findEnd_20 hl (by decide) rfl (fun ls hl => ?_)
        refine lv_iconst (v := nI 0) hx hb dX5_findEnd_22 (by decide) ?_
        refine lv_istore (lv' := [(5, .int (nI 0)), (4, .int (bP (isGoodM (f 5) g (t i)))), (0, .ref (ad 0)), (1, .int (nI va)), (2, .int (nI se)), (3, .int (nI i))]) hx hb dX5_findEnd_23 hl (by decide) rfl (fun ls hl => ?_)
        refine lv_iload hx hb dX5_findEnd_25 (lv_at hl 0 rfl) ?_
        refine lv_iconst (v := nI 4) hx hb dX5_findEnd_27 (by decide) ?_
        refine lv_icmp_ge (tgt := 83) hx hb dX5_findEnd_28 (by decide) (fun c28_2 => absurd c28_2 (by decide)) (fun c28_2 => ?_)
        refine lv_iload hx hb dX5_findEnd_31 (lv_at hl 1 rfl) ?_
        refine lv_if_eq (tgt := 83) hx hb dX5_findEnd_33 (by decide) (fun c33_3 => ?_) (fun c33_3 => ?_)
        · have c33_3 : ¬ (isGoodM (f 5) g (t i)) := bP_f c33_3
          refine lv_iload hx hb dX5_findEnd_83 (lv_at hl 1 rfl) ?_
          refine lv_if_eq (tgt := 90) hx hb dX5_findEnd_85 (by decide) (fun c85_4 => ?_) (fun c85_4 => ?_)
          · have c85_4 : ¬ (isGoodM (f 5) g (t i)) := bP_f c85_4
            refine lv_iinc (v := nI (i + 1)) (lv' := [(3, .int (nI (i + 1))), (5, .int (nI 0)), (4, .int (bP (isGoodM (f 5) g (t i)))), (0, .ref (ad 0)), (1, .int (nI va)), (2, .int (nI se))]) hx hb dX5_findEnd_90 hl (k := 5) rfl (by rw [show Int32.ofInt 1 = nI 1 from by decide, nI_add]) (by decide) rfl (fun ls hl => ?_)
            refine lv_goto (tgt := 2) hx hb dX5_findEnd_93 (by decide) ?_
            exact ih2 (i + 1) (by omega) (lt_s (p := fun j => endM (f 5) g va se (t j) = false) hall (endM_f (fun q => c85_4 q.1))) (by omega) _ (lv_sub hl [3, 4, 5, 0] rfl)
          · have c85_4 : isGoodM (f 5) g (t i) := bP_t c85_4
            refine lv_iload_n hx hb dX5_findEnd_88 rfl (lv_at hl 5 rfl) ?_
            subst hQ
            exact rti hx hb hr hlocks rfl (absurd c85_4 c33_3) dX5_findEnd_89
        · have c33_3 : isGoodM (f 5) g (t i) := bP_t c33_3
          have L36_60 : ∀ (n : Nat) (w : Nat), (w < 4) → (isGoodM (f 5) g (t i)) → (∀ v, v < w → askedM va se (t i) v) → (4 - w) < n → ∀ ls : Array Slot, lv_has ls 6 [(0, .ref (ad 0)), (1, .int (nI va)), (2, .int (nI se)), (3, .int (nI i)), (5, .int (nI w))] → W p l e ({ frames := 7, cells := 0, slots := 0, locals := 170 } : Room) s m (([.ref (ad 0), .int (nI va), .int (nI se)] : List Value).toArray) below meth c s.heap [] 0 0 Q (F0 m 36 ls []) := by
            intro n36
            induction n36 with
            | zero => intro w hw4 hgd hsm hm36; exact absurd hm36 (Nat.not_lt_zero _)
            | succ n36 ih36 =>
              intro w hw4 hgd hsm hm36 ls hl
              refine lv_iload_n hx hb dX5_findEnd_36 rfl (lv_at hl 2 rfl) ?_
              refine lv_iload hx hb dX5_findEnd_37 (lv_at hl 4 rfl) ?_
              refine lv_ishr hx hb dX5_findEnd_39 ?_
              refine lv_topE (nI (se / 2 ^ w)) (z_shr32 (by omega) (by omega)) ?_
              refine lv_iconst (v := nI 1) hx hb dX5_findEnd_40 (by decide) ?_
              refine lv_iand hx hb dX5_findEnd_41 ?_
              refine lv_topE (nI (se / 2 ^ w % 2)) (fa_mask _ 1) ?_
              refine lv_if_eq (tgt := 70) hx hb dX5_findEnd_42 (by decide) (fun c42_5 => ?_) (fun c42_5 => ?_)
              · have c42_5 : se / 2 ^ w % 2 = 0 := (nI_eqG (a := se / 2 ^ w % 2) (b := 0) (by omega) (by omega)).mp c42_5
                refine lv_iconst (v := nI 1) hx hb dX5_findEnd_70 (by decide) ?_
                refine lv_goto (tgt := 75) hx hb dX5_findEnd_71 (by decide) ?_
                refine lv_istore (lv' := [(4, .int (nI 1)), (0, .ref (ad 0)), (1, .int (nI va)), (2, .int (nI se)), (3, .int (nI i)), (5, .int (nI w))]) hx hb dX5_findEnd_75 hl (by decide) rfl (fun ls hl => ?_)
                refine lv_iinc (v := nI (w + 1)) (lv' := [(5, .int (nI (w + 1))), (4, .int (nI 1)), (0, .ref (ad 0)), (1, .int (nI va)), (2, .int (nI se)), (3, .int (nI i))]) hx hb dX5_findEnd_77 hl (k := 5) rfl (by rw [show Int32.ofInt 1 = nI 1 from by decide, nI_add]) (by decide) rfl (fun ls hl => ?_)
                refine lv_goto (tgt := 25) hx hb dX5_findEnd_80 (by decide) ?_
                refine lv_iload hx hb dX5_findEnd_25 (lv_at hl 0 rfl) ?_
                refine lv_iconst (v := nI 4) hx hb dX5_findEnd_27 (by decide) ?_
                refine lv_icmp_ge (tgt := 83) hx hb dX5_findEnd_28 (by decide) (fun c28_6 => ?_) (fun c28_6 => ?_)
                · have c28_6 : 4 ≤ w + 1 := (nI_leI (a := 4) (b := w + 1) (by omega) (by omega)).mp c28_6
                  refine lv_iload hx hb dX5_findEnd_83 (lv_at hl 1 rfl) ?_
                  refine lv_if_eq (tgt := 90) hx hb dX5_findEnd_85 (by decide) (fun c85_7 => absurd c85_7 (by decide)) (fun c85_7 => ?_)
                  refine lv_iload_n hx hb dX5_findEnd_88 rfl (lv_at hl 5 rfl) ?_
                  subst hQ
                  exact rti hx hb hr hlocks rfl (congrArg nI (findN_at (P := fun i => endM (f 5) g va se (t i)) (by omega) hall (endM_t ⟨hgd, fun v hv => (lt_s (p := fun v => askedM va se (t i) v) hsm (Or.inl c42_5)) v (by omega)⟩)).symm) dX5_findEnd_89
                · have c28_6 : ¬ (4 ≤ w + 1) := fun h9 => c28_6 ((nI_leI (a := 4) (b := w + 1) (by omega) (by omega)).mpr h9)
                  refine lv_iload hx hb dX5_findEnd_31 (lv_at hl 1 rfl) ?_
                  refine lv_if_eq (tgt := 83) hx hb dX5_findEnd_33 (by decide) (fun c33_8 => absurd c33_8 (by decide)) (fun c33_8 => ?_)
                  exact ih36 (w + 1) (by omega) (hgd) (lt_s (p := fun v => askedM va se (t i) v) hsm (Or.inl c42_5)) (by omega) _ (lv_sub hl [2, 3, 4, 5, 0] rfl)
              · have c42_5 : ¬ (se / 2 ^ w % 2 = 0) := fun h9 => c42_5 ((nI_eqG (a := se / 2 ^ w % 2) (b := 0) (by omega) (by omega)).mpr h9)
                refine lv_aload_n hx hb dX5_findEnd_45 rfl (lv_at hl 0 rfl) ?_
                refine va_get (D := D) (ci := 5) (v := .ref (ad 7)) (C := RX5) (T := TX5) (N := 23) hx hb hU iX5 hown hK hP 0 rfl rfl 14 (by decide) (hU _ mU_83) (fun _ h9 => h9) rfl dX5_findEnd_46 ?_
                refine lv_iload_n hx hb dX5_findEnd_49 rfl (lv_at hl 3 rfl) ?_
                refine n_lald hx hb hK hP 7 6 rfl rfl (i := i) (by omega) (by decide) dX5_findEnd_50 ?_
                refine lv_iconst (v := nI 2) hx hb dX5_findEnd_51 (by decide) ?_
                refine lv_iload hx hb dX5_findEnd_52 (lv_at hl 4 rfl) ?_
                refine lv_imul hx hb dX5_findEnd_54 ?_
                refine lv_topE (nI (2 * w)) (pk_mul _ _) ?_
                refine lv_iconst (v := nI 2) hx hb dX5_findEnd_55 (by decide) ?_
                refine cSi (As := [.long (lN (t i)), .int (nI (2 * w)), .int (nI 2)]) (rest := []) ⟨hx, hb, hml, hown, hts⟩ (c_X5_bits l  (t i) (2 * w) 2 (by omega) (by omega) (by omega)) (va_cwS 3 hts (gS mU_503 mU_504 mU_6 mU_505) rfl rfl rfl (by decide +kernel) ⟨Nat.le_of_ble_eq_true rfl, Nat.le_of_ble_eq_true rfl⟩) fbU (fun _ _ _ => trivial) rfl hl.1 rfl (Nat.le_of_ble_eq_true rfl) dX5_findEnd_56 ⟨Nat.zero_le _, Nat.zero_le _⟩ ?_
                have hf_9 : bitsN (t i) (2 * w) 2 < 2 ^ 2 := bitsN_lt _ _ _
                refine lv_iload_n hx hb dX5_findEnd_59 rfl (lv_at hl 1 rfl) ?_
                refine lv_iconst (v := nI 2) hx hb dX5_findEnd_60 (by decide) ?_
                refine lv_iload hx hb dX5_findEnd_61 (lv_at hl 4 rfl) ?_
                refine lv_imul hx hb dX5_findEnd_63 ?_
                refine lv_topE (nI (2 * w)) (pk_mul _ _) ?_
                refine lv_ishr hx hb dX5_findEnd_64 ?_
                refine lv_topE (nI (va / 2 ^ (2 * w))) (z_shr32 (by omega) (by omega)) ?_
                refine lv_iconst (v := nI 3) hx hb dX5_findEnd_65 (by decide) ?_
                refine lv_iand hx hb dX5_findEnd_66 ?_
                refine lv_topE (nI (va / 2 ^ (2 * w) % 4)) (fa_mask _ 2) ?_
                refine lv_icmp_ne (tgt := 74) hx hb dX5_findEnd_67 (by decide) (fun c67_10 => ?_) (fun c67_10 => ?_)
                · have c67_10 : ¬ (bitsN (t i) (2 * w) 2 = va / 2 ^ (2 * w) % 4) := fun h9 => c67_10 ((nI_eqG (a := bitsN (t i) (2 * w) 2) (b := va / 2 ^ (2 * w) % 4) (by omega) (by omega)).mpr h9)
                  refine lv_iconst (v := nI 0) hx hb dX5_findEnd_74 (by decide) ?_
                  refine lv_istore (lv' := [(4, .int (nI 0)), (0, .ref (ad 0)), (1, .int (nI va)), (2, .int (nI se)), (3, .int (nI i)), (5, .int (nI w))]) hx hb dX5_findEnd_75 hl (by decide) rfl (fun ls hl => ?_)
                  refine lv_iinc (v := nI (w + 1)) (lv' := [(5, .int (nI (w + 1))), (4, .int (nI 0)), (0, .ref (ad 0)), (1, .int (nI va)), (2, .int (nI se)), (3, .int (nI i))]) hx hb dX5_findEnd_77 hl (k := 5) rfl (by rw [show Int32.ofInt 1 = nI 1 from by decide, nI_add]) (by decide) rfl (fun ls hl => ?_)
                  refine lv_goto (tgt := 25) hx hb dX5_findEnd_80 (by decide) ?_
                  refine lv_iload hx hb dX5_findEnd_25 (lv_at hl 0 rfl) ?_
                  refine lv_iconst (v := nI 4) hx hb dX5_findEnd_27 (by decide) ?_
                  refine lv_icmp_ge (tgt := 83) hx hb dX5_findEnd_28 (by decide) (fun c28_11 => ?_) (fun c28_11 => ?_)
                  · have c28_11 : 4 ≤ w + 1 := (nI_leI (a := 4) (b := w + 1) (by omega) (by omega)).mp c28_11
                    refine lv_iload hx hb dX5_findEnd_83 (lv_at hl 1 rfl) ?_
                    refine lv_if_eq (tgt := 90) hx hb dX5_findEnd_85 (by decide) (fun c85_12 => ?_) (fun c85_12 => absurd (by decide) c85_12)
                    refine lv_iinc (v := nI (i + 1)) (lv' := [(3, .int (nI (i + 1))), (5, .int (nI (w + 1))), (4, .int (nI 0)), (0, .ref (ad 0)), (1, .int (nI va)), (2, .int (nI se))]) hx hb dX5_findEnd_90 hl (k := 5) rfl (by rw [show Int32.ofInt 1 = nI 1 from by decide, nI_add]) (by decide) rfl (fun ls hl => ?_)
                    refine lv_goto (tgt := 2) hx hb dX5_findEnd_93 (by decide) ?_
                    exact ih2 (i + 1) (by omega) (lt_s (p := fun j => endM (f 5) g va se (t j) = false) hall (endM_f (fun q => (q.2 w (by omega)).elim c42_5 c67_10))) (by omega) _ (lv_sub hl [3, 4, 5, 0] rfl)
                  · have c28_11 : ¬ (4 ≤ w + 1) := fun h9 => c28_11 ((nI_leI (a := 4) (b := w + 1) (by omega) (by omega)).mpr h9)
                    refine lv_iload hx hb dX5_findEnd_31 (lv_at hl 1 rfl) ?_
                    refine lv_if_eq (tgt := 83) hx hb dX5_findEnd_33 (by decide) (fun c33_13 => ?_) (fun c33_13 => absurd (by decide) c33_13)
                    refine lv_iload hx hb dX5_findEnd_83 (lv_at hl 1 rfl) ?_
                    refine lv_if_eq (tgt := 90) hx hb dX5_findEnd_85 (by decide) (fun c85_14 => ?_) (fun c85_14 => absurd (by decide) c85_14)
                    refine lv_iinc (v := nI (i + 1)) (lv' := [(3, .int (nI (i + 1))), (5, .int (nI (w + 1))), (4, .int (nI 0)), (0, .ref (ad 0)), (1, .int (nI va)), (2, .int (nI se))]) hx hb dX5_findEnd_90 hl (k := 5) rfl (by rw [show Int32.ofInt 1 = nI 1 from by decide, nI_add]) (by decide) rfl (fun ls hl => ?_)
                    refine lv_goto (tgt := 2) hx hb dX5_findEnd_93 (by decide) ?_
                    exact ih2 (i + 1) (by omega) (lt_s (p := fun j => endM (f 5) g va se (t j) = false) hall (endM_f (fun q => (q.2 w (by omega)).elim c42_5 c67_10))) (by omega) _ (lv_sub hl [3, 4, 5, 0] rfl)
                · have c67_10 : bitsN (t i) (2 * w) 2 = va / 2 ^ (2 * w) % 4 := (nI_eqG (a := bitsN (t i) (2 * w) 2) (b := va / 2 ^ (2 * w) % 4) (by omega) (by omega)).mp c67_10
                  refine lv_iconst (v := nI 1) hx hb dX5_findEnd_70 (by decide) ?_
                  refine lv_goto (tgt := 75) hx hb dX5_findEnd_71 (by decide) ?_
                  refine lv_istore (lv' := [(4, .int (nI 1)), (0, .ref (ad 0)), (1, .int (nI va)), (2, .int (nI se)), (3, .int (nI i)), (5, .int (nI w))]) hx hb dX5_findEnd_75 hl (by decide) rfl (fun ls hl => ?_)
                  refine lv_iinc (v := nI (w + 1)) (lv' := [(5, .int (nI (w + 1))), (4, .int (nI 1)), (0, .ref (ad 0)), (1, .int (nI va)), (2, .int (nI se)), (3, .int (nI i))]) hx hb dX5_findEnd_77 hl (k := 5) rfl (by rw [show Int32.ofInt 1 = nI 1 from by decide, nI_add]) (by decide) rfl (fun ls hl => ?_)
                  refine lv_goto (tgt := 25) hx hb dX5_findEnd_80 (by decide) ?_
                  refine lv_iload hx hb dX5_findEnd_25 (lv_at hl 0 rfl) ?_
                  refine lv_iconst (v := nI 4) hx hb dX5_findEnd_27 (by decide) ?_
                  refine lv_icmp_ge (tgt := 83) hx hb dX5_findEnd_28 (by decide) (fun c28_15 => ?_) (fun c28_15 => ?_)
                  · have c28_15 : 4 ≤ w + 1 := (nI_leI (a := 4) (b := w + 1) (by omega) (by omega)).mp c28_15
                    refine lv_iload hx hb dX5_findEnd_83 (lv_at hl 1 rfl) ?_
                    refine lv_if_eq (tgt := 90) hx hb dX5_findEnd_85 (by decide) (fun c85_16 => absurd c85_16 (by decide)) (fun c85_16 => ?_)
                    refine lv_iload_n hx hb dX5_findEnd_88 rfl (lv_at hl 5 rfl) ?_
                    subst hQ
                    exact rti hx hb hr hlocks rfl (congrArg nI (findN_at (P := fun i => endM (f 5) g va se (t i)) (by omega) hall (endM_t ⟨hgd, fun v hv => (lt_s (p := fun v => askedM va se (t i) v) hsm (Or.inr c67_10)) v (by omega)⟩)).symm) dX5_findEnd_89
                  · have c28_15 : ¬ (4 ≤ w + 1) := fun h9 => c28_15 ((nI_leI (a := 4) (b := w + 1) (by omega) (by omega)).mpr h9)
                    refine lv_iload hx hb dX5_findEnd_31 (lv_at hl 1 rfl) ?_
                    refine lv_if_eq (tgt := 83) hx hb dX5_findEnd_33 (by decide) (fun c33_17 => absurd c33_17 (by decide)) (fun c33_17 => ?_)
                    exact ih36 (w + 1) (by omega) (hgd) (lt_s (p := fun v => askedM va se (t i) v) hsm (Or.inr c67_10)) (by omega) _ (lv_sub hl [2, 3, 4, 5, 0] rfl)
          exact L36_60 (4 + 1) 0 (by omega) (c33_3) (fun v hv => absurd hv (Nat.not_lt_zero v)) (Nat.lt_succ_self _) _ (lv_sub hl [2, 3, 4, 5, 0] rfl)
  exact L2_17 ((f 19 - 0) + 1) 0 (by omega) (fun j hj => absurd hj (Nat.not_lt_zero j)) (Nat.lt_succ_self _) _ (lv_sub hl [1, 2, 3, 0] rfl)

abbrev wW (wa wb wc wd : Nat) (kw0 kw1 kw2 : ClassId) (L M sp cn en ge be tl : Nat) (ts og sl : Nat → Nat) : va_W := [(wa, .inr (3, [.ref wb, .ref wc, .ref wd, .int (nI sp), .int (nI cn), .int (nI en), .int (nI ge), .int (nI be), .int (nI tl)])), (wb, .inl (kw0, L, .inr (.inl (lA ts)))), (wc, .inl (kw1, L, .inl (nA og))), (wd, .inl (kw2, M, .inl (nA sl)))]
abbrev wT (kw0 kw1 kw2 : ClassId) : List (ClassId × FieldType) := [(kw0, .long), (kw1, .int), (kw2, .int)]
theorem z_uc : ∀ k, k < 32 → ((nI k).toUInt32 &&& Int32.toUInt32 31) = UInt32.ofNat k := by decide +kernel
theorem z_ushr {x k : Nat} (hx : x < 2 ^ 32) (hk : k < 32) : ((nI x).toUInt32 >>> ((nI k).toUInt32 &&& Int32.toUInt32 31)).toInt32 = nI (x / 2 ^ k) := by
  rw [z_uc k hk]
  apply Int32.toBitVec_inj.mp
  apply BitVec.eq_of_toNat_eq
  show ((nI x).toUInt32 >>> UInt32.ofNat k).toNat = (BitVec.ofNat 32 _).toNat
  have h1 : (UInt32.ofNat k).toNat = k := by
    show (BitVec.ofNat 32 k).toNat = k
    rw [BitVec.toNat_ofNat, Nat.mod_eq_of_lt (by omega)]
  have h2 : (nI x).toUInt32.toNat = x := by
    show (BitVec.ofNat 32 x).toNat = x
    rw [BitVec.toNat_ofNat, Nat.mod_eq_of_lt hx]
  rw [UInt32.toNat_shiftRight, h1, h2, Nat.mod_eq_of_lt hk, Nat.shiftRight_eq_div_pow, BitVec.toNat_ofNat, Nat.mod_eq_of_lt (Nat.lt_of_le_of_lt (Nat.div_le_self _ _) hx)]
theorem z_maskM {n M : Nat} (hM : M = 1024 ∨ M = 16384) : nI n &&& nI (M - 1) = nI (n % M) := by
  rcases hM with rfl | rfl
  · exact fa_mask n 10
  · exact fa_mask n 14
def hashC (x : Nat) : Nat := (lN x * (-7046029254386353131)).toBitVec.toNat / 2 ^ 40
theorem z_hash {x M : Nat} (hM : M = 1024 ∨ M = 16384) : ((lN x * (-7046029254386353131)).toUInt64 >>> ((nI 40).toInt64.toUInt64 &&& Int64.toUInt64 63)).toInt64.toInt32 &&& nI (M - 1) = nI (hashC x % M) := by
  obtain ⟨n, hn, e⟩ := wb_of (lN x * (-7046029254386353131))
  unfold hashC
  rw [e, wb_shr hn (by decide), lN_i, z_maskM hM, wb_tn hn]
/-- the slot that is found from p on, in n tries -/
def prb (M sp : Nat) (ts sl : Nat → Nat) (x : Nat) : Nat → Nat → Nat
  | 0, p => p
  | n + 1, p => if sl p / 16384 = sp ∧ ¬ ts (sl p % 16384) = x then prb M sp ts sl x n ((p + 1) % M) else p
def slotC (M sp : Nat) (ts sl : Nat → Nat) (x : Nat) : Nat := prb M sp ts sl x (M - 1) (hashC x % M)
theorem prb_lt {M sp : Nat} {ts sl : Nat → Nat} {x : Nat} (hM : 0 < M) : ∀ n p, p < M → prb M sp ts sl x n p < M := by
  intro n
  induction n with
  | zero => intro p hp; exact hp
  | succ n ih => intro p hp; rw [prb]; split; exact ih _ (Nat.mod_lt _ hM); exact hp
theorem slotC_lt {M sp : Nat} {ts sl : Nat → Nat} {x : Nat} (hM : 0 < M) : slotC M sp ts sl x < M := prb_lt hM _ _ (Nat.mod_lt _ hM)
theorem prb_go {M sp : Nat} {ts sl : Nat → Nat} {x tr p : Nat} (h : tr < M - 1) (h1 : sl p / 16384 = sp) (h2 : ¬ ts (sl p % 16384) = x) : prb M sp ts sl x (M - 1 - (tr + 1)) ((p + 1) % M) = prb M sp ts sl x (M - 1 - tr) p := by
  rw [show M - 1 - tr = (M - 1 - (tr + 1)) + 1 by omega, prb, if_pos ⟨h1, h2⟩]
theorem prb_stop {M sp : Nat} {ts sl : Nat → Nat} {x tr p : Nat} (h : tr < M - 1) (h1 : ¬ (sl p / 16384 = sp ∧ ¬ ts (sl p % 16384) = x)) : prb M sp ts sl x (M - 1 - tr) p = p := by
  rw [show M - 1 - tr = (M - 1 - (tr + 1)) + 1 by omega, prb, if_neg h1]
theorem prb_end {M sp : Nat} {ts sl : Nat → Nat} {x tr p : Nat} (h : M - 1 ≤ tr) : prb M sp ts sl x (M - 1 - tr) p = p := by
  rw [show M - 1 - tr = 0 by omega, prb]
/-- the steps of the row to a state, by the rows of what is ahead -/
def stpC (og : Nat → Nat) : Nat → Nat → Nat
  | 0, _ => 0
  | n + 1, a => if a = 0 then 0 else stpC og n (og a / 16) + 1
theorem stpC_le (og : Nat → Nat) : ∀ n a, stpC og n a ≤ n := by
  intro n
  induction n with
  | zero => intro a; exact Nat.le_refl 0
  | succ n ih => intro a; rw [stpC]; split; exact Nat.zero_le _; exact Nat.succ_le_succ (ih _)
theorem stp_go {og : Nat → Nat} {k x : Nat} (h : k < 32) (hx : ¬ x = 0) : stpC og (32 - (k + 1)) (og x / 16) + (k + 1) = stpC og (32 - k) x + k := by
  rw [show 32 - k = (32 - (k + 1)) + 1 by omega, stpC, if_neg hx]; omega
theorem stp_z {og : Nat → Nat} {k x : Nat} (hx : x = 0) : stpC og (32 - k) x + k = k := by
  subst hx
  cases h : 32 - k with
  | zero => rw [stpC]; omega
  | succ n => rw [stpC, if_pos rfl]; omega
theorem stp_e {og : Nat → Nat} {k x : Nat} (h : 32 ≤ k) : stpC og (32 - k) x + k = k := by
  rw [show 32 - k = 0 by omega, stpC]; omega
set_option maxHeartbeats 4000000 in
set_option maxRecDepth 100000 in
theorem c_X3_isTaken (l : Launch) (D : va_G) (wa wb wc wd : Nat) (kw0 kw1 kw2 : ClassId) (L M sp cn en ge be tl : Nat) (ts og sl : Nat → Nat) (q : Nat) (hq : q < M) (hM : M = 1024 ∨ M = 16384) (hsl : ∀ j, sl j < 2147483648) (hsp : sp < 131072) : Met l yX3_isTaken (.code yX3_isTaken cX3_isTaken 2 (some .boolean) :: wsL_law) ({ frames := 0, cells := 0, slots := 0, locals := 0 }) (va_Pc [.ref wa, .int (nI q)] (PR D (wW wa wb wc wd kw0 kw1 kw2 L M sp cn en ge be tl ts og sl) (wT kw0 kw1 kw2))) (QrI (bP (sl q / 16384 = sp))) 0 0 (fun _ => False) := by
  refine Met.ofW (cc := cX3_isTaken) (maxL := 2) (ret := (some .boolean)) (by decide) rfl ?_
  intro p e s m args below meth c s₁ B hml hv
  obtain ⟨rfl, hP, hK⟩ := hv
  have hx := B.exec
  have hb := B.bytes
  have hr := B.returns
  have hts := atoms_spec (ws := .code yX3_isTaken cX3_isTaken 2 (some .boolean) :: wsL_law) B.pre
  have hU : ∀ w ∈ wsL_law, w.before _ s = true := fun w h => hts w (List.mem_cons_of_mem _ h)
  have hown : s.vm.findClass RX3 = some m.cls := findClass_of_methodNamed B.named
  have hlocks := B.notSynchronized
  generalize hQ : MQ _ _ _ _ _ _ _ = Q
  have hl := lv_entry ([.ref wa, .int (nI q)]) (n := 2) (Nat.le_of_ble_eq_true rfl)
  rw [lg_entry_eq]
  generalize (lg_sl ([.ref wa, .int (nI q)]) ++ List.replicate (2 - (lg_sl ([.ref wa, .int (nI q)])).length) Slot.unset).toArray = ls at hl ⊢
  have hl : lv_has ls 2 [(0, .ref wa), (1, .int (nI q))] := hl
  refine lv_aload_n hx hb dX3_isTaken_0 rfl (lv_at hl 0 rfl) ?_
  refine va_get (D := D) (ci := 3) (v := .ref wd) (C := RX3) (T := TX3) (N := 9) hx hb hU iX3 hown hK hP 0 rfl rfl 2 (by decide) (hU _ mU_64) (fun _ h9 => h9) rfl dX3_isTaken_1 ?_
  refine lv_iload_n hx hb dX3_isTaken_4 rfl (lv_at hl 1 rfl) ?_
  refine n_iald hx hb hK hP 3 2 rfl rfl (i := q) (by omega) (by omega) dX3_isTaken_5 ?_
  have hb_1 := hsl  q
  refine lv_bipush (v := nI 14) hx hb dX3_isTaken_6 (by decide) ?_
  refine lv_iushr hx hb dX3_isTaken_8 rfl ?_
  refine lv_topE (nI (sl q / 16384)) (z_ushr (k := 14) (by omega) (by decide)) ?_
  refine lv_aload_n hx hb dX3_isTaken_9 rfl (lv_at hl 0 rfl) ?_
  refine va_get (D := D) (ci := 3) (v := .int (nI sp)) (C := RX3) (T := TX3) (N := 9) hx hb hU iX3 hown hK hP 0 rfl rfl 3 (by decide) (hU _ mU_65) (fun _ h9 => h9) rfl dX3_isTaken_10 ?_
  refine lv_icmp_ne (tgt := 20) hx hb dX3_isTaken_13 (by decide) (fun c13_2 => ?_) (fun c13_2 => ?_)
  · have c13_2 : ¬ (sl q / 16384 = sp) := fun h9 => c13_2 ((nI_eqG (a := sl q / 16384) (b := sp) (by omega) (by omega)).mpr h9)
    refine lv_iconst (v := nI 0) hx hb dX3_isTaken_20 (by decide) ?_
    subst hQ
    exact rtz hx hb hr hlocks rfl rfl (bP_0 c13_2) dX3_isTaken_21
  · have c13_2 : sl q / 16384 = sp := (nI_eqG (a := sl q / 16384) (b := sp) (by omega) (by omega)).mp c13_2
    refine lv_iconst (v := nI 1) hx hb dX3_isTaken_16 (by decide) ?_
    refine lv_goto (tgt := 21) hx hb dX3_isTaken_17 (by decide) ?_
    subst hQ
    exact rtz hx hb hr hlocks rfl rfl (bP_1 c13_2) dX3_isTaken_21

set_option maxHeartbeats 4000000 in
set_option maxRecDepth 100000 in
theorem c_X3_slotOf (l : Launch) (D : va_G) (wa wb wc wd : Nat) (kw0 kw1 kw2 : ClassId) (L M sp cn en ge be tl : Nat) (ts og sl : Nat → Nat) (sx : Nat) (hM : M = 1024 ∨ M = 16384) (hsl : ∀ j, sl j < 2147483648) (hsp : sp < 131072) (hts9 : ∀ j, ts j < 2 ^ 44) (hix : ∀ p, p < M → sl p / 16384 = sp → sl p % 16384 < L) (hL9 : L ≤ 12000) (hsx : sx < 2 ^ 44) : Met l yX3_slotOf (.code yX3_slotOf cX3_slotOf 6 (some .int) :: wsL_law) ({ frames := 1, cells := 0, slots := 0, locals := 21 }) (va_Pc [.ref wa, .long (lN sx)] (PR D (wW wa wb wc wd kw0 kw1 kw2 L M sp cn en ge be tl ts og sl) (wT kw0 kw1 kw2))) (QrI (nI (slotC M sp ts sl sx))) 0 0 (fun _ => False) := by
  refine Met.ofW (cc := cX3_slotOf) (maxL := 6) (ret := (some .int)) (by decide) rfl ?_
  intro p e s m args below meth c s₁ B hml hv
  obtain ⟨rfl, hP, hK⟩ := hv
  have hx := B.exec
  have hb := B.bytes
  have hr := B.returns
  have hts := atoms_spec (ws := .code yX3_slotOf cX3_slotOf 6 (some .int) :: wsL_law) B.pre
  have hU : ∀ w ∈ wsL_law, w.before _ s = true := fun w h => hts w (List.mem_cons_of_mem _ h)
  have hown : s.vm.findClass RX3 = some m.cls := findClass_of_methodNamed B.named
  have hlocks := B.notSynchronized
  generalize hQ : MQ _ _ _ _ _ _ _ = Q
  have hl := lv_entry ([.ref wa, .long (lN sx)]) (n := 6) (Nat.le_of_ble_eq_true rfl)
  rw [lg_entry_eq]
  generalize (lg_sl ([.ref wa, .long (lN sx)]) ++ List.replicate (6 - (lg_sl ([.ref wa, .long (lN sx)])).length) Slot.unset).toArray = ls at hl ⊢
  have hl : lv_has ls 6 [(0, .ref wa), (1, .long (lN sx))] := hl
  refine lv_aload_n hx hb dX3_slotOf_0 rfl (lv_at hl 0 rfl) ?_
  refine va_get (D := D) (ci := 3) (v := .ref wd) (C := RX3) (T := TX3) (N := 9) hx hb hU iX3 hown hK hP 0 rfl rfl 2 (by decide) (hU _ mU_64) (fun _ h9 => h9) rfl dX3_slotOf_1 ?_
  refine va_alen (v := nI M) hx hb hK hP 3 2 rfl rfl rfl dX3_slotOf_4 ?_
  refine lv_iconst (v := nI 1) hx hb dX3_slotOf_5 (by decide) ?_
  refine lv_isub hx hb dX3_slotOf_6 ?_
  refine lv_topE (nI (M - 1)) (pk_sub (by omega)) ?_
  refine lv_istore_n (lv' := [(3, .int (nI (M - 1))), (0, .ref wa), (1, .long (lN sx))]) hx hb dX3_slotOf_7 rfl hl (by decide) rfl (fun ls hl => ?_)
  refine lv_lload_n hx hb dX3_slotOf_8 rfl (lv_at hl 2 rfl) ?_
  refine lv_ldc2 (v := (-7046029254386353131)) hx hb hown (hU _ mU_357) dX3_slotOf_9 ?_
  refine lv_lmul hx hb dX3_slotOf_12 ?_
  refine lv_bipush (v := nI 40) hx hb dX3_slotOf_13 (by decide) ?_
  refine lv_lushr hx hb dX3_slotOf_15 rfl ?_
  refine lv_l2i hx hb dX3_slotOf_16 rfl ?_
  refine lv_iload_n hx hb dX3_slotOf_17 rfl (lv_at hl 0 rfl) ?_
  refine lv_iand hx hb dX3_slotOf_18 ?_
  refine lv_topE (nI (hashC sx % M)) (z_hash hM) ?_
  refine lv_istore (lv' := [(4, .int (nI (hashC sx % M))), (3, .int (nI (M - 1))), (0, .ref wa), (1, .long (lN sx))]) hx hb dX3_slotOf_19 hl (by decide) rfl (fun ls hl => ?_)
  refine lv_iconst (v := nI 0) hx hb dX3_slotOf_21 (by decide) ?_
  refine lv_istore (lv' := [(5, .int (nI 0)), (4, .int (nI (hashC sx % M))), (3, .int (nI (M - 1))), (0, .ref wa), (1, .long (lN sx))]) hx hb dX3_slotOf_22 hl (by decide) rfl (fun ls hl => ?_)
  have L24_34 : ∀ (n : Nat) (tr : Nat) (p9 : Nat), (tr ≤ M - 1) → (p9 < M) → (prb M sp ts sl sx (M - 1 - tr) p9 = slotC M sp ts sl sx) → (M - tr) < n → ∀ ls : Array Slot, lv_has ls 6 [(0, .ref wa), (1, .long (lN sx)), (3, .int (nI (M - 1))), (4, .int (nI p9)), (5, .int (nI tr))] → W p l e ({ frames := 1, cells := 0, slots := 0, locals := 21 } : Room) s m (([.ref wa, .long (lN sx)] : List Value).toArray) below meth c s.heap [] 0 0 Q (F0 m 24 ls []) := by
    intro n24
    induction n24 with
    | zero => intro tr p9 htr hp9 hpr hm24; exact absurd hm24 (Nat.not_lt_zero _)
    | succ n24 ih24 =>
      intro tr p9 htr hp9 hpr hm24 ls hl
      refine lv_iload hx hb dX3_slotOf_24 (lv_at hl 4 rfl) ?_
      refine lv_iload_n hx hb dX3_slotOf_26 rfl (lv_at hl 2 rfl) ?_
      refine lv_icmp_ge (tgt := 77) hx hb dX3_slotOf_27 (by decide) (fun c27_1 => ?_) (fun c27_1 => ?_)
      · have c27_1 : M - 1 ≤ tr := (nI_leI (a := M - 1) (b := tr) (by omega) (by omega)).mp c27_1
        refine lv_iload hx hb dX3_slotOf_77 (lv_at hl 3 rfl) ?_
        subst hQ
        exact rti hx hb hr hlocks rfl (congrArg nI ((prb_end (by omega)).symm.trans hpr)) dX3_slotOf_79
      · have c27_1 : ¬ (M - 1 ≤ tr) := fun h9 => c27_1 ((nI_leI (a := M - 1) (b := tr) (by omega) (by omega)).mpr h9)
        refine lv_aload_n hx hb dX3_slotOf_30 rfl (lv_at hl 0 rfl) ?_
        refine lv_iload hx hb dX3_slotOf_31 (lv_at hl 3 rfl) ?_
        refine cVi (As := [.int (nI p9)]) (rest := []) ⟨hx, hb, hml, hown, hts⟩ (c_X3_isTaken l D wa wb wc wd kw0 kw1 kw2 L M sp cn en ge be tl ts og sl p9 (by omega) (hM) (hsl) (by omega)) (cwV 1 hts (gV mU_358 mU_359 mU_360 mU_31 mU_361) rfl rfl rfl (by decide +kernel) ⟨Nat.le_of_ble_eq_true rfl, Nat.le_of_ble_eq_true rfl⟩) fbR (va_recv hK hP (ci := 3) (q0 := 0) rfl rfl) (PR.of hP hK) rfl hl.1 rfl (Nat.le_of_ble_eq_true rfl) dX3_slotOf_33 ⟨Nat.zero_le _, Nat.zero_le _⟩ ?_
        refine lv_if_eq (tgt := 60) hx hb dX3_slotOf_36 (by decide) (fun c36_2 => ?_) (fun c36_2 => ?_)
        · have c36_2 : ¬ (sl p9 / 16384 = sp) := bP_f c36_2
          refine lv_iload hx hb dX3_slotOf_60 (lv_at hl 3 rfl) ?_
          subst hQ
          exact rti hx hb hr hlocks rfl (congrArg nI ((prb_stop (by omega) (fun q => c36_2 q.1)).symm.trans hpr)) dX3_slotOf_62
        · have c36_2 : sl p9 / 16384 = sp := bP_t c36_2
          refine lv_aload_n hx hb dX3_slotOf_39 rfl (lv_at hl 0 rfl) ?_
          refine va_get (D := D) (ci := 3) (v := .ref wb) (C := RX3) (T := TX3) (N := 9) hx hb hU iX3 hown hK hP 0 rfl rfl 0 (by decide) (hU _ mU_62) (fun _ h9 => h9) rfl dX3_slotOf_40 ?_
          refine lv_aload_n hx hb dX3_slotOf_43 rfl (lv_at hl 0 rfl) ?_
          refine va_get (D := D) (ci := 3) (v := .ref wd) (C := RX3) (T := TX3) (N := 9) hx hb hU iX3 hown hK hP 0 rfl rfl 2 (by decide) (hU _ mU_64) (fun _ h9 => h9) rfl dX3_slotOf_44 ?_
          refine lv_iload hx hb dX3_slotOf_47 (lv_at hl 3 rfl) ?_
          refine n_iald hx hb hK hP 3 2 rfl rfl (i := p9) (by omega) (by omega) dX3_slotOf_49 ?_
          have hb_3 := hsl  p9
          refine lv_sipush (v := nI 16383) hx hb dX3_slotOf_50 (by decide) ?_
          refine lv_iand hx hb dX3_slotOf_53 ?_
          refine lv_topE (nI (sl p9 % 16384)) (fa_mask _ 14) ?_
          have hi9 := hix p9 hp9 c36_2
          refine n_lald hx hb hK hP 1 0 rfl rfl (i := sl p9 % 16384) (by omega) (by omega) dX3_slotOf_54 ?_
          have hb_4 := hts9  (sl p9 % 16384)
          have ht9 := hts9 (sl p9 % 16384)
          refine lv_lload_n hx hb dX3_slotOf_55 rfl (lv_at hl 1 rfl) ?_
          refine W.lcmp hx hb dX3_slotOf_56 ?_
          refine lv_if_ne (tgt := 63) hx hb dX3_slotOf_57 (by decide) (fun c57_5 => ?_) (fun c57_5 => ?_)
          · have c57_5 : ¬ (ts (sl p9 % 16384) = sx) := fun h9 => c57_5 ((lg_cmp_eq _ _).mpr ((pk_lEQ (a := ts (sl p9 % 16384)) (b := sx) (by omega) (by omega)).mpr h9))
            refine lv_iload hx hb dX3_slotOf_63 (lv_at hl 3 rfl) ?_
            refine lv_iconst (v := nI 1) hx hb dX3_slotOf_65 (by decide) ?_
            refine lv_iadd hx hb dX3_slotOf_66 ?_
            refine lv_topE (nI (p9 + 1)) (nI_add _ _) ?_
            refine lv_iload_n hx hb dX3_slotOf_67 rfl (lv_at hl 2 rfl) ?_
            refine lv_iand hx hb dX3_slotOf_68 ?_
            refine lv_topE (nI ((p9 + 1) % M)) (z_maskM hM) ?_
            refine lv_istore (lv' := [(4, .int (nI ((p9 + 1) % M))), (0, .ref wa), (1, .long (lN sx)), (3, .int (nI (M - 1))), (5, .int (nI tr))]) hx hb dX3_slotOf_69 hl (by decide) rfl (fun ls hl => ?_)
            refine lv_iinc (v := nI (tr + 1)) (lv' := [(5, .int (nI (tr + 1))), (4, .int (nI ((p9 + 1) % M))), (0, .ref wa), (1, .long (lN sx)), (3, .int (nI (M - 1)))]) hx hb dX3_slotOf_71 hl (k := 4) rfl (by rw [show Int32.ofInt 1 = nI 1 from by decide, nI_add]) (by decide) rfl (fun ls hl => ?_)
            refine lv_goto (tgt := 24) hx hb dX3_slotOf_74 (by decide) ?_
            exact ih24 (tr + 1) ((p9 + 1) % M) (by omega) (Nat.mod_lt _ (by omega)) ((prb_go (by omega) c36_2 c57_5).trans hpr) (by omega) _ (lv_sub hl [2, 3, 4, 1, 0] rfl)
          · have c57_5 : ts (sl p9 % 16384) = sx := (pk_lEQ (a := ts (sl p9 % 16384)) (b := sx) (by omega) (by omega)).mp ((lg_cmp_eq _ _).mp c57_5)
            refine lv_iload hx hb dX3_slotOf_60 (lv_at hl 3 rfl) ?_
            subst hQ
            exact rti hx hb hr hlocks rfl (congrArg nI ((prb_stop (by omega) (fun q => q.2 c57_5)).symm.trans hpr)) dX3_slotOf_62
  exact L24_34 ((M - 0) + 1) 0 (hashC sx % M) (by omega) (Nat.mod_lt _ (by omega)) (rfl) (Nat.lt_succ_self _) _ (lv_sub hl [3, 4, 2, 1, 0] rfl)

set_option maxHeartbeats 4000000 in
set_option maxRecDepth 100000 in
theorem c_X3_first (l : Launch) (D : va_G) (wa wb wc wd : Nat) (kw0 kw1 kw2 : ClassId) (L M sp cn en ge be tl : Nat) (ts og sl : Nat → Nat) (mk : Nat) (wn : Nat) (hts9 : ∀ j, ts j < 2 ^ 44) (hL9 : L ≤ 12000) (hcn : cn ≤ L) (hmk : mk < 2 ^ 64) (hwn : wn < 2 ^ 63) : Met l yX3_first (.code yX3_first cX3_first 6 (some .int) :: wsL_law) ({ frames := 0, cells := 0, slots := 0, locals := 0 }) (va_Pc [.ref wa, .long (lN mk), .long (lN wn)] (PR D (wW wa wb wc wd kw0 kw1 kw2 L M sp cn en ge be tl ts og sl) (wT kw0 kw1 kw2))) (QrI (nI (findN (fun i => decide (ts i &&& mk = wn)) cn))) 0 0 (fun _ => False) := by
  refine Met.ofW (cc := cX3_first) (maxL := 6) (ret := (some .int)) (by decide) rfl ?_
  intro p e s m args below meth c s₁ B hml hv
  obtain ⟨rfl, hP, hK⟩ := hv
  have hx := B.exec
  have hb := B.bytes
  have hr := B.returns
  have hts := atoms_spec (ws := .code yX3_first cX3_first 6 (some .int) :: wsL_law) B.pre
  have hU : ∀ w ∈ wsL_law, w.before _ s = true := fun w h => hts w (List.mem_cons_of_mem _ h)
  have hown : s.vm.findClass RX3 = some m.cls := findClass_of_methodNamed B.named
  have hlocks := B.notSynchronized
  generalize hQ : MQ _ _ _ _ _ _ _ = Q
  have hl := lv_entry ([.ref wa, .long (lN mk), .long (lN wn)]) (n := 6) (Nat.le_of_ble_eq_true rfl)
  rw [lg_entry_eq]
  generalize (lg_sl ([.ref wa, .long (lN mk), .long (lN wn)]) ++ List.replicate (6 - (lg_sl ([.ref wa, .long (lN mk), .long (lN wn)])).length) Slot.unset).toArray = ls at hl ⊢
  have hl : lv_has ls 6 [(0, .ref wa), (1, .long (lN mk)), (3, .long (lN wn))] := hl
  refine lv_iconst (v := nI 0) hx hb dX3_first_0 (by decide) ?_
  refine lv_istore (lv' := [(5, .int (nI 0)), (0, .ref wa), (1, .long (lN mk)), (3, .long (lN wn))]) hx hb dX3_first_1 hl (by decide) rfl (fun ls hl => ?_)
  have L3_17 : ∀ (n : Nat) (i : Nat), (i ≤ cn) → (∀ j, j < i → decide (ts j &&& mk = wn) = false) → (cn - i) < n → ∀ ls : Array Slot, lv_has ls 6 [(0, .ref wa), (1, .long (lN mk)), (3, .long (lN wn)), (5, .int (nI i))] → W p l e ({ frames := 0, cells := 0, slots := 0, locals := 0 } : Room) s m (([.ref wa, .long (lN mk), .long (lN wn)] : List Value).toArray) below meth c s.heap [] 0 0 Q (F0 m 3 ls []) := by
    intro n3
    induction n3 with
    | zero => intro i hi hall hm3; exact absurd hm3 (Nat.not_lt_zero _)
    | succ n3 ih3 =>
      intro i hi hall hm3 ls hl
      refine lv_iload hx hb dX3_first_3 (lv_at hl 3 rfl) ?_
      refine lv_aload_n hx hb dX3_first_5 rfl (lv_at hl 0 rfl) ?_
      refine va_get (D := D) (ci := 3) (v := .int (nI cn)) (C := RX3) (T := TX3) (N := 9) hx hb hU iX3 hown hK hP 0 rfl rfl 4 (by decide) (hU _ mU_66) (fun _ h9 => h9) rfl dX3_first_6 ?_
      refine lv_icmp_ge (tgt := 35) hx hb dX3_first_9 (by decide) (fun c9_1 => ?_) (fun c9_1 => ?_)
      · have c9_1 : cn ≤ i := (nI_leI (a := cn) (b := i) (by omega) (by omega)).mp c9_1
        refine lv_iconst (v := nI 4294967295) hx hb dX3_first_35 (by decide) ?_
        subst hQ
        exact rti hx hb hr hlocks rfl (congrArg nI (findN_no (fun j hj => hall j (by omega))).symm) dX3_first_36
      · have c9_1 : ¬ (cn ≤ i) := fun h9 => c9_1 ((nI_leI (a := cn) (b := i) (by omega) (by omega)).mpr h9)
        refine lv_aload_n hx hb dX3_first_12 rfl (lv_at hl 0 rfl) ?_
        refine va_get (D := D) (ci := 3) (v := .ref wb) (C := RX3) (T := TX3) (N := 9) hx hb hU iX3 hown hK hP 0 rfl rfl 0 (by decide) (hU _ mU_62) (fun _ h9 => h9) rfl dX3_first_13 ?_
        refine lv_iload hx hb dX3_first_16 (lv_at hl 3 rfl) ?_
        refine n_lald hx hb hK hP 1 0 rfl rfl (i := i) (by omega) (by omega) dX3_first_18 ?_
        have hb_2 := hts9  i
        refine lv_lload_n hx hb dX3_first_19 rfl (lv_at hl 1 rfl) ?_
        refine lv_land hx hb dX3_first_20 ?_
        refine lv_topEl (lN (ts i &&& mk)) (wb_and (by omega) (by omega)) ?_
        have ha9 : ts i &&& mk ≤ ts i := Nat.and_le_left
        refine lv_lload_n hx hb dX3_first_21 rfl (lv_at hl 2 rfl) ?_
        refine W.lcmp hx hb dX3_first_22 ?_
        refine lv_if_ne (tgt := 29) hx hb dX3_first_23 (by decide) (fun c23_3 => ?_) (fun c23_3 => ?_)
        · have c23_3 : ¬ (ts i &&& mk = wn) := fun h9 => c23_3 ((lg_cmp_eq _ _).mpr ((pk_lEQ (a := ts i &&& mk) (b := wn) (by omega) (by omega)).mpr h9))
          refine lv_iinc (v := nI (i + 1)) (lv' := [(5, .int (nI (i + 1))), (0, .ref wa), (1, .long (lN mk)), (3, .long (lN wn))]) hx hb dX3_first_29 hl (k := 3) rfl (by rw [show Int32.ofInt 1 = nI 1 from by decide, nI_add]) (by decide) rfl (fun ls hl => ?_)
          refine lv_goto (tgt := 3) hx hb dX3_first_32 (by decide) ?_
          exact ih3 (i + 1) (by omega) (lt_s (p := fun j => decide (ts j &&& mk = wn) = false) hall (decide_eq_false c23_3)) (by omega) _ (lv_sub hl [1, 2, 3, 0] rfl)
        · have c23_3 : ts i &&& mk = wn := (pk_lEQ (a := ts i &&& mk) (b := wn) (by omega) (by omega)).mp ((lg_cmp_eq _ _).mp c23_3)
          refine lv_iload hx hb dX3_first_26 (lv_at hl 3 rfl) ?_
          subst hQ
          exact rti hx hb hr hlocks rfl (congrArg nI (findN_at (P := fun i => decide (ts i &&& mk = wn)) (by omega) hall (decide_eq_true c23_3)).symm) dX3_first_28
  exact L3_17 ((cn - 0) + 1) 0 (by omega) (fun j hj => absurd hj (Nat.not_lt_zero j)) (Nat.lt_succ_self _) _ (lv_sub hl [1, 2, 3, 0] rfl)

set_option maxHeartbeats 4000000 in
set_option maxRecDepth 100000 in
theorem c_X3_stepsTo (l : Launch) (D : va_G) (wa wb wc wd : Nat) (kw0 kw1 kw2 : ClassId) (L M sp cn en ge be tl : Nat) (ts og sl : Nat → Nat) (i : Nat) (hog : ∀ j, og j < 2147483648) (hoc : ∀ j, j < cn → og j / 16 < cn) (hL9 : L ≤ 12000) (hcn : cn ≤ L) (hi : i < cn) : Met l yX3_stepsTo (.code yX3_stepsTo cX3_stepsTo 4 (some .int) :: wsL_law) ({ frames := 0, cells := 0, slots := 0, locals := 0 }) (va_Pc [.ref wa, .int (nI i)] (PR D (wW wa wb wc wd kw0 kw1 kw2 L M sp cn en ge be tl ts og sl) (wT kw0 kw1 kw2))) (QrI (nI (stpC og 32 i))) 0 0 (fun _ => False) := by
  refine Met.ofW (cc := cX3_stepsTo) (maxL := 4) (ret := (some .int)) (by decide) rfl ?_
  intro p e s m args below meth c s₁ B hml hv
  obtain ⟨rfl, hP, hK⟩ := hv
  have hx := B.exec
  have hb := B.bytes
  have hr := B.returns
  have hts := atoms_spec (ws := .code yX3_stepsTo cX3_stepsTo 4 (some .int) :: wsL_law) B.pre
  have hU : ∀ w ∈ wsL_law, w.before _ s = true := fun w h => hts w (List.mem_cons_of_mem _ h)
  have hown : s.vm.findClass RX3 = some m.cls := findClass_of_methodNamed B.named
  have hlocks := B.notSynchronized
  generalize hQ : MQ _ _ _ _ _ _ _ = Q
  have hl := lv_entry ([.ref wa, .int (nI i)]) (n := 4) (Nat.le_of_ble_eq_true rfl)
  rw [lg_entry_eq]
  generalize (lg_sl ([.ref wa, .int (nI i)]) ++ List.replicate (4 - (lg_sl ([.ref wa, .int (nI i)])).length) Slot.unset).toArray = ls at hl ⊢
  have hl : lv_has ls 4 [(0, .ref wa), (1, .int (nI i))] := hl
  refine lv_iconst (v := nI 0) hx hb dX3_stepsTo_0 (by decide) ?_
  refine lv_istore_n (lv' := [(2, .int (nI 0)), (0, .ref wa), (1, .int (nI i))]) hx hb dX3_stepsTo_1 rfl hl (by decide) rfl (fun ls hl => ?_)
  refine lv_iload_n hx hb dX3_stepsTo_2 rfl (lv_at hl 2 rfl) ?_
  refine lv_istore_n (lv' := [(3, .int (nI i)), (2, .int (nI 0)), (0, .ref wa), (1, .int (nI i))]) hx hb dX3_stepsTo_3 rfl hl (by decide) rfl (fun ls hl => ?_)
  have L4_19 : ∀ (n : Nat) (k : Nat) (x : Nat), (k ≤ 32) → (x < cn) → (stpC og (32 - k) x + k = stpC og 32 i) → (32 - k) < n → ∀ ls : Array Slot, lv_has ls 4 [(0, .ref wa), (2, .int (nI k)), (3, .int (nI x))] → W p l e ({ frames := 0, cells := 0, slots := 0, locals := 0 } : Room) s m (([.ref wa, .int (nI i)] : List Value).toArray) below meth c s.heap [] 0 0 Q (F0 m 4 ls []) := by
    intro n4
    induction n4 with
    | zero => intro k x hk hx9 hst hm4; exact absurd hm4 (Nat.not_lt_zero _)
    | succ n4 ih4 =>
      intro k x hk hx9 hst hm4 ls hl
      refine lv_iload_n hx hb dX3_stepsTo_4 rfl (lv_at hl 2 rfl) ?_
      refine lv_if_le (tgt := 29) hx hb dX3_stepsTo_5 (by decide) (fun c5_1 => ?_) (fun c5_1 => ?_)
      · have c5_1 : x = 0 := (nI_leZ (a := x) (by omega)).mp c5_1
        refine lv_iload_n hx hb dX3_stepsTo_29 rfl (lv_at hl 1 rfl) ?_
        subst hQ
        exact rti hx hb hr hlocks rfl (congrArg nI ((stp_z c5_1).symm.trans hst)) dX3_stepsTo_30
      · have c5_1 : ¬ (x = 0) := fun h9 => c5_1 ((nI_leZ (a := x) (by omega)).mpr h9)
        refine lv_iload_n hx hb dX3_stepsTo_8 rfl (lv_at hl 1 rfl) ?_
        refine lv_bipush (v := nI 32) hx hb dX3_stepsTo_9 (by decide) ?_
        refine lv_icmp_ge (tgt := 29) hx hb dX3_stepsTo_11 (by decide) (fun c11_2 => ?_) (fun c11_2 => ?_)
        · have c11_2 : 32 ≤ k := (nI_leI (a := 32) (b := k) (by omega) (by omega)).mp c11_2
          refine lv_iload_n hx hb dX3_stepsTo_29 rfl (lv_at hl 1 rfl) ?_
          subst hQ
          exact rti hx hb hr hlocks rfl (congrArg nI ((stp_e (by omega)).symm.trans hst)) dX3_stepsTo_30
        · have c11_2 : ¬ (32 ≤ k) := fun h9 => c11_2 ((nI_leI (a := 32) (b := k) (by omega) (by omega)).mpr h9)
          refine lv_iinc (v := nI (k + 1)) (lv' := [(2, .int (nI (k + 1))), (0, .ref wa), (3, .int (nI x))]) hx hb dX3_stepsTo_14 hl (k := 1) rfl (by rw [show Int32.ofInt 1 = nI 1 from by decide, nI_add]) (by decide) rfl (fun ls hl => ?_)
          refine lv_aload_n hx hb dX3_stepsTo_17 rfl (lv_at hl 1 rfl) ?_
          refine va_get (D := D) (ci := 3) (v := .ref wc) (C := RX3) (T := TX3) (N := 9) hx hb hU iX3 hown hK hP 0 rfl rfl 1 (by decide) (hU _ mU_63) (fun _ h9 => h9) rfl dX3_stepsTo_18 ?_
          refine lv_iload_n hx hb dX3_stepsTo_21 rfl (lv_at hl 2 rfl) ?_
          refine n_iald hx hb hK hP 2 1 rfl rfl (i := x) (by omega) (by omega) dX3_stepsTo_22 ?_
          have hb_3 := hog  x
          refine lv_iconst (v := nI 4) hx hb dX3_stepsTo_23 (by decide) ?_
          refine lv_iushr hx hb dX3_stepsTo_24 rfl ?_
          refine lv_topE (nI (og x / 16)) (z_ushr (k := 4) (by omega) (by decide)) ?_
          refine lv_istore_n (lv' := [(3, .int (nI (og x / 16))), (2, .int (nI (k + 1))), (0, .ref wa)]) hx hb dX3_stepsTo_25 rfl hl (by decide) rfl (fun ls hl => ?_)
          refine lv_goto (tgt := 4) hx hb dX3_stepsTo_26 (by decide) ?_
          exact ih4 (k + 1) (og x / 16) (by omega) (hoc x hx9) ((stp_go (by omega) c5_1).trans hst) (by omega) _ (lv_sub hl [2, 1, 0] rfl)
  exact L4_19 (32 + 1) 0 i (by omega) (hi) (rfl) (Nat.lt_succ_self _) _ (lv_sub hl [2, 1, 0] rfl)

set_option maxHeartbeats 4000000 in
set_option maxRecDepth 100000 in
theorem c_X3_mostSteps (l : Launch) (D : va_G) (wa wb wc wd : Nat) (kw0 kw1 kw2 : ClassId) (L M sp cn en ge be tl : Nat) (ts og sl : Nat → Nat)  (hog : ∀ j, og j < 2147483648) (hoc : ∀ j, j < cn → og j / 16 < cn) (hL9 : L ≤ 12000) (hcn : cn ≤ L) (hc1 : 1 ≤ cn) : Met l yX3_mostSteps (.code yX3_mostSteps cX3_mostSteps 1 (some .int) :: wsL_law) ({ frames := 1, cells := 0, slots := 0, locals := 23 }) (va_Pc [.ref wa] (PR D (wW wa wb wc wd kw0 kw1 kw2 L M sp cn en ge be tl ts og sl) (wT kw0 kw1 kw2))) (QrI (nI (stpC og 32 (cn - 1)))) 0 0 (fun _ => False) := by
  refine Met.ofW (cc := cX3_mostSteps) (maxL := 1) (ret := (some .int)) (by decide) rfl ?_
  intro p e s m args below meth c s₁ B hml hv
  obtain ⟨rfl, hP, hK⟩ := hv
  have hx := B.exec
  have hb := B.bytes
  have hr := B.returns
  have hts := atoms_spec (ws := .code yX3_mostSteps cX3_mostSteps 1 (some .int) :: wsL_law) B.pre
  have hU : ∀ w ∈ wsL_law, w.before _ s = true := fun w h => hts w (List.mem_cons_of_mem _ h)
  have hown : s.vm.findClass RX3 = some m.cls := findClass_of_methodNamed B.named
  have hlocks := B.notSynchronized
  generalize hQ : MQ _ _ _ _ _ _ _ = Q
  have hl := lv_entry ([.ref wa]) (n := 1) (Nat.le_of_ble_eq_true rfl)
  rw [lg_entry_eq]
  generalize (lg_sl ([.ref wa]) ++ List.replicate (1 - (lg_sl ([.ref wa])).length) Slot.unset).toArray = ls at hl ⊢
  have hl : lv_has ls 1 [(0, .ref wa)] := hl
  refine lv_aload_n hx hb dX3_mostSteps_0 rfl (lv_at hl 0 rfl) ?_
  refine lv_aload_n hx hb dX3_mostSteps_1 rfl (lv_at hl 0 rfl) ?_
  refine va_get (D := D) (ci := 3) (v := .int (nI cn)) (C := RX3) (T := TX3) (N := 9) hx hb hU iX3 hown hK hP 0 rfl rfl 4 (by decide) (hU _ mU_66) (fun _ h9 => h9) rfl dX3_mostSteps_2 ?_
  refine lv_iconst (v := nI 1) hx hb dX3_mostSteps_5 (by decide) ?_
  refine lv_isub hx hb dX3_mostSteps_6 ?_
  refine lv_topE (nI (cn - 1)) (pk_sub (by omega)) ?_
  refine cVi (As := [.int (nI (cn - 1))]) (rest := []) ⟨hx, hb, hml, hown, hts⟩ (c_X3_stepsTo l D wa wb wc wd kw0 kw1 kw2 L M sp cn en ge be tl ts og sl (cn - 1) (hog) (hoc) (by omega) (by omega) (by omega)) (cwV 1 hts (gV mU_539 mU_540 mU_541 mU_31 mU_542) rfl rfl rfl (by decide +kernel) ⟨Nat.le_of_ble_eq_true rfl, Nat.le_of_ble_eq_true rfl⟩) fbR (va_recv hK hP (ci := 3) (q0 := 0) rfl rfl) (PR.of hP hK) rfl hl.1 rfl (Nat.le_of_ble_eq_true rfl) dX3_mostSteps_7 ⟨Nat.zero_le _, Nat.zero_le _⟩ ?_
  have hf_1 : stpC og 32 (cn - 1) ≤ 32 := stpC_le _ _ _
  subst hQ
  exact rti hx hb hr hlocks rfl (rfl) dX3_mostSteps_10

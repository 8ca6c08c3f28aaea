def mOf (L : Nat) : Nat := if L = 700 then 1024 else 16384
abbrev xW (ad : Nat → Nat) (ka : Nat → ClassId) (L : Nat) (f : Nat → Nat) (g : Nat → Nat → Nat) : va_W := [(ad 0, .inr (4, [.ref (ad 1), .int (nI (f 0)), .ref (ad 2), .ref (ad 3), .ref (ad 6), .ref (ad 9), .ref (ad 19), .int (nI (f 1)), .ref (ad 23), .int (nI (f 2))])), (ad 1, .inl (ka 1, 200, .inl (nA (g 1)))), (ad 2, .inr (2, [.int (nI (f 3)), .int (nI (f 4)), .int (nI (f 5)), .int (nI (f 6))])), (ad 3, .inr (1, [.int (nI (f 7)), .ref (ad 4), .ref (ad 5)])), (ad 4, .inl (ka 4, 8, .inl (nA (g 4)))), (ad 5, .inl (ka 5, 32, .inl (nA (g 5)))), (ad 6, .inr (1, [.int (nI (f 8)), .ref (ad 7), .ref (ad 8)])), (ad 7, .inl (ka 7, 8, .inl (nA (g 7)))), (ad 8, .inl (ka 8, 32, .inl (nA (g 8)))), (ad 9, .inr (0, [.ref (ad 10), .ref (ad 11), .ref (ad 12), .int (nI (f 9))])), (ad 10, .inl (ka 10, 2, .inr (.inr (.inr (.inr (fun j => if j = 0 then some (ad 13) else some (ad 16))))))), (ad 11, .inl (ka 11, 4, .inl (nA (g 11)))), (ad 12, .inl (ka 12, 4, .inl (nA (g 12)))), (ad 13, .inr (1, [.int (nI (f 10)), .ref (ad 14), .ref (ad 15)])), (ad 14, .inl (ka 14, 8, .inl (nA (g 14)))), (ad 15, .inl (ka 15, 32, .inl (nA (g 15)))), (ad 16, .inr (1, [.int (nI (f 11)), .ref (ad 17), .ref (ad 18)])), (ad 17, .inl (ka 17, 8, .inl (nA (g 17)))), (ad 18, .inl (ka 18, 32, .inl (nA (g 18)))), (ad 19, .inr (3, [.ref (ad 20), .ref (ad 21), .ref (ad 22), .int (nI (f 12)), .int (nI (f 13)), .int (nI (f 14)), .int (nI (f 15)), .int (nI (f 16)), .int (nI (f 17))])), (ad 20, .inl (ka 20, L, .inr (.inl (lA (g 20))))), (ad 21, .inl (ka 21, L, .inl (nA (g 21)))), (ad 22, .inl (ka 22, mOf L, .inl (nA (g 22)))), (ad 23, .inl (ka 23, 32, .inl (nA (g 23))))]
abbrev xT (ka : Nat → ClassId) : List (ClassId × FieldType) := [(ka 1, .byte), (ka 4, .int), (ka 5, .int), (ka 7, .int), (ka 8, .int), (ka 10, .object "FarStore$Program"), (ka 11, .int), (ka 12, .int), (ka 14, .int), (ka 15, .int), (ka 17, .int), (ka 18, .int), (ka 20, .long), (ka 21, .int), (ka 22, .int), (ka 23, .int)]
abbrev XSt : Type := (Nat → Nat) × (Nat → ClassId) × Nat × (Nat → Nat) × (Nat → Nat → Nat)
def upK (k : Nat → ClassId) (i : Nat) (v : ClassId) : Nat → ClassId := fun j => if j = i then v else k j
theorem arrV_cg {cA : ClassId} {n : Nat} {f g : Nat → Value} (h : ∀ j, j < n → f j = g j) : arrV cA n f = arrV cA n g := by
  unfold arrV
  congr 1
  congr 1
  funext j
  exact h j.1 j.2
theorem P_cg {D : va_G} {cl : List vw_C} {ws : va_W} {q0 a : Nat} {cA : ClassId} {n : Nat} {f g : Nat → Option Nat} {H : Heap} (hP : va_P D cl (ws.set q0 (a, .inl (cA, n, .inr (.inr (.inr (.inr f)))))) H) (h : ∀ j, j < n → f j = g j) : va_P D cl (ws.set q0 (a, .inl (cA, n, .inr (.inr (.inr (.inr g)))))) H := fun k q hk => by
  rw [List.getElem?_set] at hk
  by_cases e : q0 = k
  · rw [if_pos e] at hk
    split at hk
    · rename_i hl
      cases hk
      have := hP q0 (a, .inl (cA, n, .inr (.inr (.inr (.inr f))))) (by rw [List.getElem?_set, if_pos rfl, if_pos (by omega)])
      have this : H[a]? = some (arrV cA n (fun j => va_rf (f j))) := this
      show H[a]? = some (arrV cA n (fun j => va_rf (g j)))
      rw [← arrV_cg (fun j hj => congrArg va_rf (h j hj))]
      exact this
    · cases hk
  · rw [if_neg e] at hk
    exact hP k q (by rw [List.getElem?_set, if_neg e]; exact hk)
/-- a byte as the class keeps it -/
def sb (q : Nat) : Nat := if q < 128 then q else q + 4294967040
theorem sb_fit {q : Nat} (h : q < 256) : sb q < 128 ∨ (4294967168 ≤ sb q ∧ sb q < 4294967296) := by unfold sb; split <;> omega
theorem z_i2b (n : Nat) : (nI n).toInt8.toInt32 = nI (sb (n % 256)) := by
  have h : nI n = nI (n % 2 ^ 32) := by
    apply Int32.toBitVec_inj.mp
    show BitVec.ofNat 32 n = BitVec.ofNat 32 (n % 2 ^ 32)
    apply BitVec.eq_of_toNat_eq
    rw [BitVec.toNat_ofNat, BitVec.toNat_ofNat, Nat.mod_mod]
  have hm : n % 2 ^ 32 % 256 = n % 256 := by omega
  rw [h, ← hm]
  have hl : n % 2 ^ 32 < 2 ^ 32 := Nat.mod_lt _ (by decide)
  generalize n % 2 ^ 32 = m at *
  have hb := sb_fit (q := m % 256) (Nat.mod_lt _ (by decide))
  rw [fa_eq, Int8.toInt_toInt32, Int32.toInt_toInt8, nI_toIntG hl, nI_toIntG (by omega)]
  unfold sb at *
  split <;> split <;> split <;> simp only [Int.bmod_def] <;> omega
def tapeC4 (q : Nat → Nat) (n v : Nat) : Nat → Nat := upN (upN (upN (upN q n (sb (v / 2 ^ 24 % 256))) (n + 1) (sb (v / 2 ^ 16 % 256))) (n + 2) (sb (v / 2 ^ 8 % 256))) (n + 3) (sb (v / 2 ^ 0 % 256))
def tapeC20 (q : Nat → Nat) (n a b c d e : Nat) : Nat → Nat := tapeC4 (tapeC4 (tapeC4 (tapeC4 (tapeC4 q n a) (n + 4) b) (n + 8) c) (n + 12) d) (n + 16) e
def aboutC (f : Nat → Nat) (g : Nat → Nat → Nat) (w : Nat) : Nat := if w = 0 then f 10 else if w = 1 then f 11 else if w = 2 then f 0 else if w = 3 then (if f 9 = 0 then 0 else 1) else if 10 ≤ w ∧ w ≤ 13 then g 11 (w - 10) else if 20 ≤ w ∧ w ≤ 23 then g 12 (w - 20) else 4294967295
def wmC (se : Nat) : Nat := 3 * (se / 2 ^ 0 % 2) + 12 * (se / 2 ^ 1 % 2) + 48 * (se / 2 ^ 2 % 2) + 192 * (se / 2 ^ 3 % 2)
theorem wmC_lt (se : Nat) : wmC se < 256 := by unfold wmC; omega
set_option maxHeartbeats 4000000 in
set_option maxRecDepth 100000 in
theorem c_X4_isHost (l : Launch) (h : Nat) (hh9 : h < 4294967296) : Met l yX4_isHost (.code yX4_isHost cX4_isHost 1 (some .boolean) :: wsL_law) ({ frames := 0, cells := 0, slots := 0, locals := 0 }) (va_Pc [.int (nI h)] PU) (QrI (bP (h ≤ 1))) 0 0 (fun _ => False) := by
  refine Met.ofW (cc := cX4_isHost) (maxL := 1) (ret := (some .boolean)) (by decide) rfl ?_
  intro p e s m args below meth c s₁ B hml hv
  obtain ⟨rfl, hv⟩ := hv
  have hx := B.exec
  have hb := B.bytes
  have hr := B.returns
  have hts := atoms_spec (ws := .code yX4_isHost cX4_isHost 1 (some .boolean) :: wsL_law) B.pre
  have hU : ∀ w ∈ wsL_law, w.before _ s = true := fun w h => hts w (List.mem_cons_of_mem _ h)
  have hown : s.vm.findClass RX4 = some m.cls := findClass_of_methodNamed B.named
  have hlocks := B.notSynchronized
  generalize hQ : MQ _ _ _ _ _ _ _ = Q
  have hl := lv_entry ([.int (nI h)]) (n := 1) (Nat.le_of_ble_eq_true rfl)
  rw [lg_entry_eq]
  generalize (lg_sl ([.int (nI h)]) ++ List.replicate (1 - (lg_sl ([.int (nI h)])).length) Slot.unset).toArray = ls at hl ⊢
  have hl : lv_has ls 1 [(0, .int (nI h))] := hl
  refine lv_iload_n hx hb dX4_isHost_0 rfl (lv_at hl 0 rfl) ?_
  refine lv_if_lt (tgt := 13) hx hb dX4_isHost_1 (by decide) (fun c1_1 => ?_) (fun c1_1 => ?_)
  · have c1_1 : (h < 0 ∧ (2147483648 ≤ h ∨ 0 < 2147483648)) ∨ (2147483648 ≤ h ∧ 0 < 2147483648) := (nI_ltG (a := h) (b := 0) (by omega) (by omega)).mp c1_1
    refine lv_iconst (v := nI 0) hx hb dX4_isHost_13 (by decide) ?_
    subst hQ
    exact rtz hx hb hr hlocks rfl rfl (bP_0 (by omega)) dX4_isHost_14
  · have c1_1 : ¬ ((h < 0 ∧ (2147483648 ≤ h ∨ 0 < 2147483648)) ∨ (2147483648 ≤ h ∧ 0 < 2147483648)) := fun h9 => c1_1 ((nI_ltG (a := h) (b := 0) (by omega) (by omega)).mpr h9)
    refine lv_iload_n hx hb dX4_isHost_4 rfl (lv_at hl 0 rfl) ?_
    refine lv_iconst (v := nI 2) hx hb dX4_isHost_5 (by decide) ?_
    refine lv_icmp_ge (tgt := 13) hx hb dX4_isHost_6 (by decide) (fun c6_2 => ?_) (fun c6_2 => ?_)
    · have c6_2 : (2 ≤ h ∧ (2147483648 ≤ 2 ∨ h < 2147483648)) ∨ (2147483648 ≤ 2 ∧ h < 2147483648) := (nI_leG (a := 2) (b := h) (by omega) (by omega)).mp c6_2
      refine lv_iconst (v := nI 0) hx hb dX4_isHost_13 (by decide) ?_
      subst hQ
      exact rtz hx hb hr hlocks rfl rfl (bP_0 (by omega)) dX4_isHost_14
    · have c6_2 : ¬ ((2 ≤ h ∧ (2147483648 ≤ 2 ∨ h < 2147483648)) ∨ (2147483648 ≤ 2 ∧ h < 2147483648)) := fun h9 => c6_2 ((nI_leG (a := 2) (b := h) (by omega) (by omega)).mpr h9)
      refine lv_iconst (v := nI 1) hx hb dX4_isHost_9 (by decide) ?_
      refine lv_goto (tgt := 14) hx hb dX4_isHost_10 (by decide) ?_
      subst hQ
      exact rtz hx hb hr hlocks rfl rfl (bP_1 (by omega)) dX4_isHost_14

set_option maxHeartbeats 4000000 in
set_option maxRecDepth 100000 in
theorem c_X4_isOutcome (l : Launch) (va : Nat) (se : Nat) (ha9 : va < 4294967296) (hs9 : se < 4294967296) : Met l yX4_isOutcome (.code yX4_isOutcome cX4_isOutcome 2 (some .boolean) :: wsL_law) ({ frames := 0, cells := 0, slots := 0, locals := 0 }) (va_Pc [.int (nI va), .int (nI se)] PU) (QrI (bP (va ≤ 255 ∧ se ≤ 15))) 0 0 (fun _ => False) := by
  refine Met.ofW (cc := cX4_isOutcome) (maxL := 2) (ret := (some .boolean)) (by decide) rfl ?_
  intro p e s m args below meth c s₁ B hml hv
  obtain ⟨rfl, hv⟩ := hv
  have hx := B.exec
  have hb := B.bytes
  have hr := B.returns
  have hts := atoms_spec (ws := .code yX4_isOutcome cX4_isOutcome 2 (some .boolean) :: wsL_law) B.pre
  have hU : ∀ w ∈ wsL_law, w.before _ s = true := fun w h => hts w (List.mem_cons_of_mem _ h)
  have hown : s.vm.findClass RX4 = some m.cls := findClass_of_methodNamed B.named
  have hlocks := B.notSynchronized
  generalize hQ : MQ _ _ _ _ _ _ _ = Q
  have hl := lv_entry ([.int (nI va), .int (nI se)]) (n := 2) (Nat.le_of_ble_eq_true rfl)
  rw [lg_entry_eq]
  generalize (lg_sl ([.int (nI va), .int (nI se)]) ++ List.replicate (2 - (lg_sl ([.int (nI va), .int (nI se)])).length) Slot.unset).toArray = ls at hl ⊢
  have hl : lv_has ls 2 [(0, .int (nI va)), (1, .int (nI se))] := hl
  refine lv_iload_n hx hb dX4_isOutcome_0 rfl (lv_at hl 0 rfl) ?_
  refine lv_if_lt (tgt := 25) hx hb dX4_isOutcome_1 (by decide) (fun c1_1 => ?_) (fun c1_1 => ?_)
  · have c1_1 : (va < 0 ∧ (2147483648 ≤ va ∨ 0 < 2147483648)) ∨ (2147483648 ≤ va ∧ 0 < 2147483648) := (nI_ltG (a := va) (b := 0) (by omega) (by omega)).mp c1_1
    refine lv_iconst (v := nI 0) hx hb dX4_isOutcome_25 (by decide) ?_
    subst hQ
    exact rtz hx hb hr hlocks rfl rfl (bP_0 (by omega)) dX4_isOutcome_26
  · have c1_1 : ¬ ((va < 0 ∧ (2147483648 ≤ va ∨ 0 < 2147483648)) ∨ (2147483648 ≤ va ∧ 0 < 2147483648)) := fun h9 => c1_1 ((nI_ltG (a := va) (b := 0) (by omega) (by omega)).mpr h9)
    refine lv_iload_n hx hb dX4_isOutcome_4 rfl (lv_at hl 0 rfl) ?_
    refine lv_sipush (v := nI 256) hx hb dX4_isOutcome_5 (by decide) ?_
    refine lv_icmp_ge (tgt := 25) hx hb dX4_isOutcome_8 (by decide) (fun c8_2 => ?_) (fun c8_2 => ?_)
    · have c8_2 : (256 ≤ va ∧ (2147483648 ≤ 256 ∨ va < 2147483648)) ∨ (2147483648 ≤ 256 ∧ va < 2147483648) := (nI_leG (a := 256) (b := va) (by omega) (by omega)).mp c8_2
      refine lv_iconst (v := nI 0) hx hb dX4_isOutcome_25 (by decide) ?_
      subst hQ
      exact rtz hx hb hr hlocks rfl rfl (bP_0 (by omega)) dX4_isOutcome_26
    · have c8_2 : ¬ ((256 ≤ va ∧ (2147483648 ≤ 256 ∨ va < 2147483648)) ∨ (2147483648 ≤ 256 ∧ va < 2147483648)) := fun h9 => c8_2 ((nI_leG (a := 256) (b := va) (by omega) (by omega)).mpr h9)
      refine lv_iload_n hx hb dX4_isOutcome_11 rfl (lv_at hl 1 rfl) ?_
      refine lv_if_lt (tgt := 25) hx hb dX4_isOutcome_12 (by decide) (fun c12_3 => ?_) (fun c12_3 => ?_)
      · have c12_3 : (se < 0 ∧ (2147483648 ≤ se ∨ 0 < 2147483648)) ∨ (2147483648 ≤ se ∧ 0 < 2147483648) := (nI_ltG (a := se) (b := 0) (by omega) (by omega)).mp c12_3
        refine lv_iconst (v := nI 0) hx hb dX4_isOutcome_25 (by decide) ?_
        subst hQ
        exact rtz hx hb hr hlocks rfl rfl (bP_0 (by omega)) dX4_isOutcome_26
      · have c12_3 : ¬ ((se < 0 ∧ (2147483648 ≤ se ∨ 0 < 2147483648)) ∨ (2147483648 ≤ se ∧ 0 < 2147483648)) := fun h9 => c12_3 ((nI_ltG (a := se) (b := 0) (by omega) (by omega)).mpr h9)
        refine lv_iload_n hx hb dX4_isOutcome_15 rfl (lv_at hl 1 rfl) ?_
        refine lv_bipush (v := nI 16) hx hb dX4_isOutcome_16 (by decide) ?_
        refine lv_icmp_ge (tgt := 25) hx hb dX4_isOutcome_18 (by decide) (fun c18_4 => ?_) (fun c18_4 => ?_)
        · have c18_4 : (16 ≤ se ∧ (2147483648 ≤ 16 ∨ se < 2147483648)) ∨ (2147483648 ≤ 16 ∧ se < 2147483648) := (nI_leG (a := 16) (b := se) (by omega) (by omega)).mp c18_4
          refine lv_iconst (v := nI 0) hx hb dX4_isOutcome_25 (by decide) ?_
          subst hQ
          exact rtz hx hb hr hlocks rfl rfl (bP_0 (by omega)) dX4_isOutcome_26
        · have c18_4 : ¬ ((16 ≤ se ∧ (2147483648 ≤ 16 ∨ se < 2147483648)) ∨ (2147483648 ≤ 16 ∧ se < 2147483648)) := fun h9 => c18_4 ((nI_leG (a := 16) (b := se) (by omega) (by omega)).mpr h9)
          refine lv_iconst (v := nI 1) hx hb dX4_isOutcome_21 (by decide) ?_
          refine lv_goto (tgt := 26) hx hb dX4_isOutcome_22 (by decide) ?_
          subst hQ
          exact rtz hx hb hr hlocks rfl rfl (bP_1 (by omega)) dX4_isOutcome_26

set_option maxHeartbeats 4000000 in
set_option maxRecDepth 100000 in
theorem c_X4_append (l : Launch) (D : va_G) (ad : Nat → Nat) (ka : Nat → ClassId) (L : Nat) (f : Nat → Nat) (g : Nat → Nat → Nat) (sz : Nat) (v : Nat) (hv9 : v < 4294967296) (h200 : f 0 + 4 ≤ 200) : Met l yX4_append (.code yX4_append cX4_append 3 none :: wsL_law) ({ frames := 0, cells := 0, slots := 0, locals := 0 }) (va_Pc [.ref (ad 0), .int (nI v)] (PW D (xW ad ka L f g) (xT ka) sz)) (va_Qv (fun u : XSt => u = (ad, ka, L, upN f 0 (f 0 + 4), upA g 1 (tapeC4 (g 1) (f 0) v))) (QW D (fun u : XSt => xW u.1 u.2.1 u.2.2.1 u.2.2.2.1 u.2.2.2.2) (fun u : XSt => xT u.2.1) (va_A (xW ad ka L f g) sz)) (va_A (xW ad ka L f g) sz)) 0 0 (va_A (xW ad ka L f g) sz) := by
  refine Met.ofW (cc := cX4_append) (maxL := 3) (ret := none) (by decide) rfl ?_
  intro p e s m args below meth c s₁ B hml hv
  obtain ⟨rfl, hsz, hP, hK, hD0⟩ := hv
  have hx := B.exec
  have hb := B.bytes
  have hr := B.returns
  have hts := atoms_spec (ws := .code yX4_append cX4_append 3 none :: wsL_law) B.pre
  have hU : ∀ w ∈ wsL_law, w.before _ s = true := fun w h => hts w (List.mem_cons_of_mem _ h)
  have hown : s.vm.findClass RX4 = some m.cls := findClass_of_methodNamed B.named
  have hlocks := B.notSynchronized
  subst hsz
  have hD := hD0.self (sz := s.heap.size)
  generalize hAe : va_A (xW ad ka L f g) s.heap.size = Ar at hD ⊢
  have hA : ∀ q : Nat, s.heap.size ≤ q → Ar q := fun q h => by rw [← hAe]; exact Or.inr h
  have hS : va_S Ar s.heap s.heap [] := va_S.rf
  have hP : va_P D vwCl [(ad 0, .inr (4, [.ref (ad 1), .int (nI (f 0)), .ref (ad 2), .ref (ad 3), .ref (ad 6), .ref (ad 9), .ref (ad 19), .int (nI (f 1)), .ref (ad 23), .int (nI (f 2))])), (ad 1, .inl (ka 1, 200, .inl (nA (g 1)))), (ad 2, .inr (2, [.int (nI (f 3)), .int (nI (f 4)), .int (nI (f 5)), .int (nI (f 6))])), (ad 3, .inr (1, [.int (nI (f 7)), .ref (ad 4), .ref (ad 5)])), (ad 4, .inl (ka 4, 8, .inl (nA (g 4)))), (ad 5, .inl (ka 5, 32, .inl (nA (g 5)))), (ad 6, .inr (1, [.int (nI (f 8)), .ref (ad 7), .ref (ad 8)])), (ad 7, .inl (ka 7, 8, .inl (nA (g 7)))), (ad 8, .inl (ka 8, 32, .inl (nA (g 8)))), (ad 9, .inr (0, [.ref (ad 10), .ref (ad 11), .ref (ad 12), .int (nI (f 9))])), (ad 10, .inl (ka 10, 2, .inr (.inr (.inr (.inr (fun j => if j = 0 then some (ad 13) else some (ad 16))))))), (ad 11, .inl (ka 11, 4, .inl (nA (g 11)))), (ad 12, .inl (ka 12, 4, .inl (nA (g 12)))), (ad 13, .inr (1, [.int (nI (f 10)), .ref (ad 14), .ref (ad 15)])), (ad 14, .inl (ka 14, 8, .inl (nA (g 14)))), (ad 15, .inl (ka 15, 32, .inl (nA (g 15)))), (ad 16, .inr (1, [.int (nI (f 11)), .ref (ad 17), .ref (ad 18)])), (ad 17, .inl (ka 17, 8, .inl (nA (g 17)))), (ad 18, .inl (ka 18, 32, .inl (nA (g 18)))), (ad 19, .inr (3, [.ref (ad 20), .ref (ad 21), .ref (ad 22), .int (nI (f 12)), .int (nI (f 13)), .int (nI (f 14)), .int (nI (f 15)), .int (nI (f 16)), .int (nI (f 17))])), (ad 20, .inl (ka 20, L, .inr (.inl (lA (g 20))))), (ad 21, .inl (ka 21, L, .inl (nA (g 21)))), (ad 22, .inl (ka 22, mOf L, .inl (nA (g 22)))), (ad 23, .inl (ka 23, 32, .inl (nA (g 23))))] s.heap := hP
  have hD : va_D Ar [(ad 0, .inr (4, [.ref (ad 1), .int (nI (f 0)), .ref (ad 2), .ref (ad 3), .ref (ad 6), .ref (ad 9), .ref (ad 19), .int (nI (f 1)), .ref (ad 23), .int (nI (f 2))])), (ad 1, .inl (ka 1, 200, .inl (nA (g 1)))), (ad 2, .inr (2, [.int (nI (f 3)), .int (nI (f 4)), .int (nI (f 5)), .int (nI (f 6))])), (ad 3, .inr (1, [.int (nI (f 7)), .ref (ad 4), .ref (ad 5)])), (ad 4, .inl (ka 4, 8, .inl (nA (g 4)))), (ad 5, .inl (ka 5, 32, .inl (nA (g 5)))), (ad 6, .inr (1, [.int (nI (f 8)), .ref (ad 7), .ref (ad 8)])), (ad 7, .inl (ka 7, 8, .inl (nA (g 7)))), (ad 8, .inl (ka 8, 32, .inl (nA (g 8)))), (ad 9, .inr (0, [.ref (ad 10), .ref (ad 11), .ref (ad 12), .int (nI (f 9))])), (ad 10, .inl (ka 10, 2, .inr (.inr (.inr (.inr (fun j => if j = 0 then some (ad 13) else some (ad 16))))))), (ad 11, .inl (ka 11, 4, .inl (nA (g 11)))), (ad 12, .inl (ka 12, 4, .inl (nA (g 12)))), (ad 13, .inr (1, [.int (nI (f 10)), .ref (ad 14), .ref (ad 15)])), (ad 14, .inl (ka 14, 8, .inl (nA (g 14)))), (ad 15, .inl (ka 15, 32, .inl (nA (g 15)))), (ad 16, .inr (1, [.int (nI (f 11)), .ref (ad 17), .ref (ad 18)])), (ad 17, .inl (ka 17, 8, .inl (nA (g 17)))), (ad 18, .inl (ka 18, 32, .inl (nA (g 18)))), (ad 19, .inr (3, [.ref (ad 20), .ref (ad 21), .ref (ad 22), .int (nI (f 12)), .int (nI (f 13)), .int (nI (f 14)), .int (nI (f 15)), .int (nI (f 16)), .int (nI (f 17))])), (ad 20, .inl (ka 20, L, .inr (.inl (lA (g 20))))), (ad 21, .inl (ka 21, L, .inl (nA (g 21)))), (ad 22, .inl (ka 22, mOf L, .inl (nA (g 22)))), (ad 23, .inl (ka 23, 32, .inl (nA (g 23))))] := hD
  generalize hQ : MQ _ _ _ _ _ _ _ = Q
  have hl := lv_entry ([.ref (ad 0), .int (nI v)]) (n := 3) (Nat.le_of_ble_eq_true rfl)
  rw [lg_entry_eq]
  generalize (lg_sl ([.ref (ad 0), .int (nI v)]) ++ List.replicate (3 - (lg_sl ([.ref (ad 0), .int (nI v)])).length) Slot.unset).toArray = ls at hl ⊢
  have hl : lv_has ls 3 [(0, .ref (ad 0)), (1, .int (nI v))] := hl
  refine lv_bipush (v := nI 24) hx hb dX4_append_0 (by decide) ?_
  refine lv_istore_n (lv' := [(2, .int (nI 24)), (0, .ref (ad 0)), (1, .int (nI v))]) hx hb dX4_append_2 rfl hl (by decide) rfl (fun ls hl => ?_)
  refine lv_iload_n hx hb dX4_append_3 rfl (lv_at hl 0 rfl) ?_
  refine lv_if_lt (tgt := 46) hx hb dX4_append_4 (by decide) (fun c4_1 => by first | exact absurd c4_1 (by decide) | exact absurd (by decide) c4_1) (fun c4_1 => ?_)
  refine lv_aload_n hx hb dX4_append_7 rfl (lv_at hl 1 rfl) ?_
  refine va_get (D := D) (ci := 4) (v := .int (nI (f 0))) (C := RX4) (T := TX4) (N := 10) hx hb hU iX4 hown hK hP 0 rfl rfl 1 (by decide) (hU _ mU_15) (fun _ h9 => h9) rfl dX4_append_8 ?_
  refine lv_sipush (v := nI 200) hx hb dX4_append_11 (by decide) ?_
  refine lv_icmp_ge (tgt := 46) hx hb dX4_append_14 (by decide) (fun c14_2 => ?_) (fun c14_2 => ?_)
  · have c14_2 : 200 ≤ f 0 := (nI_leI (a := 200) (b := f 0) (by omega) (by omega)).mp c14_2
    exfalso; omega
  · have c14_2 : ¬ (200 ≤ f 0) := fun h9 => c14_2 ((nI_leI (a := 200) (b := f 0) (by omega) (by omega)).mpr h9)
    refine lv_aload_n hx hb dX4_append_17 rfl (lv_at hl 1 rfl) ?_
    refine va_get (D := D) (ci := 4) (v := .ref (ad 1)) (C := RX4) (T := TX4) (N := 10) hx hb hU iX4 hown hK hP 0 rfl rfl 0 (by decide) (hU _ mU_14) (fun _ h9 => h9) rfl dX4_append_18 ?_
    refine lv_aload_n hx hb dX4_append_21 rfl (lv_at hl 1 rfl) ?_
    refine va_get (D := D) (ci := 4) (v := .int (nI (f 0))) (C := RX4) (T := TX4) (N := 10) hx hb hU iX4 hown hK hP 0 rfl rfl 1 (by decide) (hU _ mU_15) (fun _ h9 => h9) rfl dX4_append_22 ?_
    refine lv_iload_n hx hb dX4_append_25 rfl (lv_at hl 2 rfl) ?_
    refine lv_iload_n hx hb dX4_append_26 rfl (lv_at hl 0 rfl) ?_
    refine lv_iushr hx hb dX4_append_27 rfl ?_
    refine lv_topE (nI (v / 2 ^ 24)) (z_ushr (by omega) (by decide)) ?_
    refine lv_i2b hx hb dX4_append_28 rfl ?_
    refine lv_topE (nI (sb (v / 2 ^ 24 % 256))) (z_i2b _) ?_
    refine n_bast hx hb hK hP hD hS 1 0 rfl rfl (i := f 0) (v := sb (v / 2 ^ 24 % 256)) (by omega) (by decide) (sb_fit (Nat.mod_lt _ (by decide))) dX4_append_29 (fun H locs hP hD hS => ?_)
    have hP : va_P D vwCl [(ad 0, .inr (4, [.ref (ad 1), .int (nI (f 0)), .ref (ad 2), .ref (ad 3), .ref (ad 6), .ref (ad 9), .ref (ad 19), .int (nI (f 1)), .ref (ad 23), .int (nI (f 2))])), (ad 1, .inl (ka 1, 200, .inl (nA (upN (g 1) (f 0) (sb (v / 2 ^ 24 % 256)))))), (ad 2, .inr (2, [.int (nI (f 3)), .int (nI (f 4)), .int (nI (f 5)), .int (nI (f 6))])), (ad 3, .inr (1, [.int (nI (f 7)), .ref (ad 4), .ref (ad 5)])), (ad 4, .inl (ka 4, 8, .inl (nA (g 4)))), (ad 5, .inl (ka 5, 32, .inl (nA (g 5)))), (ad 6, .inr (1, [.int (nI (f 8)), .ref (ad 7), .ref (ad 8)])), (ad 7, .inl (ka 7, 8, .inl (nA (g 7)))), (ad 8, .inl (ka 8, 32, .inl (nA (g 8)))), (ad 9, .inr (0, [.ref (ad 10), .ref (ad 11), .ref (ad 12), .int (nI (f 9))])), (ad 10, .inl (ka 10, 2, .inr (.inr (.inr (.inr (fun j => if j = 0 then some (ad 13) else some (ad 16))))))), (ad 11, .inl (ka 11, 4, .inl (nA (g 11)))), (ad 12, .inl (ka 12, 4, .inl (nA (g 12)))), (ad 13, .inr (1, [.int (nI (f 10)), .ref (ad 14), .ref (ad 15)])), (ad 14, .inl (ka 14, 8, .inl (nA (g 14)))), (ad 15, .inl (ka 15, 32, .inl (nA (g 15)))), (ad 16, .inr (1, [.int (nI (f 11)), .ref (ad 17), .ref (ad 18)])), (ad 17, .inl (ka 17, 8, .inl (nA (g 17)))), (ad 18, .inl (ka 18, 32, .inl (nA (g 18)))), (ad 19, .inr (3, [.ref (ad 20), .ref (ad 21), .ref (ad 22), .int (nI (f 12)), .int (nI (f 13)), .int (nI (f 14)), .int (nI (f 15)), .int (nI (f 16)), .int (nI (f 17))])), (ad 20, .inl (ka 20, L, .inr (.inl (lA (g 20))))), (ad 21, .inl (ka 21, L, .inl (nA (g 21)))), (ad 22, .inl (ka 22, mOf L, .inl (nA (g 22)))), (ad 23, .inl (ka 23, 32, .inl (nA (g 23))))] H := hP
    have hD : va_D Ar [(ad 0, .inr (4, [.ref (ad 1), .int (nI (f 0)), .ref (ad 2), .ref (ad 3), .ref (ad 6), .ref (ad 9), .ref (ad 19), .int (nI (f 1)), .ref (ad 23), .int (nI (f 2))])), (ad 1, .inl (ka 1, 200, .inl (nA (upN (g 1) (f 0) (sb (v / 2 ^ 24 % 256)))))), (ad 2, .inr (2, [.int (nI (f 3)), .int (nI (f 4)), .int (nI (f 5)), .int (nI (f 6))])), (ad 3, .inr (1, [.int (nI (f 7)), .ref (ad 4), .ref (ad 5)])), (ad 4, .inl (ka 4, 8, .inl (nA (g 4)))), (ad 5, .inl (ka 5, 32, .inl (nA (g 5)))), (ad 6, .inr (1, [.int (nI (f 8)), .ref (ad 7), .ref (ad 8)])), (ad 7, .inl (ka 7, 8, .inl (nA (g 7)))), (ad 8, .inl (ka 8, 32, .inl (nA (g 8)))), (ad 9, .inr (0, [.ref (ad 10), .ref (ad 11), .ref (ad 12), .int (nI (f 9))])), (ad 10, .inl (ka 10, 2, .inr (.inr (.inr (.inr (fun j => if j = 0 then some (ad 13) else some (ad 16))))))), (ad 11, .inl (ka 11, 4, .inl (nA (g 11)))), (ad 12, .inl (ka 12, 4, .inl (nA (g 12)))), (ad 13, .inr (1, [.int (nI (f 10)), .ref (ad 14), .ref (ad 15)])), (ad 14, .inl (ka 14, 8, .inl (nA (g 14)))), (ad 15, .inl (ka 15, 32, .inl (nA (g 15)))), (ad 16, .inr (1, [.int (nI (f 11)), .ref (ad 17), .ref (ad 18)])), (ad 17, .inl (ka 17, 8, .inl (nA (g 17)))), (ad 18, .inl (ka 18, 32, .inl (nA (g 18)))), (ad 19, .inr (3, [.ref (ad 20), .ref (ad 21), .ref (ad 22), .int (nI (f 12)), .int (nI (f 13)), .int (nI (f 14)), .int (nI (f 15)), .int (nI (f 16)), .int (nI (f 17))])), (ad 20, .inl (ka 20, L, .inr (.inl (lA (g 20))))), (ad 21, .inl (ka 21, L, .inl (nA (g 21)))), (ad 22, .inl (ka 22, mOf L, .inl (nA (g 22)))), (ad 23, .inl (ka 23, 32, .inl (nA (g 23))))] := hD
    refine lv_aload_n hx hb dX4_append_30 rfl (lv_at hl 1 rfl) ?_
    refine lv_dup hx hb dX4_append_31 rfl ?_
    refine va_get (D := D) (ci := 4) (v := .int (nI (f 0))) (C := RX4) (T := TX4) (N := 10) hx hb hU iX4 hown hK hP 0 rfl rfl 1 (by decide) (hU _ mU_15) (fun _ h9 => h9) rfl dX4_append_32 ?_
    refine lv_iconst (v := nI 1) hx hb dX4_append_35 (by decide) ?_
    refine lv_iadd hx hb dX4_append_36 ?_
    refine lv_topE (nI ((f 0) + 1)) (nI_add _ _) ?_
    refine va_put (D := D) (ci := 4) (v := .int (nI ((f 0) + 1))) (ty := .int) (C := RX4) (T := TX4) (N := 10) hx hb hU iX4 tyX4 tyX4_ok nmX4 hown hK hP hD hS 0 rfl rfl 1 (by decide) (hU _ mU_15) (fun _ h9 => h9) rfl (by decide +kernel) rfl rfl (Nat.le_of_ble_eq_true rfl) dX4_append_37 (fun H locs hP hD hS => ?_)
    have hP : va_P D vwCl [(ad 0, .inr (4, [.ref (ad 1), .int (nI ((f 0) + 1)), .ref (ad 2), .ref (ad 3), .ref (ad 6), .ref (ad 9), .ref (ad 19), .int (nI (f 1)), .ref (ad 23), .int (nI (f 2))])), (ad 1, .inl (ka 1, 200, .inl (nA (upN (g 1) (f 0) (sb (v / 2 ^ 24 % 256)))))), (ad 2, .inr (2, [.int (nI (f 3)), .int (nI (f 4)), .int (nI (f 5)), .int (nI (f 6))])), (ad 3, .inr (1, [.int (nI (f 7)), .ref (ad 4), .ref (ad 5)])), (ad 4, .inl (ka 4, 8, .inl (nA (g 4)))), (ad 5, .inl (ka 5, 32, .inl (nA (g 5)))), (ad 6, .inr (1, [.int (nI (f 8)), .ref (ad 7), .ref (ad 8)])), (ad 7, .inl (ka 7, 8, .inl (nA (g 7)))), (ad 8, .inl (ka 8, 32, .inl (nA (g 8)))), (ad 9, .inr (0, [.ref (ad 10), .ref (ad 11), .ref (ad 12), .int (nI (f 9))])), (ad 10, .inl (ka 10, 2, .inr (.inr (.inr (.inr (fun j => if j = 0 then some (ad 13) else some (ad 16))))))), (ad 11, .inl (ka 11, 4, .inl (nA (g 11)))), (ad 12, .inl (ka 12, 4, .inl (nA (g 12)))), (ad 13, .inr (1, [.int (nI (f 10)), .ref (ad 14), .ref (ad 15)])), (ad 14, .inl (ka 14, 8, .inl (nA (g 14)))), (ad 15, .inl (ka 15, 32, .inl (nA (g 15)))), (ad 16, .inr (1, [.int (nI (f 11)), .ref (ad 17), .ref (ad 18)])), (ad 17, .inl (ka 17, 8, .inl (nA (g 17)))), (ad 18, .inl (ka 18, 32, .inl (nA (g 18)))), (ad 19, .inr (3, [.ref (ad 20), .ref (ad 21), .ref (ad 22), .int (nI (f 12)), .int (nI (f 13)), .int (nI (f 14)), .int (nI (f 15)), .int (nI (f 16)), .int (nI (f 17))])), (ad 20, .inl (ka 20, L, .inr (.inl (lA (g 20))))), (ad 21, .inl (ka 21, L, .inl (nA (g 21)))), (ad 22, .inl (ka 22, mOf L, .inl (nA (g 22)))), (ad 23, .inl (ka 23, 32, .inl (nA (g 23))))] H := hP
    have hD : va_D Ar [(ad 0, .inr (4, [.ref (ad 1), .int (nI ((f 0) + 1)), .ref (ad 2), .ref (ad 3), .ref (ad 6), .ref (ad 9), .ref (ad 19), .int (nI (f 1)), .ref (ad 23), .int (nI (f 2))])), (ad 1, .inl (ka 1, 200, .inl (nA (upN (g 1) (f 0) (sb (v / 2 ^ 24 % 256)))))), (ad 2, .inr (2, [.int (nI (f 3)), .int (nI (f 4)), .int (nI (f 5)), .int (nI (f 6))])), (ad 3, .inr (1, [.int (nI (f 7)), .ref (ad 4), .ref (ad 5)])), (ad 4, .inl (ka 4, 8, .inl (nA (g 4)))), (ad 5, .inl (ka 5, 32, .inl (nA (g 5)))), (ad 6, .inr (1, [.int (nI (f 8)), .ref (ad 7), .ref (ad 8)])), (ad 7, .inl (ka 7, 8, .inl (nA (g 7)))), (ad 8, .inl (ka 8, 32, .inl (nA (g 8)))), (ad 9, .inr (0, [.ref (ad 10), .ref (ad 11), .ref (ad 12), .int (nI (f 9))])), (ad 10, .inl (ka 10, 2, .inr (.inr (.inr (.inr (fun j => if j = 0 then some (ad 13) else some (ad 16))))))), (ad 11, .inl (ka 11, 4, .inl (nA (g 11)))), (ad 12, .inl (ka 12, 4, .inl (nA (g 12)))), (ad 13, .inr (1, [.int (nI (f 10)), .ref (ad 14), .ref (ad 15)])), (ad 14, .inl (ka 14, 8, .inl (nA (g 14)))), (ad 15, .inl (ka 15, 32, .inl (nA (g 15)))), (ad 16, .inr (1, [.int (nI (f 11)), .ref (ad 17), .ref (ad 18)])), (ad 17, .inl (ka 17, 8, .inl (nA (g 17)))), (ad 18, .inl (ka 18, 32, .inl (nA (g 18)))), (ad 19, .inr (3, [.ref (ad 20), .ref (ad 21), .ref (ad 22), .int (nI (f 12)), .int (nI (f 13)), .int (nI (f 14)), .int (nI (f 15)), .int (nI (f 16)), .int (nI (f 17))])), (ad 20, .inl (ka 20, L, .inr (.inl (lA (g 20))))), (ad 21, .inl (ka 21, L, .inl (nA (g 21)))), (ad 22, .inl (ka 22, mOf L, .inl (nA (g 22)))), (ad 23, .inl (ka 23, 32, .inl (nA (g 23))))] := hD
    refine lv_iinc (v := nI 16) (lv' := [(2, .int (nI 16)), (0, .ref (ad 0)), (1, .int (nI v))]) hx hb dX4_append_40 hl (k := 0) rfl (by decide) (by decide) rfl (fun ls hl => ?_)
    refine lv_goto (tgt := 3) hx hb dX4_append_43 (by decide) ?_
    refine lv_iload_n hx hb dX4_append_3 rfl (lv_at hl 0 rfl) ?_
    refine lv_if_lt (tgt := 46) hx hb dX4_append_4 (by decide) (fun c4_3 => by first | exact absurd c4_3 (by decide) | exact absurd (by decide) c4_3) (fun c4_3 => ?_)
    refine lv_aload_n hx hb dX4_append_7 rfl (lv_at hl 1 rfl) ?_
    refine va_get (D := D) (ci := 4) (v := .int (nI ((f 0) + 1))) (C := RX4) (T := TX4) (N := 10) hx hb hU iX4 hown hK hP 0 rfl rfl 1 (by decide) (hU _ mU_15) (fun _ h9 => h9) rfl dX4_append_8 ?_
    refine lv_sipush (v := nI 200) hx hb dX4_append_11 (by decide) ?_
    refine lv_icmp_ge (tgt := 46) hx hb dX4_append_14 (by decide) (fun c14_4 => ?_) (fun c14_4 => ?_)
    · have c14_4 : 200 ≤ (f 0) + 1 := (nI_leI (a := 200) (b := (f 0) + 1) (by omega) (by omega)).mp c14_4
      exfalso; omega
    · have c14_4 : ¬ (200 ≤ (f 0) + 1) := fun h9 => c14_4 ((nI_leI (a := 200) (b := (f 0) + 1) (by omega) (by omega)).mpr h9)
      refine lv_aload_n hx hb dX4_append_17 rfl (lv_at hl 1 rfl) ?_
      refine va_get (D := D) (ci := 4) (v := .ref (ad 1)) (C := RX4) (T := TX4) (N := 10) hx hb hU iX4 hown hK hP 0 rfl rfl 0 (by decide) (hU _ mU_14) (fun _ h9 => h9) rfl dX4_append_18 ?_
      refine lv_aload_n hx hb dX4_append_21 rfl (lv_at hl 1 rfl) ?_
      refine va_get (D := D) (ci := 4) (v := .int (nI ((f 0) + 1))) (C := RX4) (T := TX4) (N := 10) hx hb hU iX4 hown hK hP 0 rfl rfl 1 (by decide) (hU _ mU_15) (fun _ h9 => h9) rfl dX4_append_22 ?_
      refine lv_iload_n hx hb dX4_append_25 rfl (lv_at hl 2 rfl) ?_
      refine lv_iload_n hx hb dX4_append_26 rfl (lv_at hl 0 rfl) ?_
      refine lv_iushr hx hb dX4_append_27 rfl ?_
      refine lv_topE (nI (v / 2 ^ 16)) (z_ushr (by omega) (by decide)) ?_
      refine lv_i2b hx hb dX4_append_28 rfl ?_
      refine lv_topE (nI (sb (v / 2 ^ 16 % 256))) (z_i2b _) ?_
      refine n_bast hx hb hK hP hD hS 1 0 rfl rfl (i := (f 0) + 1) (v := sb (v / 2 ^ 16 % 256)) (by omega) (by decide) (sb_fit (Nat.mod_lt _ (by decide))) dX4_append_29 (fun H locs hP hD hS => ?_)
      have hP : va_P D vwCl [(ad 0, .inr (4, [.ref (ad 1), .int (nI ((f 0) + 1)), .ref (ad 2), .ref (ad 3), .ref (ad 6), .ref (ad 9), .ref (ad 19), .int (nI (f 1)), .ref (ad 23), .int (nI (f 2))])), (ad 1, .inl (ka 1, 200, .inl (nA (upN (upN (g 1) (f 0) (sb (v / 2 ^ 24 % 256))) ((f 0) + 1) (sb (v / 2 ^ 16 % 256)))))), (ad 2, .inr (2, [.int (nI (f 3)), .int (nI (f 4)), .int (nI (f 5)), .int (nI (f 6))])), (ad 3, .inr (1, [.int (nI (f 7)), .ref (ad 4), .ref (ad 5)])), (ad 4, .inl (ka 4, 8, .inl (nA (g 4)))), (ad 5, .inl (ka 5, 32, .inl (nA (g 5)))), (ad 6, .inr (1, [.int (nI (f 8)), .ref (ad 7), .ref (ad 8)])), (ad 7, .inl (ka 7, 8, .inl (nA (g 7)))), (ad 8, .inl (ka 8, 32, .inl (nA (g 8)))), (ad 9, .inr (0, [.ref (ad 10), .ref (ad 11), .ref (ad 12), .int (nI (f 9))])), (ad 10, .inl (ka 10, 2, .inr (.inr (.inr (.inr (fun j => if j = 0 then some (ad 13) else some (ad 16))))))), (ad 11, .inl (ka 11, 4, .inl (nA (g 11)))), (ad 12, .inl (ka 12, 4, .inl (nA (g 12)))), (ad 13, .inr (1, [.int (nI (f 10)), .ref (ad 14), .ref (ad 15)])), (ad 14, .inl (ka 14, 8, .inl (nA (g 14)))), (ad 15, .inl (ka 15, 32, .inl (nA (g 15)))), (ad 16, .inr (1, [.int (nI (f 11)), .ref (ad 17), .ref (ad 18)])), (ad 17, .inl (ka 17, 8, .inl (nA (g 17)))), (ad 18, .inl (ka 18, 32, .inl (nA (g 18)))), (ad 19, .inr (3, [.ref (ad 20), .ref (ad 21), .ref (ad 22), .int (nI (f 12)), .int (nI (f 13)), .int (nI (f 14)), .int (nI (f 15)), .int (nI (f 16)), .int (nI (f 17))])), (ad 20, .inl (ka 20, L, .inr (.inl (lA (g 20))))), (ad 21, .inl (ka 21, L, .inl (nA (g 21)))), (ad 22, .inl (ka 22, mOf L, .inl (nA (g 22)))), (ad 23, .inl (ka 23, 32, .inl (nA (g 23))))] H := hP
      have hD : va_D Ar [(ad 0, .inr (4, [.ref (ad 1), .int (nI ((f 0) + 1)), .ref (ad 2), .ref (ad 3), .ref (ad 6), .ref (ad 9), .ref (ad 19), .int (nI (f 1)), .ref (ad 23), .int (nI (f 2))])), (ad 1, .inl (ka 1, 200, .inl (nA (upN (upN (g 1) (f 0) (sb (v / 2 ^ 24 % 256))) ((f 0) + 1) (sb (v / 2 ^ 16 % 256)))))), (ad 2, .inr (2, [.int (nI (f 3)), .int (nI (f 4)), .int (nI (f 5)), .int (nI (f 6))])), (ad 3, .inr (1, [.int (nI (f 7)), .ref (ad 4), .ref (ad 5)])), (ad 4, .inl (ka 4, 8, .inl (nA (g 4)))), (ad 5, .inl (ka 5, 32, .inl (nA (g 5)))), (ad 6, .inr (1, [.int (nI (f 8)), .ref (ad 7), .ref (ad 8)])), (ad 7, .inl (ka 7, 8, .inl (nA (g 7)))), (ad 8, .inl (ka 8, 32, .inl (nA (g 8)))), (ad 9, .inr (0, [.ref (ad 10), .ref (ad 11), .ref (ad 12), .int (nI (f 9))])), (ad 10, .inl (ka 10, 2, .inr (.inr (.inr (.inr (fun j => if j = 0 then some (ad 13) else some (ad 16))))))), (ad 11, .inl (ka 11, 4, .inl (nA (g 11)))), (ad 12, .inl (ka 12, 4, .inl (nA (g 12)))), (ad 13, .inr (1, [.int (nI (f 10)), .ref (ad 14), .ref (ad 15)])), (ad 14, .inl (ka 14, 8, .inl (nA (g 14)))), (ad 15, .inl (ka 15, 32, .inl (nA (g 15)))), (ad 16, .inr (1, [.int (nI (f 11)), .ref (ad 17), .ref (ad 18)])), (ad 17, .inl (ka 17, 8, .inl (nA (g 17)))), (ad 18, .inl (ka 18, 32, .inl (nA (g 18)))), (ad 19, .inr (3, [.ref (ad 20), .ref (ad 21), .ref (ad 22), .int (nI (f 12)), .int (nI (f 13)), .int (nI (f 14)), .int (nI (f 15)), .int (nI (f 16)), .int (nI (f 17))])), (ad 20, .inl (ka 20, L, .inr (.inl (lA (g 20))))), (ad 21, .inl (ka 21, L, .inl (nA (g 21)))), (ad 22, .inl (ka 22, mOf L, .inl (nA (g 22)))), (ad 23, .inl (ka 23, 32, .inl (nA (g 23))))] := hD
      refine lv_aload_n hx hb dX4_append_30 rfl (lv_at hl 1 rfl) ?_
      refine lv_dup hx hb dX4_append_31 rfl ?_
      refine va_get (D := D) (ci := 4) (v := .int (nI ((f 0) + 1))) (C := RX4) (T := TX4) (N := 10) hx hb hU iX4 hown hK hP 0 rfl rfl 1 (by decide) (hU _ mU_15) (fun _ h9 => h9) rfl dX4_append_32 ?_
      refine lv_iconst (v := nI 1) hx hb dX4_append_35 (by decide) ?_
      refine lv_iadd hx hb dX4_append_36 ?_
      refine lv_topE (nI (((f 0) + 1) + 1)) (nI_add _ _) ?_
      refine va_put (D := D) (ci := 4) (v := .int (nI (((f 0) + 1) + 1))) (ty := .int) (C := RX4) (T := TX4) (N := 10) hx hb hU iX4 tyX4 tyX4_ok nmX4 hown hK hP hD hS 0 rfl rfl 1 (by decide) (hU _ mU_15) (fun _ h9 => h9) rfl (by decide +kernel) rfl rfl (Nat.le_of_ble_eq_true rfl) dX4_append_37 (fun H locs hP hD hS => ?_)
      have hP : va_P D vwCl [(ad 0, .inr (4, [.ref (ad 1), .int (nI (((f 0) + 1) + 1)), .ref (ad 2), .ref (ad 3), .ref (ad 6), .ref (ad 9), .ref (ad 19), .int (nI (f 1)), .ref (ad 23), .int (nI (f 2))])), (ad 1, .inl (ka 1, 200, .inl (nA (upN (upN (g 1) (f 0) (sb (v / 2 ^ 24 % 256))) ((f 0) + 1) (sb (v / 2 ^ 16 % 256)))))), (ad 2, .inr (2, [.int (nI (f 3)), .int (nI (f 4)), .int (nI (f 5)), .int (nI (f 6))])), (ad 3, .inr (1, [.int (nI (f 7)), .ref (ad 4), .ref (ad 5)])), (ad 4, .inl (ka 4, 8, .inl (nA (g 4)))), (ad 5, .inl (ka 5, 32, .inl (nA (g 5)))), (ad 6, .inr (1, [.int (nI (f 8)), .ref (ad 7), .ref (ad 8)])), (ad 7, .inl (ka 7, 8, .inl (nA (g 7)))), (ad 8, .inl (ka 8, 32, .inl (nA (g 8)))), (ad 9, .inr (0, [.ref (ad 10), .ref (ad 11), .ref (ad 12), .int (nI (f 9))])), (ad 10, .inl (ka 10, 2, .inr (.inr (.inr (.inr (fun j => if j = 0 then some (ad 13) else some (ad 16))))))), (ad 11, .inl (ka 11, 4, .inl (nA (g 11)))), (ad 12, .inl (ka 12, 4, .inl (nA (g 12)))), (ad 13, .inr (1, [.int (nI (f 10)), .ref (ad 14), .ref (ad 15)])), (ad 14, .inl (ka 14, 8, .inl (nA (g 14)))), (ad 15, .inl (ka 15, 32, .inl (nA (g 15)))), (ad 16, .inr (1, [.int (nI (f 11)), .ref (ad 17), .ref (ad 18)])), (ad 17, .inl (ka 17, 8, .inl (nA (g 17)))), (ad 18, .inl (ka 18, 32, .inl (nA (g 18)))), (ad 19, .inr (3, [.ref (ad 20), .ref (ad 21), .ref (ad 22), .int (nI (f 12)), .int (nI (f 13)), .int (nI (f 14)), .int (nI (f 15)), .int (nI (f 16)), .int (nI (f 17))])), (ad 20, .inl (ka 20, L, .inr (.inl (lA (g 20))))), (ad 21, .inl (ka 21, L, .inl (nA (g 21)))), (ad 22, .inl (ka 22, mOf L, .inl (nA (g 22)))), (ad 23, .inl (ka 23, 32, .inl (nA (g 23))))] H := hP
      have hD : va_D Ar [(ad 0, .inr (4, [.ref (ad 1), .int (nI (((f 0) + 1) + 1)), .ref (ad 2), .ref (ad 3), .ref (ad 6), .ref (ad 9), .ref (ad 19), .int (nI (f 1)), .ref (ad 23), .int (nI (f 2))])), (ad 1, .inl (ka 1, 200, .inl (nA (upN (upN (g 1) (f 0) (sb (v / 2 ^ 24 % 256))) ((f 0) + 1) (sb (v / 2 ^ 16 % 256)))))), (ad 2, .inr (2, [.int (nI (f 3)), .int (nI (f 4)), .int (nI (f 5)), .int (nI (f 6))])), (ad 3, .inr (1, [.int (nI (f 7)), .ref (ad 4), .ref (ad 5)])), (ad 4, .inl (ka 4, 8, .inl (nA (g 4)))), (ad 5, .inl (ka 5, 32, .inl (nA (g 5)))), (ad 6, .inr (1, [.int (nI (f 8)), .ref (ad 7), .ref (ad 8)])), (ad 7, .inl (ka 7, 8, .inl (nA (g 7)))), (ad 8, .inl (ka 8, 32, .inl (nA (g 8)))), (ad 9, .inr (0, [.ref (ad 10), .ref (ad 11), .ref (ad 12), .int (nI (f 9))])), (ad 10, .inl (ka 10, 2, .inr (.inr (.inr (.inr (fun j => if j = 0 then some (ad 13) else some (ad 16))))))), (ad 11, .inl (ka 11, 4, .inl (nA (g 11)))), (ad 12, .inl (ka 12, 4, .inl (nA (g 12)))), (ad 13, .inr (1, [.int (nI (f 10)), .ref (ad 14), .ref (ad 15)])), (ad 14, .inl (ka 14, 8, .inl (nA (g 14)))), (ad 15, .inl (ka 15, 32, .inl (nA (g 15)))), (ad 16, .inr (1, [.int (nI (f 11)), .ref (ad 17), .ref (ad 18)])), (ad 17, .inl (ka 17, 8, .inl (nA (g 17)))), (ad 18, .inl (ka 18, 32, .inl (nA (g 18)))), (ad 19, .inr (3, [.ref (ad 20), .ref (ad 21), .ref (ad 22), .int (nI (f 12)), .int (nI (f 13)), .int (nI (f 14)), .int (nI (f 15)), .int (nI (f 16)), .int (nI (f 17))])), (ad 20, .inl (ka 20, L, .inr (.inl (lA (g 20))))), (ad 21, .inl (ka 21, L, .inl (nA (g 21)))), (ad 22, .inl (ka 22, mOf L, .inl (nA (g 22)))), (ad 23, .inl (ka 23, 32, .inl (nA (g 23))))] := hD
      refine lv_iinc (v := nI 8) (lv' := [(2, .int (nI 8)), (0, .ref (ad 0)), (1, .int (nI v))]) hx hb dX4_append_40 hl (k := 0) rfl (by decide) (by decide) rfl (fun ls hl => ?_)
      refine lv_goto (tgt := 3) hx hb dX4_append_43 (by decide) ?_
      refine lv_iload_n hx hb dX4_append_3 rfl (lv_at hl 0 rfl) ?_
      refine lv_if_lt (tgt := 46) hx hb dX4_append_4 (by decide) (fun c4_5 => by first | exact absurd c4_5 (by decide) | exact absurd (by decide) c4_5) (fun c4_5 => ?_)
      refine lv_aload_n hx hb dX4_append_7 rfl (lv_at hl 1 rfl) ?_
      refine va_get (D := D) (ci := 4) (v := .int (nI (((f 0) + 1) + 1))) (C := RX4) (T := TX4) (N := 10) hx hb hU iX4 hown hK hP 0 rfl rfl 1 (by decide) (hU _ mU_15) (fun _ h9 => h9) rfl dX4_append_8 ?_
      refine lv_sipush (v := nI 200) hx hb dX4_append_11 (by decide) ?_
      refine lv_icmp_ge (tgt := 46) hx hb dX4_append_14 (by decide) (fun c14_6 => ?_) (fun c14_6 => ?_)
      · have c14_6 : 200 ≤ ((f 0) + 1) + 1 := (nI_leI (a := 200) (b := ((f 0) + 1) + 1) (by omega) (by omega)).mp c14_6
        exfalso; omega
      · have c14_6 : ¬ (200 ≤ ((f 0) + 1) + 1) := fun h9 => c14_6 ((nI_leI (a := 200) (b := ((f 0) + 1) + 1) (by omega) (by omega)).mpr h9)
        refine lv_aload_n hx hb dX4_append_17 rfl (lv_at hl 1 rfl) ?_
        refine va_get (D := D) (ci := 4) (v := .ref (ad 1)) (C := RX4) (T := TX4) (N := 10) hx hb hU iX4 hown hK hP 0 rfl rfl 0 (by decide) (hU _ mU_14) (fun _ h9 => h9) rfl dX4_append_18 ?_
        refine lv_aload_n hx hb dX4_append_21 rfl (lv_at hl 1 rfl) ?_
        refine va_get (D := D) (ci := 4) (v := .int (nI (((f 0) + 1) + 1))) (C := RX4) (T := TX4) (N := 10) hx hb hU iX4 hown hK hP 0 rfl rfl 1 (by decide) (hU _ mU_15) (fun _ h9 => h9) rfl dX4_append_22 ?_
        refine lv_iload_n hx hb dX4_append_25 rfl (lv_at hl 2 rfl) ?_
        refine lv_iload_n hx hb dX4_append_26 rfl (lv_at hl 0 rfl) ?_
        refine lv_iushr hx hb dX4_append_27 rfl ?_
        refine lv_topE (nI (v / 2 ^ 8)) (z_ushr (by omega) (by decide)) ?_
        refine lv_i2b hx hb dX4_append_28 rfl ?_
        refine lv_topE (nI (sb (v / 2 ^ 8 % 256))) (z_i2b _) ?_
        refine n_bast hx hb hK hP hD hS 1 0 rfl rfl (i := ((f 0) + 1) + 1) (v := sb (v / 2 ^ 8 % 256)) (by omega) (by decide) (sb_fit (Nat.mod_lt _ (by decide))) dX4_append_29 (fun H locs hP hD hS => ?_)
        have hP : va_P D vwCl [(ad 0, .inr (4, [.ref (ad 1), .int (nI (((f 0) + 1) + 1)), .ref (ad 2), .ref (ad 3), .ref (ad 6), .ref (ad 9), .ref (ad 19), .int (nI (f 1)), .ref (ad 23), .int (nI (f 2))])), (ad 1, .inl (ka 1, 200, .inl (nA (upN (upN (upN (g 1) (f 0) (sb (v / 2 ^ 24 % 256))) ((f 0) + 1) (sb (v / 2 ^ 16 % 256))) (((f 0) + 1) + 1) (sb (v / 2 ^ 8 % 256)))))), (ad 2, .inr (2, [.int (nI (f 3)), .int (nI (f 4)), .int (nI (f 5)), .int (nI (f 6))])), (ad 3, .inr (1, [.int (nI (f 7)), .ref (ad 4), .ref (ad 5)])), (ad 4, .inl (ka 4, 8, .inl (nA (g 4)))), (ad 5, .inl (ka 5, 32, .inl (nA (g 5)))), (ad 6, .inr (1, [.int (nI (f 8)), .ref (ad 7), .ref (ad 8)])), (ad 7, .inl (ka 7, 8, .inl (nA (g 7)))), (ad 8, .inl (ka 8, 32, .inl (nA (g 8)))), (ad 9, .inr (0, [.ref (ad 10), .ref (ad 11), .ref (ad 12), .int (nI (f 9))])), (ad 10, .inl (ka 10, 2, .inr (.inr (.inr (.inr (fun j => if j = 0 then some (ad 13) else some (ad 16))))))), (ad 11, .inl (ka 11, 4, .inl (nA (g 11)))), (ad 12, .inl (ka 12, 4, .inl (nA (g 12)))), (ad 13, .inr (1, [.int (nI (f 10)), .ref (ad 14), .ref (ad 15)])), (ad 14, .inl (ka 14, 8, .inl (nA (g 14)))), (ad 15, .inl (ka 15, 32, .inl (nA (g 15)))), (ad 16, .inr (1, [.int (nI (f 11)), .ref (ad 17), .ref (ad 18)])), (ad 17, .inl (ka 17, 8, .inl (nA (g 17)))), (ad 18, .inl (ka 18, 32, .inl (nA (g 18)))), (ad 19, .inr (3, [.ref (ad 20), .ref (ad 21), .ref (ad 22), .int (nI (f 12)), .int (nI (f 13)), .int (nI (f 14)), .int (nI (f 15)), .int (nI (f 16)), .int (nI (f 17))])), (ad 20, .inl (ka 20, L, .inr (.inl (lA (g 20))))), (ad 21, .inl (ka 21, L, .inl (nA (g 21)))), (ad 22, .inl (ka 22, mOf L, .inl (nA (g 22)))), (ad 23, .inl (ka 23, 32, .inl (nA (g 23))))] H := hP
        have hD : va_D Ar [(ad 0, .inr (4, [.ref (ad 1), .int (nI (((f 0) + 1) + 1)), .ref (ad 2), .ref (ad 3), .ref (ad 6), .ref (ad 9), .ref (ad 19), .int (nI (f 1)), .ref (ad 23), .int (nI (f 2))])), (ad 1, .inl (ka 1, 200, .inl (nA (upN (upN (upN (g 1) (f 0) (sb (v / 2 ^ 24 % 256))) ((f 0) + 1) (sb (v / 2 ^ 16 % 256))) (((f 0) + 1) + 1) (sb (v / 2 ^ 8 % 256)))))), (ad 2, .inr (2, [.int (nI (f 3)), .int (nI (f 4)), .int (nI (f 5)), .int (nI (f 6))])), (ad 3, .inr (1, [.int (nI (f 7)), .ref (ad 4), .ref (ad 5)])), (ad 4, .inl (ka 4, 8, .inl (nA (g 4)))), (ad 5, .inl (ka 5, 32, .inl (nA (g 5)))), (ad 6, .inr (1, [.int (nI (f 8)), .ref (ad 7), .ref (ad 8)])), (ad 7, .inl (ka 7, 8, .inl (nA (g 7)))), (ad 8, .inl (ka 8, 32, .inl (nA (g 8)))), (ad 9, .inr (0, [.ref (ad 10), .ref (ad 11), .ref (ad 12), .int (nI (f 9))])), (ad 10, .inl (ka 10, 2, .inr (.inr (.inr (.inr (fun j => if j = 0 then some (ad 13) else some (ad 16))))))), (ad 11, .inl (ka 11, 4, .inl (nA (g 11)))), (ad 12, .inl (ka 12, 4, .inl (nA (g 12)))), (ad 13, .inr (1, [.int (nI (f 10)), .ref (ad 14), .ref (ad 15)])), (ad 14, .inl (ka 14, 8, .inl (nA (g 14)))), (ad 15, .inl (ka 15, 32, .inl (nA (g 15)))), (ad 16, .inr (1, [.int (nI (f 11)), .ref (ad 17), .ref (ad 18)])), (ad 17, .inl (ka 17, 8, .inl (nA (g 17)))), (ad 18, .inl (ka 18, 32, .inl (nA (g 18)))), (ad 19, .inr (3, [.ref (ad 20), .ref (ad 21), .ref (ad 22), .int (nI (f 12)), .int (nI (f 13)), .int (nI (f 14)), .int (nI (f 15)), .int (nI (f 16)), .int (nI (f 17))])), (ad 20, .inl (ka 20, L, .inr (.inl (lA (g 20))))), (ad 21, .inl (ka 21, L, .inl (nA (g 21)))), (ad 22, .inl (ka 22, mOf L, .inl (nA (g 22)))), (ad 23, .inl (ka 23, 32, .inl (nA (g 23))))] := hD
        refine lv_aload_n hx hb dX4_append_30 rfl (lv_at hl 1 rfl) ?_
        refine lv_dup hx hb dX4_append_31 rfl ?_
        refine va_get (D := D) (ci := 4) (v := .int (nI (((f 0) + 1) + 1))) (C := RX4) (T := TX4) (N := 10) hx hb hU iX4 hown hK hP 0 rfl rfl 1 (by decide) (hU _ mU_15) (fun _ h9 => h9) rfl dX4_append_32 ?_
        refine lv_iconst (v := nI 1) hx hb dX4_append_35 (by decide) ?_
        refine lv_iadd hx hb dX4_append_36 ?_
        refine lv_topE (nI ((((f 0) + 1) + 1) + 1)) (nI_add _ _) ?_
        refine va_put (D := D) (ci := 4) (v := .int (nI ((((f 0) + 1) + 1) + 1))) (ty := .int) (C := RX4) (T := TX4) (N := 10) hx hb hU iX4 tyX4 tyX4_ok nmX4 hown hK hP hD hS 0 rfl rfl 1 (by decide) (hU _ mU_15) (fun _ h9 => h9) rfl (by decide +kernel) rfl rfl (Nat.le_of_ble_eq_true rfl) dX4_append_37 (fun H locs hP hD hS => ?_)
        have hP : va_P D vwCl [(ad 0, .inr (4, [.ref (ad 1), .int (nI ((((f 0) + 1) + 1) + 1)), .ref (ad 2), .ref (ad 3), .ref (ad 6), .ref (ad 9), .ref (ad 19), .int (nI (f 1)), .ref (ad 23), .int (nI (f 2))])), (ad 1, .inl (ka 1, 200, .inl (nA (upN (upN (upN (g 1) (f 0) (sb (v / 2 ^ 24 % 256))) ((f 0) + 1) (sb (v / 2 ^ 16 % 256))) (((f 0) + 1) + 1) (sb (v / 2 ^ 8 % 256)))))), (ad 2, .inr (2, [.int (nI (f 3)), .int (nI (f 4)), .int (nI (f 5)), .int (nI (f 6))])), (ad 3, .inr (1, [.int (nI (f 7)), .ref (ad 4), .ref (ad 5)])), (ad 4, .inl (ka 4, 8, .inl (nA (g 4)))), (ad 5, .inl (ka 5, 32, .inl (nA (g 5)))), (ad 6, .inr (1, [.int (nI (f 8)), .ref (ad 7), .ref (ad 8)])), (ad 7, .inl (ka 7, 8, .inl (nA (g 7)))), (ad 8, .inl (ka 8, 32, .inl (nA (g 8)))), (ad 9, .inr (0, [.ref (ad 10), .ref (ad 11), .ref (ad 12), .int (nI (f 9))])), (ad 10, .inl (ka 10, 2, .inr (.inr (.inr (.inr (fun j => if j = 0 then some (ad 13) else some (ad 16))))))), (ad 11, .inl (ka 11, 4, .inl (nA (g 11)))), (ad 12, .inl (ka 12, 4, .inl (nA (g 12)))), (ad 13, .inr (1, [.int (nI (f 10)), .ref (ad 14), .ref (ad 15)])), (ad 14, .inl (ka 14, 8, .inl (nA (g 14)))), (ad 15, .inl (ka 15, 32, .inl (nA (g 15)))), (ad 16, .inr (1, [.int (nI (f 11)), .ref (ad 17), .ref (ad 18)])), (ad 17, .inl (ka 17, 8, .inl (nA (g 17)))), (ad 18, .inl (ka 18, 32, .inl (nA (g 18)))), (ad 19, .inr (3, [.ref (ad 20), .ref (ad 21), .ref (ad 22), .int (nI (f 12)), .int (nI (f 13)), .int (nI (f 14)), .int (nI (f 15)), .int (nI (f 16)), .int (nI (f 17))])), (ad 20, .inl (ka 20, L, .inr (.inl (lA (g 20))))), (ad 21, .inl (ka 21, L, .inl (nA (g 21)))), (ad 22, .inl (ka 22, mOf L, .inl (nA (g 22)))), (ad 23, .inl (ka 23, 32, .inl (nA (g 23))))] H := hP
        have hD : va_D Ar [(ad 0, .inr (4, [.ref (ad 1), .int (nI ((((f 0) + 1) + 1) + 1)), .ref (ad 2), .ref (ad 3), .ref (ad 6), .ref (ad 9), .ref (ad 19), .int (nI (f 1)), .ref (ad 23), .int (nI (f 2))])), (ad 1, .inl (ka 1, 200, .inl (nA (upN (upN (upN (g 1) (f 0) (sb (v / 2 ^ 24 % 256))) ((f 0) + 1) (sb (v / 2 ^ 16 % 256))) (((f 0) + 1) + 1) (sb (v / 2 ^ 8 % 256)))))), (ad 2, .inr (2, [.int (nI (f 3)), .int (nI (f 4)), .int (nI (f 5)), .int (nI (f 6))])), (ad 3, .inr (1, [.int (nI (f 7)), .ref (ad 4), .ref (ad 5)])), (ad 4, .inl (ka 4, 8, .inl (nA (g 4)))), (ad 5, .inl (ka 5, 32, .inl (nA (g 5)))), (ad 6, .inr (1, [.int (nI (f 8)), .ref (ad 7), .ref (ad 8)])), (ad 7, .inl (ka 7, 8, .inl (nA (g 7)))), (ad 8, .inl (ka 8, 32, .inl (nA (g 8)))), (ad 9, .inr (0, [.ref (ad 10), .ref (ad 11), .ref (ad 12), .int (nI (f 9))])), (ad 10, .inl (ka 10, 2, .inr (.inr (.inr (.inr (fun j => if j = 0 then some (ad 13) else some (ad 16))))))), (ad 11, .inl (ka 11, 4, .inl (nA (g 11)))), (ad 12, .inl (ka 12, 4, .inl (nA (g 12)))), (ad 13, .inr (1, [.int (nI (f 10)), .ref (ad 14), .ref (ad 15)])), (ad 14, .inl (ka 14, 8, .inl (nA (g 14)))), (ad 15, .inl (ka 15, 32, .inl (nA (g 15)))), (ad 16, .inr (1, [.int (nI (f 11)), .ref (ad 17), .ref (ad 18)])), (ad 17, .inl (ka 17, 8, .inl (nA (g 17)))), (ad 18, .inl (ka 18, 32, .inl (nA (g 18)))), (ad 19, .inr (3, [.ref (ad 20), .ref (ad 21), .ref (ad 22), .int (nI (f 12)), .int (nI (f 13)), .int (nI (f 14)), .int (nI (f 15)), .int (nI (f 16)), .int (nI (f 17))])), (ad 20, .inl (ka 20, L, .inr (.inl (lA (g 20))))), (ad 21, .inl (ka 21, L, .inl (nA (g 21)))), (ad 22, .inl (ka 22, mOf L, .inl (nA (g 22)))), (ad 23, .inl (ka 23, 32, .inl (nA (g 23))))] := hD
        refine lv_iinc (v := nI 0) (lv' := [(2, .int (nI 0)), (0, .ref (ad 0)), (1, .int (nI v))]) hx hb dX4_append_40 hl (k := 0) rfl (by decide) (by decide) rfl (fun ls hl => ?_)
        refine lv_goto (tgt := 3) hx hb dX4_append_43 (by decide) ?_
        refine lv_iload_n hx hb dX4_append_3 rfl (lv_at hl 0 rfl) ?_
        refine lv_if_lt (tgt := 46) hx hb dX4_append_4 (by decide) (fun c4_7 => by first | exact absurd c4_7 (by decide) | exact absurd (by decide) c4_7) (fun c4_7 => ?_)
        refine lv_aload_n hx hb dX4_append_7 rfl (lv_at hl 1 rfl) ?_
        refine va_get (D := D) (ci := 4) (v := .int (nI ((((f 0) + 1) + 1) + 1))) (C := RX4) (T := TX4) (N := 10) hx hb hU iX4 hown hK hP 0 rfl rfl 1 (by decide) (hU _ mU_15) (fun _ h9 => h9) rfl dX4_append_8 ?_
        refine lv_sipush (v := nI 200) hx hb dX4_append_11 (by decide) ?_
        refine lv_icmp_ge (tgt := 46) hx hb dX4_append_14 (by decide) (fun c14_8 => ?_) (fun c14_8 => ?_)
        · have c14_8 : 200 ≤ (((f 0) + 1) + 1) + 1 := (nI_leI (a := 200) (b := (((f 0) + 1) + 1) + 1) (by omega) (by omega)).mp c14_8
          exfalso; omega
        · have c14_8 : ¬ (200 ≤ (((f 0) + 1) + 1) + 1) := fun h9 => c14_8 ((nI_leI (a := 200) (b := (((f 0) + 1) + 1) + 1) (by omega) (by omega)).mpr h9)
          refine lv_aload_n hx hb dX4_append_17 rfl (lv_at hl 1 rfl) ?_
          refine va_get (D := D) (ci := 4) (v := .ref (ad 1)) (C := RX4) (T := TX4) (N := 10) hx hb hU iX4 hown hK hP 0 rfl rfl 0 (by decide) (hU _ mU_14) (fun _ h9 => h9) rfl dX4_append_18 ?_
          refine lv_aload_n hx hb dX4_append_21 rfl (lv_at hl 1 rfl) ?_
          refine va_get (D := D) (ci := 4) (v := .int (nI ((((f 0) + 1) + 1) + 1))) (C := RX4) (T := TX4) (N := 10) hx hb hU iX4 hown hK hP 0 rfl rfl 1 (by decide) (hU _ mU_15) (fun _ h9 => h9) rfl dX4_append_22 ?_
          refine lv_iload_n hx hb dX4_append_25 rfl (lv_at hl 2 rfl) ?_
          refine lv_iload_n hx hb dX4_append_26 rfl (lv_at hl 0 rfl) ?_
          refine lv_iushr hx hb dX4_append_27 rfl ?_
          refine lv_topE (nI (v / 2 ^ 0)) (z_ushr (by omega) (by decide)) ?_
          refine lv_i2b hx hb dX4_append_28 rfl ?_
          refine lv_topE (nI (sb (v / 2 ^ 0 % 256))) (z_i2b _) ?_
          refine n_bast hx hb hK hP hD hS 1 0 rfl rfl (i := (((f 0) + 1) + 1) + 1) (v := sb (v / 2 ^ 0 % 256)) (by omega) (by decide) (sb_fit (Nat.mod_lt _ (by decide))) dX4_append_29 (fun H locs hP hD hS => ?_)
          have hP : va_P D vwCl [(ad 0, .inr (4, [.ref (ad 1), .int (nI ((((f 0) + 1) + 1) + 1)), .ref (ad 2), .ref (ad 3), .ref (ad 6), .ref (ad 9), .ref (ad 19), .int (nI (f 1)), .ref (ad 23), .int (nI (f 2))])), (ad 1, .inl (ka 1, 200, .inl (nA (upN (upN (upN (upN (g 1) (f 0) (sb (v / 2 ^ 24 % 256))) ((f 0) + 1) (sb (v / 2 ^ 16 % 256))) (((f 0) + 1) + 1) (sb (v / 2 ^ 8 % 256))) ((((f 0) + 1) + 1) + 1) (sb (v / 2 ^ 0 % 256)))))), (ad 2, .inr (2, [.int (nI (f 3)), .int (nI (f 4)), .int (nI (f 5)), .int (nI (f 6))])), (ad 3, .inr (1, [.int (nI (f 7)), .ref (ad 4), .ref (ad 5)])), (ad 4, .inl (ka 4, 8, .inl (nA (g 4)))), (ad 5, .inl (ka 5, 32, .inl (nA (g 5)))), (ad 6, .inr (1, [.int (nI (f 8)), .ref (ad 7), .ref (ad 8)])), (ad 7, .inl (ka 7, 8, .inl (nA (g 7)))), (ad 8, .inl (ka 8, 32, .inl (nA (g 8)))), (ad 9, .inr (0, [.ref (ad 10), .ref (ad 11), .ref (ad 12), .int (nI (f 9))])), (ad 10, .inl (ka 10, 2, .inr (.inr (.inr (.inr (fun j => if j = 0 then some (ad 13) else some (ad 16))))))), (ad 11, .inl (ka 11, 4, .inl (nA (g 11)))), (ad 12, .inl (ka 12, 4, .inl (nA (g 12)))), (ad 13, .inr (1, [.int (nI (f 10)), .ref (ad 14), .ref (ad 15)])), (ad 14, .inl (ka 14, 8, .inl (nA (g 14)))), (ad 15, .inl (ka 15, 32, .inl (nA (g 15)))), (ad 16, .inr (1, [.int (nI (f 11)), .ref (ad 17), .ref (ad 18)])), (ad 17, .inl (ka 17, 8, .inl (nA (g 17)))), (ad 18, .inl (ka 18, 32, .inl (nA (g 18)))), (ad 19, .inr (3, [.ref (ad 20), .ref (ad 21), .ref (ad 22), .int (nI (f 12)), .int (nI (f 13)), .int (nI (f 14)), .int (nI (f 15)), .int (nI (f 16)), .int (nI (f 17))])), (ad 20, .inl (ka 20, L, .inr (.inl (lA (g 20))))), (ad 21, .inl (ka 21, L, .inl (nA (g 21)))), (ad 22, .inl (ka 22, mOf L, .inl (nA (g 22)))), (ad 23, .inl (ka 23, 32, .inl (nA (g 23))))] H := hP
          have hD : va_D Ar [(ad 0, .inr (4, [.ref (ad 1), .int (nI ((((f 0) + 1) + 1) + 1)), .ref (ad 2), .ref (ad 3), .ref (ad 6), .ref (ad 9), .ref (ad 19), .int (nI (f 1)), .ref (ad 23), .int (nI (f 2))])), (ad 1, .inl (ka 1, 200, .inl (nA (upN (upN (upN (upN (g 1) (f 0) (sb (v / 2 ^ 24 % 256))) ((f 0) + 1) (sb (v / 2 ^ 16 % 256))) (((f 0) + 1) + 1) (sb (v / 2 ^ 8 % 256))) ((((f 0) + 1) + 1) + 1) (sb (v / 2 ^ 0 % 256)))))), (ad 2, .inr (2, [.int (nI (f 3)), .int (nI (f 4)), .int (nI (f 5)), .int (nI (f 6))])), (ad 3, .inr (1, [.int (nI (f 7)), .ref (ad 4), .ref (ad 5)])), (ad 4, .inl (ka 4, 8, .inl (nA (g 4)))), (ad 5, .inl (ka 5, 32, .inl (nA (g 5)))), (ad 6, .inr (1, [.int (nI (f 8)), .ref (ad 7), .ref (ad 8)])), (ad 7, .inl (ka 7, 8, .inl (nA (g 7)))), (ad 8, .inl (ka 8, 32, .inl (nA (g 8)))), (ad 9, .inr (0, [.ref (ad 10), .ref (ad 11), .ref (ad 12), .int (nI (f 9))])), (ad 10, .inl (ka 10, 2, .inr (.inr (.inr (.inr (fun j => if j = 0 then some (ad 13) else some (ad 16))))))), (ad 11, .inl (ka 11, 4, .inl (nA (g 11)))), (ad 12, .inl (ka 12, 4, .inl (nA (g 12)))), (ad 13, .inr (1, [.int (nI (f 10)), .ref (ad 14), .ref (ad 15)])), (ad 14, .inl (ka 14, 8, .inl (nA (g 14)))), (ad 15, .inl (ka 15, 32, .inl (nA (g 15)))), (ad 16, .inr (1, [.int (nI (f 11)), .ref (ad 17), .ref (ad 18)])), (ad 17, .inl (ka 17, 8, .inl (nA (g 17)))), (ad 18, .inl (ka 18, 32, .inl (nA (g 18)))), (ad 19, .inr (3, [.ref (ad 20), .ref (ad 21), .ref (ad 22), .int (nI (f 12)), .int (nI (f 13)), .int (nI (f 14)), .int (nI (f 15)), .int (nI (f 16)), .int (nI (f 17))])), (ad 20, .inl (ka 20, L, .inr (.inl (lA (g 20))))), (ad 21, .inl (ka 21, L, .inl (nA (g 21)))), (ad 22, .inl (ka 22, mOf L, .inl (nA (g 22)))), (ad 23, .inl (ka 23, 32, .inl (nA (g 23))))] := hD
          refine lv_aload_n hx hb dX4_append_30 rfl (lv_at hl 1 rfl) ?_
          refine lv_dup hx hb dX4_append_31 rfl ?_
          refine va_get (D := D) (ci := 4) (v := .int (nI ((((f 0) + 1) + 1) + 1))) (C := RX4) (T := TX4) (N := 10) hx hb hU iX4 hown hK hP 0 rfl rfl 1 (by decide) (hU _ mU_15) (fun _ h9 => h9) rfl dX4_append_32 ?_
          refine lv_iconst (v := nI 1) hx hb dX4_append_35 (by decide) ?_
          refine lv_iadd hx hb dX4_append_36 ?_
          refine lv_topE (nI (((((f 0) + 1) + 1) + 1) + 1)) (nI_add _ _) ?_
          refine va_put (D := D) (ci := 4) (v := .int (nI (((((f 0) + 1) + 1) + 1) + 1))) (ty := .int) (C := RX4) (T := TX4) (N := 10) hx hb hU iX4 tyX4 tyX4_ok nmX4 hown hK hP hD hS 0 rfl rfl 1 (by decide) (hU _ mU_15) (fun _ h9 => h9) rfl (by decide +kernel) rfl rfl (Nat.le_of_ble_eq_true rfl) dX4_append_37 (fun H locs hP hD hS => ?_)
          have hP : va_P D vwCl [(ad 0, .inr (4, [.ref (ad 1), .int (nI (((((f 0) + 1) + 1) + 1) + 1)), .ref (ad 2), .ref (ad 3), .ref (ad 6), .ref (ad 9), .ref (ad 19), .int (nI (f 1)), .ref (ad 23), .int (nI (f 2))])), (ad 1, .inl (ka 1, 200, .inl (nA (upN (upN (upN (upN (g 1) (f 0) (sb (v / 2 ^ 24 % 256))) ((f 0) + 1) (sb (v / 2 ^ 16 % 256))) (((f 0) + 1) + 1) (sb (v / 2 ^ 8 % 256))) ((((f 0) + 1) + 1) + 1) (sb (v / 2 ^ 0 % 256)))))), (ad 2, .inr (2, [.int (nI (f 3)), .int (nI (f 4)), .int (nI (f 5)), .int (nI (f 6))])), (ad 3, .inr (1, [.int (nI (f 7)), .ref (ad 4), .ref (ad 5)])), (ad 4, .inl (ka 4, 8, .inl (nA (g 4)))), (ad 5, .inl (ka 5, 32, .inl (nA (g 5)))), (ad 6, .inr (1, [.int (nI (f 8)), .ref (ad 7), .ref (ad 8)])), (ad 7, .inl (ka 7, 8, .inl (nA (g 7)))), (ad 8, .inl (ka 8, 32, .inl (nA (g 8)))), (ad 9, .inr (0, [.ref (ad 10), .ref (ad 11), .ref (ad 12), .int (nI (f 9))])), (ad 10, .inl (ka 10, 2, .inr (.inr (.inr (.inr (fun j => if j = 0 then some (ad 13) else some (ad 16))))))), (ad 11, .inl (ka 11, 4, .inl (nA (g 11)))), (ad 12, .inl (ka 12, 4, .inl (nA (g 12)))), (ad 13, .inr (1, [.int (nI (f 10)), .ref (ad 14), .ref (ad 15)])), (ad 14, .inl (ka 14, 8, .inl (nA (g 14)))), (ad 15, .inl (ka 15, 32, .inl (nA (g 15)))), (ad 16, .inr (1, [.int (nI (f 11)), .ref (ad 17), .ref (ad 18)])), (ad 17, .inl (ka 17, 8, .inl (nA (g 17)))), (ad 18, .inl (ka 18, 32, .inl (nA (g 18)))), (ad 19, .inr (3, [.ref (ad 20), .ref (ad 21), .ref (ad 22), .int (nI (f 12)), .int (nI (f 13)), .int (nI (f 14)), .int (nI (f 15)), .int (nI (f 16)), .int (nI (f 17))])), (ad 20, .inl (ka 20, L, .inr (.inl (lA (g 20))))), (ad 21, .inl (ka 21, L, .inl (nA (g 21)))), (ad 22, .inl (ka 22, mOf L, .inl (nA (g 22)))), (ad 23, .inl (ka 23, 32, .inl (nA (g 23))))] H := hP
          have hD : va_D Ar [(ad 0, .inr (4, [.ref (ad 1), .int (nI (((((f 0) + 1) + 1) + 1) + 1)), .ref (ad 2), .ref (ad 3), .ref (ad 6), .ref (ad 9), .ref (ad 19), .int (nI (f 1)), .ref (ad 23), .int (nI (f 2))])), (ad 1, .inl (ka 1, 200, .inl (nA (upN (upN (upN (upN (g 1) (f 0) (sb (v / 2 ^ 24 % 256))) ((f 0) + 1) (sb (v / 2 ^ 16 % 256))) (((f 0) + 1) + 1) (sb (v / 2 ^ 8 % 256))) ((((f 0) + 1) + 1) + 1) (sb (v / 2 ^ 0 % 256)))))), (ad 2, .inr (2, [.int (nI (f 3)), .int (nI (f 4)), .int (nI (f 5)), .int (nI (f 6))])), (ad 3, .inr (1, [.int (nI (f 7)), .ref (ad 4), .ref (ad 5)])), (ad 4, .inl (ka 4, 8, .inl (nA (g 4)))), (ad 5, .inl (ka 5, 32, .inl (nA (g 5)))), (ad 6, .inr (1, [.int (nI (f 8)), .ref (ad 7), .ref (ad 8)])), (ad 7, .inl (ka 7, 8, .inl (nA (g 7)))), (ad 8, .inl (ka 8, 32, .inl (nA (g 8)))), (ad 9, .inr (0, [.ref (ad 10), .ref (ad 11), .ref (ad 12), .int (nI (f 9))])), (ad 10, .inl (ka 10, 2, .inr (.inr (.inr (.inr (fun j => if j = 0 then some (ad 13) else some (ad 16))))))), (ad 11, .inl (ka 11, 4, .inl (nA (g 11)))), (ad 12, .inl (ka 12, 4, .inl (nA (g 12)))), (ad 13, .inr (1, [.int (nI (f 10)), .ref (ad 14), .ref (ad 15)])), (ad 14, .inl (ka 14, 8, .inl (nA (g 14)))), (ad 15, .inl (ka 15, 32, .inl (nA (g 15)))), (ad 16, .inr (1, [.int (nI (f 11)), .ref (ad 17), .ref (ad 18)])), (ad 17, .inl (ka 17, 8, .inl (nA (g 17)))), (ad 18, .inl (ka 18, 32, .inl (nA (g 18)))), (ad 19, .inr (3, [.ref (ad 20), .ref (ad 21), .ref (ad 22), .int (nI (f 12)), .int (nI (f 13)), .int (nI (f 14)), .int (nI (f 15)), .int (nI (f 16)), .int (nI (f 17))])), (ad 20, .inl (ka 20, L, .inr (.inl (lA (g 20))))), (ad 21, .inl (ka 21, L, .inl (nA (g 21)))), (ad 22, .inl (ka 22, mOf L, .inl (nA (g 22)))), (ad 23, .inl (ka 23, 32, .inl (nA (g 23))))] := hD
          refine lv_iinc (v := nI 4294967288) (lv' := [(2, .int (nI 4294967288)), (0, .ref (ad 0)), (1, .int (nI v))]) hx hb dX4_append_40 hl (k := 0) rfl (by decide) (by decide) rfl (fun ls hl => ?_)
          refine lv_goto (tgt := 3) hx hb dX4_append_43 (by decide) ?_
          refine lv_iload_n hx hb dX4_append_3 rfl (lv_at hl 0 rfl) ?_
          refine lv_if_lt (tgt := 46) hx hb dX4_append_4 (by decide) (fun c4_9 => ?_) (fun c4_9 => by first | exact absurd (by decide) c4_9 | exact absurd c4_9 (by decide))
          subst hQ
          exact rwv (ad, ka, L, upN (f) 0 (((((f 0) + 1) + 1) + 1) + 1), upA (g) 1 (upN (upN (upN (upN (g 1) (f 0) (sb (v / 2 ^ 24 % 256))) ((f 0) + 1) (sb (v / 2 ^ 16 % 256))) (((f 0) + 1) + 1) (sb (v / 2 ^ 8 % 256))) ((((f 0) + 1) + 1) + 1) (sb (v / 2 ^ 0 % 256)))) hx hb hr hlocks (rfl) hP hK hD hS dX4_append_46

set_option maxHeartbeats 4000000 in
set_option maxRecDepth 100000 in
theorem c_X4_feed (l : Launch) (D : va_G) (ad : Nat → Nat) (ka : Nat → ClassId) (L : Nat) (f : Nat → Nat) (g : Nat → Nat → Nat) (sz : Nat) (va : Nat) (vb : Nat) (vc : Nat) (vd : Nat) (ve : Nat) (hva9 : va < 4294967296) (hvb9 : vb < 4294967296) (hvc9 : vc < 4294967296) (hvd9 : vd < 4294967296) (hve9 : ve < 4294967296) (h200 : f 0 ≤ 200) : Met l yX4_feed (.code yX4_feed cX4_feed 6 (some .int) :: wsL_law) ({ frames := 1, cells := 0, slots := 0, locals := 22 }) (va_Pc [.ref (ad 0), .int (nI va), .int (nI vb), .int (nI vc), .int (nI vd), .int (nI ve)] (PW D (xW ad ka L f g) (xT ka) sz)) (va_Qi (fun (r : Int32) (u : XSt) => (f 0 + 20 ≤ 200 → r = nI (f 0 + 20) ∧ u = (ad, ka, L, upN f 0 (f 0 + 20), upA g 1 (tapeC20 (g 1) (f 0) va vb vc vd ve))) ∧ (¬ (f 0 + 20 ≤ 200) → r = nI 4294967295 ∧ u = (ad, ka, L, f, g))) (QW D (fun u : XSt => xW u.1 u.2.1 u.2.2.1 u.2.2.2.1 u.2.2.2.2) (fun u : XSt => xT u.2.1) (va_A (xW ad ka L f g) sz)) (va_A (xW ad ka L f g) sz)) 0 0 (va_A (xW ad ka L f g) sz) := by
  refine Met.ofW (cc := cX4_feed) (maxL := 6) (ret := (some .int)) (by decide) rfl ?_
  intro p e s m args below meth c s₁ B hml hv
  obtain ⟨rfl, hsz, hP, hK, hD0⟩ := hv
  have hx := B.exec
  have hb := B.bytes
  have hr := B.returns
  have hts := atoms_spec (ws := .code yX4_feed cX4_feed 6 (some .int) :: wsL_law) B.pre
  have hU : ∀ w ∈ wsL_law, w.before _ s = true := fun w h => hts w (List.mem_cons_of_mem _ h)
  have hown : s.vm.findClass RX4 = some m.cls := findClass_of_methodNamed B.named
  have hlocks := B.notSynchronized
  subst hsz
  have hD := hD0.self (sz := s.heap.size)
  generalize hAe : va_A (xW ad ka L f g) s.heap.size = Ar at hD ⊢
  have hA : ∀ q : Nat, s.heap.size ≤ q → Ar q := fun q h => by rw [← hAe]; exact Or.inr h
  have hS : va_S Ar s.heap s.heap [] := va_S.rf
  have hP : va_P D vwCl [(ad 0, .inr (4, [.ref (ad 1), .int (nI (f 0)), .ref (ad 2), .ref (ad 3), .ref (ad 6), .ref (ad 9), .ref (ad 19), .int (nI (f 1)), .ref (ad 23), .int (nI (f 2))])), (ad 1, .inl (ka 1, 200, .inl (nA (g 1)))), (ad 2, .inr (2, [.int (nI (f 3)), .int (nI (f 4)), .int (nI (f 5)), .int (nI (f 6))])), (ad 3, .inr (1, [.int (nI (f 7)), .ref (ad 4), .ref (ad 5)])), (ad 4, .inl (ka 4, 8, .inl (nA (g 4)))), (ad 5, .inl (ka 5, 32, .inl (nA (g 5)))), (ad 6, .inr (1, [.int (nI (f 8)), .ref (ad 7), .ref (ad 8)])), (ad 7, .inl (ka 7, 8, .inl (nA (g 7)))), (ad 8, .inl (ka 8, 32, .inl (nA (g 8)))), (ad 9, .inr (0, [.ref (ad 10), .ref (ad 11), .ref (ad 12), .int (nI (f 9))])), (ad 10, .inl (ka 10, 2, .inr (.inr (.inr (.inr (fun j => if j = 0 then some (ad 13) else some (ad 16))))))), (ad 11, .inl (ka 11, 4, .inl (nA (g 11)))), (ad 12, .inl (ka 12, 4, .inl (nA (g 12)))), (ad 13, .inr (1, [.int (nI (f 10)), .ref (ad 14), .ref (ad 15)])), (ad 14, .inl (ka 14, 8, .inl (nA (g 14)))), (ad 15, .inl (ka 15, 32, .inl (nA (g 15)))), (ad 16, .inr (1, [.int (nI (f 11)), .ref (ad 17), .ref (ad 18)])), (ad 17, .inl (ka 17, 8, .inl (nA (g 17)))), (ad 18, .inl (ka 18, 32, .inl (nA (g 18)))), (ad 19, .inr (3, [.ref (ad 20), .ref (ad 21), .ref (ad 22), .int (nI (f 12)), .int (nI (f 13)), .int (nI (f 14)), .int (nI (f 15)), .int (nI (f 16)), .int (nI (f 17))])), (ad 20, .inl (ka 20, L, .inr (.inl (lA (g 20))))), (ad 21, .inl (ka 21, L, .inl (nA (g 21)))), (ad 22, .inl (ka 22, mOf L, .inl (nA (g 22)))), (ad 23, .inl (ka 23, 32, .inl (nA (g 23))))] s.heap := hP
  have hD : va_D Ar [(ad 0, .inr (4, [.ref (ad 1), .int (nI (f 0)), .ref (ad 2), .ref (ad 3), .ref (ad 6), .ref (ad 9), .ref (ad 19), .int (nI (f 1)), .ref (ad 23), .int (nI (f 2))])), (ad 1, .inl (ka 1, 200, .inl (nA (g 1)))), (ad 2, .inr (2, [.int (nI (f 3)), .int (nI (f 4)), .int (nI (f 5)), .int (nI (f 6))])), (ad 3, .inr (1, [.int (nI (f 7)), .ref (ad 4), .ref (ad 5)])), (ad 4, .inl (ka 4, 8, .inl (nA (g 4)))), (ad 5, .inl (ka 5, 32, .inl (nA (g 5)))), (ad 6, .inr (1, [.int (nI (f 8)), .ref (ad 7), .ref (ad 8)])), (ad 7, .inl (ka 7, 8, .inl (nA (g 7)))), (ad 8, .inl (ka 8, 32, .inl (nA (g 8)))), (ad 9, .inr (0, [.ref (ad 10), .ref (ad 11), .ref (ad 12), .int (nI (f 9))])), (ad 10, .inl (ka 10, 2, .inr (.inr (.inr (.inr (fun j => if j = 0 then some (ad 13) else some (ad 16))))))), (ad 11, .inl (ka 11, 4, .inl (nA (g 11)))), (ad 12, .inl (ka 12, 4, .inl (nA (g 12)))), (ad 13, .inr (1, [.int (nI (f 10)), .ref (ad 14), .ref (ad 15)])), (ad 14, .inl (ka 14, 8, .inl (nA (g 14)))), (ad 15, .inl (ka 15, 32, .inl (nA (g 15)))), (ad 16, .inr (1, [.int (nI (f 11)), .ref (ad 17), .ref (ad 18)])), (ad 17, .inl (ka 17, 8, .inl (nA (g 17)))), (ad 18, .inl (ka 18, 32, .inl (nA (g 18)))), (ad 19, .inr (3, [.ref (ad 20), .ref (ad 21), .ref (ad 22), .int (nI (f 12)), .int (nI (f 13)), .int (nI (f 14)), .int (nI (f 15)), .int (nI (f 16)), .int (nI (f 17))])), (ad 20, .inl (ka 20, L, .inr (.inl (lA (g 20))))), (ad 21, .inl (ka 21, L, .inl (nA (g 21)))), (ad 22, .inl (ka 22, mOf L, .inl (nA (g 22)))), (ad 23, .inl (ka 23, 32, .inl (nA (g 23))))] := hD
  generalize hQ : MQ _ _ _ _ _ _ _ = Q
  have hl := lv_entry ([.ref (ad 0), .int (nI va), .int (nI vb), .int (nI vc), .int (nI vd), .int (nI ve)]) (n := 6) (Nat.le_of_ble_eq_true rfl)
  rw [lg_entry_eq]
  generalize (lg_sl ([.ref (ad 0), .int (nI va), .int (nI vb), .int (nI vc), .int (nI vd), .int (nI ve)]) ++ List.replicate (6 - (lg_sl ([.ref (ad 0), .int (nI va), .int (nI vb), .int (nI vc), .int (nI vd), .int (nI ve)])).length) Slot.unset).toArray = ls at hl ⊢
  have hl : lv_has ls 6 [(0, .ref (ad 0)), (1, .int (nI va)), (2, .int (nI vb)), (3, .int (nI vc)), (4, .int (nI vd)), (5, .int (nI ve))] := hl
  refine lv_aload_n hx hb dX4_feed_0 rfl (lv_at hl 0 rfl) ?_
  refine va_get (D := D) (ci := 4) (v := .int (nI (f 0))) (C := RX4) (T := TX4) (N := 10) hx hb hU iX4 hown hK hP 0 rfl rfl 1 (by decide) (hU _ mU_15) (fun _ h9 => h9) rfl dX4_feed_1 ?_
  refine lv_bipush (v := nI 20) hx hb dX4_feed_4 (by decide) ?_
  refine lv_iadd hx hb dX4_feed_6 ?_
  refine lv_topE (nI ((f 0) + 20)) (nI_add _ _) ?_
  refine lv_sipush (v := nI 200) hx hb dX4_feed_7 (by decide) ?_
  refine lv_icmp_le (tgt := 15) hx hb dX4_feed_10 (by decide) (fun c10_1 => ?_) (fun c10_1 => ?_)
  · have c10_1 : (f 0) + 20 ≤ 200 := (nI_leI (a := (f 0) + 20) (b := 200) (by omega) (by omega)).mp c10_1
    refine lv_aload_n hx hb dX4_feed_15 rfl (lv_at hl 0 rfl) ?_
    refine lv_iload_n hx hb dX4_feed_16 rfl (lv_at hl 1 rfl) ?_
    refine kVv (As := [.int (nI va)]) (rest := []) (wr := []) ⟨hx, hb, hml, hown, hts⟩ (c_X4_append l D ad ka L f g s.heap.size va (show va < 4294967296 from by omega) (show (f 0) + 4 ≤ 200 from by omega)) (cwV 1 hts (gV mU_95 mU_96 mU_97 mU_3 mU_98) rfl rfl rfl (by decide +kernel) ⟨Nat.le_of_ble_eq_true rfl, Nat.le_of_ble_eq_true rfl⟩) (va_recv hK hP (ci := 4) (q0 := 0) rfl rfl) hP hK hD hS hA [0, 1, 2, 3, 4, 5, 6, 7, 8, 9, 10, 11, 12, 13, 14, 15, 16, 17, 18, 19, 20, 21, 22, 23] [] [0, 1, 2, 3, 4, 5, 6, 7, 8, 9, 10, 11, 12, 13, 14, 15] [] rfl rfl rfl rfl (by decide) rfl rfl rfl hl.1 rfl (Nat.le_of_ble_eq_true rfl) dX4_feed_17 ⟨by decide, by decide⟩ (fun u H locs hw hP hD hK hS => ?_)
    subst hw
    have hP : va_P D vwCl [(ad 0, .inr (4, [.ref (ad 1), .int (nI (f 0 + 4)), .ref (ad 2), .ref (ad 3), .ref (ad 6), .ref (ad 9), .ref (ad 19), .int (nI (f 1)), .ref (ad 23), .int (nI (f 2))])), (ad 1, .inl (ka 1, 200, .inl (nA (tapeC4 (g 1) (f 0) va)))), (ad 2, .inr (2, [.int (nI (f 3)), .int (nI (f 4)), .int (nI (f 5)), .int (nI (f 6))])), (ad 3, .inr (1, [.int (nI (f 7)), .ref (ad 4), .ref (ad 5)])), (ad 4, .inl (ka 4, 8, .inl (nA (g 4)))), (ad 5, .inl (ka 5, 32, .inl (nA (g 5)))), (ad 6, .inr (1, [.int (nI (f 8)), .ref (ad 7), .ref (ad 8)])), (ad 7, .inl (ka 7, 8, .inl (nA (g 7)))), (ad 8, .inl (ka 8, 32, .inl (nA (g 8)))), (ad 9, .inr (0, [.ref (ad 10), .ref (ad 11), .ref (ad 12), .int (nI (f 9))])), (ad 10, .inl (ka 10, 2, .inr (.inr (.inr (.inr (fun j => if j = 0 then some (ad 13) else some (ad 16))))))), (ad 11, .inl (ka 11, 4, .inl (nA (g 11)))), (ad 12, .inl (ka 12, 4, .inl (nA (g 12)))), (ad 13, .inr (1, [.int (nI (f 10)), .ref (ad 14), .ref (ad 15)])), (ad 14, .inl (ka 14, 8, .inl (nA (g 14)))), (ad 15, .inl (ka 15, 32, .inl (nA (g 15)))), (ad 16, .inr (1, [.int (nI (f 11)), .ref (ad 17), .ref (ad 18)])), (ad 17, .inl (ka 17, 8, .inl (nA (g 17)))), (ad 18, .inl (ka 18, 32, .inl (nA (g 18)))), (ad 19, .inr (3, [.ref (ad 20), .ref (ad 21), .ref (ad 22), .int (nI (f 12)), .int (nI (f 13)), .int (nI (f 14)), .int (nI (f 15)), .int (nI (f 16)), .int (nI (f 17))])), (ad 20, .inl (ka 20, L, .inr (.inl (lA (g 20))))), (ad 21, .inl (ka 21, L, .inl (nA (g 21)))), (ad 22, .inl (ka 22, mOf L, .inl (nA (g 22)))), (ad 23, .inl (ka 23, 32, .inl (nA (g 23))))] H := hP
    have hD : va_D Ar [(ad 0, .inr (4, [.ref (ad 1), .int (nI (f 0 + 4)), .ref (ad 2), .ref (ad 3), .ref (ad 6), .ref (ad 9), .ref (ad 19), .int (nI (f 1)), .ref (ad 23), .int (nI (f 2))])), (ad 1, .inl (ka 1, 200, .inl (nA (tapeC4 (g 1) (f 0) va)))), (ad 2, .inr (2, [.int (nI (f 3)), .int (nI (f 4)), .int (nI (f 5)), .int (nI (f 6))])), (ad 3, .inr (1, [.int (nI (f 7)), .ref (ad 4), .ref (ad 5)])), (ad 4, .inl (ka 4, 8, .inl (nA (g 4)))), (ad 5, .inl (ka 5, 32, .inl (nA (g 5)))), (ad 6, .inr (1, [.int (nI (f 8)), .ref (ad 7), .ref (ad 8)])), (ad 7, .inl (ka 7, 8, .inl (nA (g 7)))), (ad 8, .inl (ka 8, 32, .inl (nA (g 8)))), (ad 9, .inr (0, [.ref (ad 10), .ref (ad 11), .ref (ad 12), .int (nI (f 9))])), (ad 10, .inl (ka 10, 2, .inr (.inr (.inr (.inr (fun j => if j = 0 then some (ad 13) else some (ad 16))))))), (ad 11, .inl (ka 11, 4, .inl (nA (g 11)))), (ad 12, .inl (ka 12, 4, .inl (nA (g 12)))), (ad 13, .inr (1, [.int (nI (f 10)), .ref (ad 14), .ref (ad 15)])), (ad 14, .inl (ka 14, 8, .inl (nA (g 14)))), (ad 15, .inl (ka 15, 32, .inl (nA (g 15)))), (ad 16, .inr (1, [.int (nI (f 11)), .ref (ad 17), .ref (ad 18)])), (ad 17, .inl (ka 17, 8, .inl (nA (g 17)))), (ad 18, .inl (ka 18, 32, .inl (nA (g 18)))), (ad 19, .inr (3, [.ref (ad 20), .ref (ad 21), .ref (ad 22), .int (nI (f 12)), .int (nI (f 13)), .int (nI (f 14)), .int (nI (f 15)), .int (nI (f 16)), .int (nI (f 17))])), (ad 20, .inl (ka 20, L, .inr (.inl (lA (g 20))))), (ad 21, .inl (ka 21, L, .inl (nA (g 21)))), (ad 22, .inl (ka 22, mOf L, .inl (nA (g 22)))), (ad 23, .inl (ka 23, 32, .inl (nA (g 23))))] := hD
    have hK : va_K D vwCl [(ka 1, .byte), (ka 4, .int), (ka 5, .int), (ka 7, .int), (ka 8, .int), (ka 10, .object "FarStore$Program"), (ka 11, .int), (ka 12, .int), (ka 14, .int), (ka 15, .int), (ka 17, .int), (ka 18, .int), (ka 20, .long), (ka 21, .int), (ka 22, .int), (ka 23, .int)] s := hK.sub [0, 1, 2, 3, 4, 5, 6, 7, 8, 9, 10, 11, 12, 13, 14, 15] rfl
    refine lv_aload_n hx hb dX4_feed_20 rfl (lv_at hl 0 rfl) ?_
    refine lv_iload_n hx hb dX4_feed_21 rfl (lv_at hl 2 rfl) ?_
    refine kVv (As := [.int (nI vb)]) (rest := []) (wr := []) ⟨hx, hb, hml, hown, hts⟩ (c_X4_append l D ad ka L (upN (f) 0 (f 0 + 4)) (upA (g) 1 (tapeC4 (g 1) (f 0) va)) H.size vb (show vb < 4294967296 from by omega) (show (f 0 + 4) + 4 ≤ 200 from by omega)) (cwV 1 hts (gV mU_95 mU_96 mU_97 mU_3 mU_98) rfl rfl rfl (by decide +kernel) ⟨Nat.le_of_ble_eq_true rfl, Nat.le_of_ble_eq_true rfl⟩) (va_recv hK hP (ci := 4) (q0 := 0) rfl rfl) hP hK hD hS hA [0, 1, 2, 3, 4, 5, 6, 7, 8, 9, 10, 11, 12, 13, 14, 15, 16, 17, 18, 19, 20, 21, 22, 23] [] [0, 1, 2, 3, 4, 5, 6, 7, 8, 9, 10, 11, 12, 13, 14, 15] [] rfl rfl rfl rfl (by decide) rfl rfl rfl hl.1 rfl (Nat.le_of_ble_eq_true rfl) dX4_feed_22 ⟨by decide, by decide⟩ (fun u H locs hw hP hD hK hS => ?_)
    subst hw
    have hP : va_P D vwCl [(ad 0, .inr (4, [.ref (ad 1), .int (nI (f 0 + 8)), .ref (ad 2), .ref (ad 3), .ref (ad 6), .ref (ad 9), .ref (ad 19), .int (nI (f 1)), .ref (ad 23), .int (nI (f 2))])), (ad 1, .inl (ka 1, 200, .inl (nA (tapeC4 (tapeC4 (g 1) (f 0) va) (f 0 + 4) vb)))), (ad 2, .inr (2, [.int (nI (f 3)), .int (nI (f 4)), .int (nI (f 5)), .int (nI (f 6))])), (ad 3, .inr (1, [.int (nI (f 7)), .ref (ad 4), .ref (ad 5)])), (ad 4, .inl (ka 4, 8, .inl (nA (g 4)))), (ad 5, .inl (ka 5, 32, .inl (nA (g 5)))), (ad 6, .inr (1, [.int (nI (f 8)), .ref (ad 7), .ref (ad 8)])), (ad 7, .inl (ka 7, 8, .inl (nA (g 7)))), (ad 8, .inl (ka 8, 32, .inl (nA (g 8)))), (ad 9, .inr (0, [.ref (ad 10), .ref (ad 11), .ref (ad 12), .int (nI (f 9))])), (ad 10, .inl (ka 10, 2, .inr (.inr (.inr (.inr (fun j => if j = 0 then some (ad 13) else some (ad 16))))))), (ad 11, .inl (ka 11, 4, .inl (nA (g 11)))), (ad 12, .inl (ka 12, 4, .inl (nA (g 12)))), (ad 13, .inr (1, [.int (nI (f 10)), .ref (ad 14), .ref (ad 15)])), (ad 14, .inl (ka 14, 8, .inl (nA (g 14)))), (ad 15, .inl (ka 15, 32, .inl (nA (g 15)))), (ad 16, .inr (1, [.int (nI (f 11)), .ref (ad 17), .ref (ad 18)])), (ad 17, .inl (ka 17, 8, .inl (nA (g 17)))), (ad 18, .inl (ka 18, 32, .inl (nA (g 18)))), (ad 19, .inr (3, [.ref (ad 20), .ref (ad 21), .ref (ad 22), .int (nI (f 12)), .int (nI (f 13)), .int (nI (f 14)), .int (nI (f 15)), .int (nI (f 16)), .int (nI (f 17))])), (ad 20, .inl (ka 20, L, .inr (.inl (lA (g 20))))), (ad 21, .inl (ka 21, L, .inl (nA (g 21)))), (ad 22, .inl (ka 22, mOf L, .inl (nA (g 22)))), (ad 23, .inl (ka 23, 32, .inl (nA (g 23))))] H := hP
    have hD : va_D Ar [(ad 0, .inr (4, [.ref (ad 1), .int (nI (f 0 + 8)), .ref (ad 2), .ref (ad 3), .ref (ad 6), .ref (ad 9), .ref (ad 19), .int (nI (f 1)), .ref (ad 23), .int (nI (f 2))])), (ad 1, .inl (ka 1, 200, .inl (nA (tapeC4 (tapeC4 (g 1) (f 0) va) (f 0 + 4) vb)))), (ad 2, .inr (2, [.int (nI (f 3)), .int (nI (f 4)), .int (nI (f 5)), .int (nI (f 6))])), (ad 3, .inr (1, [.int (nI (f 7)), .ref (ad 4), .ref (ad 5)])), (ad 4, .inl (ka 4, 8, .inl (nA (g 4)))), (ad 5, .inl (ka 5, 32, .inl (nA (g 5)))), (ad 6, .inr (1, [.int (nI (f 8)), .ref (ad 7), .ref (ad 8)])), (ad 7, .inl (ka 7, 8, .inl (nA (g 7)))), (ad 8, .inl (ka 8, 32, .inl (nA (g 8)))), (ad 9, .inr (0, [.ref (ad 10), .ref (ad 11), .ref (ad 12), .int (nI (f 9))])), (ad 10, .inl (ka 10, 2, .inr (.inr (.inr (.inr (fun j => if j = 0 then some (ad 13) else some (ad 16))))))), (ad 11, .inl (ka 11, 4, .inl (nA (g 11)))), (ad 12, .inl (ka 12, 4, .inl (nA (g 12)))), (ad 13, .inr (1, [.int (nI (f 10)), .ref (ad 14), .ref (ad 15)])), (ad 14, .inl (ka 14, 8, .inl (nA (g 14)))), (ad 15, .inl (ka 15, 32, .inl (nA (g 15)))), (ad 16, .inr (1, [.int (nI (f 11)), .ref (ad 17), .ref (ad 18)])), (ad 17, .inl (ka 17, 8, .inl (nA (g 17)))), (ad 18, .inl (ka 18, 32, .inl (nA (g 18)))), (ad 19, .inr (3, [.ref (ad 20), .ref (ad 21), .ref (ad 22), .int (nI (f 12)), .int (nI (f 13)), .int (nI (f 14)), .int (nI (f 15)), .int (nI (f 16)), .int (nI (f 17))])), (ad 20, .inl (ka 20, L, .inr (.inl (lA (g 20))))), (ad 21, .inl (ka 21, L, .inl (nA (g 21)))), (ad 22, .inl (ka 22, mOf L, .inl (nA (g 22)))), (ad 23, .inl (ka 23, 32, .inl (nA (g 23))))] := hD
    have hK : va_K D vwCl [(ka 1, .byte), (ka 4, .int), (ka 5, .int), (ka 7, .int), (ka 8, .int), (ka 10, .object "FarStore$Program"), (ka 11, .int), (ka 12, .int), (ka 14, .int), (ka 15, .int), (ka 17, .int), (ka 18, .int), (ka 20, .long), (ka 21, .int), (ka 22, .int), (ka 23, .int)] s := hK.sub [0, 1, 2, 3, 4, 5, 6, 7, 8, 9, 10, 11, 12, 13, 14, 15] rfl
    refine lv_aload_n hx hb dX4_feed_25 rfl (lv_at hl 0 rfl) ?_
    refine lv_iload_n hx hb dX4_feed_26 rfl (lv_at hl 3 rfl) ?_
    refine kVv (As := [.int (nI vc)]) (rest := []) (wr := []) ⟨hx, hb, hml, hown, hts⟩ (c_X4_append l D ad ka L (upN (f) 0 (f 0 + 8)) (upA (g) 1 (tapeC4 (tapeC4 (g 1) (f 0) va) (f 0 + 4) vb)) H.size vc (show vc < 4294967296 from by omega) (show (f 0 + 8) + 4 ≤ 200 from by omega)) (cwV 1 hts (gV mU_95 mU_96 mU_97 mU_3 mU_98) rfl rfl rfl (by decide +kernel) ⟨Nat.le_of_ble_eq_true rfl, Nat.le_of_ble_eq_true rfl⟩) (va_recv hK hP (ci := 4) (q0 := 0) rfl rfl) hP hK hD hS hA [0, 1, 2, 3, 4, 5, 6, 7, 8, 9, 10, 11, 12, 13, 14, 15, 16, 17, 18, 19, 20, 21, 22, 23] [] [0, 1, 2, 3, 4, 5, 6, 7, 8, 9, 10, 11, 12, 13, 14, 15] [] rfl rfl rfl rfl (by decide) rfl rfl rfl hl.1 rfl (Nat.le_of_ble_eq_true rfl) dX4_feed_27 ⟨by decide, by decide⟩ (fun u H locs hw hP hD hK hS => ?_)
    subst hw
    have hP : va_P D vwCl [(ad 0, .inr (4, [.ref (ad 1), .int (nI (f 0 + 12)), .ref (ad 2), .ref (ad 3), .ref (ad 6), .ref (ad 9), .ref (ad 19), .int (nI (f 1)), .ref (ad 23), .int (nI (f 2))])), (ad 1, .inl (ka 1, 200, .inl (nA (tapeC4 (tapeC4 (tapeC4 (g 1) (f 0) va) (f 0 + 4) vb) (f 0 + 8) vc)))), (ad 2, .inr (2, [.int (nI (f 3)), .int (nI (f 4)), .int (nI (f 5)), .int (nI (f 6))])), (ad 3, .inr (1, [.int (nI (f 7)), .ref (ad 4), .ref (ad 5)])), (ad 4, .inl (ka 4, 8, .inl (nA (g 4)))), (ad 5, .inl (ka 5, 32, .inl (nA (g 5)))), (ad 6, .inr (1, [.int (nI (f 8)), .ref (ad 7), .ref (ad 8)])), (ad 7, .inl (ka 7, 8, .inl (nA (g 7)))), (ad 8, .inl (ka 8, 32, .inl (nA (g 8)))), (ad 9, .inr (0, [.ref (ad 10), .ref (ad 11), .ref (ad 12), .int (nI (f 9))])), (ad 10, .inl (ka 10, 2, .inr (.inr (.inr (.inr (fun j => if j = 0 then some (ad 13) else some (ad 16))))))), (ad 11, .inl (ka 11, 4, .inl (nA (g 11)))), (ad 12, .inl (ka 12, 4, .inl (nA (g 12)))), (ad 13, .inr (1, [.int (nI (f 10)), .ref (ad 14), .ref (ad 15)])), (ad 14, .inl (ka 14, 8, .inl (nA (g 14)))), (ad 15, .inl (ka 15, 32, .inl (nA (g 15)))), (ad 16, .inr (1, [.int (nI (f 11)), .ref (ad 17), .ref (ad 18)])), (ad 17, .inl (ka 17, 8, .inl (nA (g 17)))), (ad 18, .inl (ka 18, 32, .inl (nA (g 18)))), (ad 19, .inr (3, [.ref (ad 20), .ref (ad 21), .ref (ad 22), .int (nI (f 12)), .int (nI (f 13)), .int (nI (f 14)), .int (nI (f 15)), .int (nI (f 16)), .int (nI (f 17))])), (ad 20, .inl (ka 20, L, .inr (.inl (lA (g 20))))), (ad 21, .inl (ka 21, L, .inl (nA (g 21)))), (ad 22, .inl (ka 22, mOf L, .inl (nA (g 22)))), (ad 23, .inl (ka 23, 32, .inl (nA (g 23))))] H := hP
    have hD : va_D Ar [(ad 0, .inr (4, [.ref (ad 1), .int (nI (f 0 + 12)), .ref (ad 2), .ref (ad 3), .ref (ad 6), .ref (ad 9), .ref (ad 19), .int (nI (f 1)), .ref (ad 23), .int (nI (f 2))])), (ad 1, .inl (ka 1, 200, .inl (nA (tapeC4 (tapeC4 (tapeC4 (g 1) (f 0) va) (f 0 + 4) vb) (f 0 + 8) vc)))), (ad 2, .inr (2, [.int (nI (f 3)), .int (nI (f 4)), .int (nI (f 5)), .int (nI (f 6))])), (ad 3, .inr (1, [.int (nI (f 7)), .ref (ad 4), .ref (ad 5)])), (ad 4, .inl (ka 4, 8, .inl (nA (g 4)))), (ad 5, .inl (ka 5, 32, .inl (nA (g 5)))), (ad 6, .inr (1, [.int (nI (f 8)), .ref (ad 7), .ref (ad 8)])), (ad 7, .inl (ka 7, 8, .inl (nA (g 7)))), (ad 8, .inl (ka 8, 32, .inl (nA (g 8)))), (ad 9, .inr (0, [.ref (ad 10), .ref (ad 11), .ref (ad 12), .int (nI (f 9))])), (ad 10, .inl (ka 10, 2, .inr (.inr (.inr (.inr (fun j => if j = 0 then some (ad 13) else some (ad 16))))))), (ad 11, .inl (ka 11, 4, .inl (nA (g 11)))), (ad 12, .inl (ka 12, 4, .inl (nA (g 12)))), (ad 13, .inr (1, [.int (nI (f 10)), .ref (ad 14), .ref (ad 15)])), (ad 14, .inl (ka 14, 8, .inl (nA (g 14)))), (ad 15, .inl (ka 15, 32, .inl (nA (g 15)))), (ad 16, .inr (1, [.int (nI (f 11)), .ref (ad 17), .ref (ad 18)])), (ad 17, .inl (ka 17, 8, .inl (nA (g 17)))), (ad 18, .inl (ka 18, 32, .inl (nA (g 18)))), (ad 19, .inr (3, [.ref (ad 20), .ref (ad 21), .ref (ad 22), .int (nI (f 12)), .int (nI (f 13)), .int (nI (f 14)), .int (nI (f 15)), .int (nI (f 16)), .int (nI (f 17))])), (ad 20, .inl (ka 20, L, .inr (.inl (lA (g 20))))), (ad 21, .inl (ka 21, L, .inl (nA (g 21)))), (ad 22, .inl (ka 22, mOf L, .inl (nA (g 22)))), (ad 23, .inl (ka 23, 32, .inl (nA (g 23))))] := hD
    have hK : va_K D vwCl [(ka 1, .byte), (ka 4, .int), (ka 5, .int), (ka 7, .int), (ka 8, .int), (ka 10, .object "FarStore$Program"), (ka 11, .int), (ka 12, .int), (ka 14, .int), (ka 15, .int), (ka 17, .int), (ka 18, .int), (ka 20, .long), (ka 21, .int), (ka 22, .int), (ka 23, .int)] s := hK.sub [0, 1, 2, 3, 4, 5, 6, 7, 8, 9, 10, 11, 12, 13, 14, 15] rfl
    refine lv_aload_n hx hb dX4_feed_30 rfl (lv_at hl 0 rfl) ?_
    refine lv_iload hx hb dX4_feed_31 (lv_at hl 4 rfl) ?_
    refine kVv (As := [.int (nI vd)]) (rest := []) (wr := []) ⟨hx, hb, hml, hown, hts⟩ (c_X4_append l D ad ka L (upN (f) 0 (f 0 + 12)) (upA (g) 1 (tapeC4 (tapeC4 (tapeC4 (g 1) (f 0) va) (f 0 + 4) vb) (f 0 + 8) vc)) H.size vd (show vd < 4294967296 from by omega) (show (f 0 + 12) + 4 ≤ 200 from by omega)) (cwV 1 hts (gV mU_95 mU_96 mU_97 mU_3 mU_98) rfl rfl rfl (by decide +kernel) ⟨Nat.le_of_ble_eq_true rfl, Nat.le_of_ble_eq_true rfl⟩) (va_recv hK hP (ci := 4) (q0 := 0) rfl rfl) hP hK hD hS hA [0, 1, 2, 3, 4, 5, 6, 7, 8, 9, 10, 11, 12, 13, 14, 15, 16, 17, 18, 19, 20, 21, 22, 23] [] [0, 1, 2, 3, 4, 5, 6, 7, 8, 9, 10, 11, 12, 13, 14, 15] [] rfl rfl rfl rfl (by decide) rfl rfl rfl hl.1 rfl (Nat.le_of_ble_eq_true rfl) dX4_feed_33 ⟨by decide, by decide⟩ (fun u H locs hw hP hD hK hS => ?_)
    subst hw
    have hP : va_P D vwCl [(ad 0, .inr (4, [.ref (ad 1), .int (nI (f 0 + 16)), .ref (ad 2), .ref (ad 3), .ref (ad 6), .ref (ad 9), .ref (ad 19), .int (nI (f 1)), .ref (ad 23), .int (nI (f 2))])), (ad 1, .inl (ka 1, 200, .inl (nA (tapeC4 (tapeC4 (tapeC4 (tapeC4 (g 1) (f 0) va) (f 0 + 4) vb) (f 0 + 8) vc) (f 0 + 12) vd)))), (ad 2, .inr (2, [.int (nI (f 3)), .int (nI (f 4)), .int (nI (f 5)), .int (nI (f 6))])), (ad 3, .inr (1, [.int (nI (f 7)), .ref (ad 4), .ref (ad 5)])), (ad 4, .inl (ka 4, 8, .inl (nA (g 4)))), (ad 5, .inl (ka 5, 32, .inl (nA (g 5)))), (ad 6, .inr (1, [.int (nI (f 8)), .ref (ad 7), .ref (ad 8)])), (ad 7, .inl (ka 7, 8, .inl (nA (g 7)))), (ad 8, .inl (ka 8, 32, .inl (nA (g 8)))), (ad 9, .inr (0, [.ref (ad 10), .ref (ad 11), .ref (ad 12), .int (nI (f 9))])), (ad 10, .inl (ka 10, 2, .inr (.inr (.inr (.inr (fun j => if j = 0 then some (ad 13) else some (ad 16))))))), (ad 11, .inl (ka 11, 4, .inl (nA (g 11)))), (ad 12, .inl (ka 12, 4, .inl (nA (g 12)))), (ad 13, .inr (1, [.int (nI (f 10)), .ref (ad 14), .ref (ad 15)])), (ad 14, .inl (ka 14, 8, .inl (nA (g 14)))), (ad 15, .inl (ka 15, 32, .inl (nA (g 15)))), (ad 16, .inr (1, [.int (nI (f 11)), .ref (ad 17), .ref (ad 18)])), (ad 17, .inl (ka 17, 8, .inl (nA (g 17)))), (ad 18, .inl (ka 18, 32, .inl (nA (g 18)))), (ad 19, .inr (3, [.ref (ad 20), .ref (ad 21), .ref (ad 22), .int (nI (f 12)), .int (nI (f 13)), .int (nI (f 14)), .int (nI (f 15)), .int (nI (f 16)), .int (nI (f 17))])), (ad 20, .inl (ka 20, L, .inr (.inl (lA (g 20))))), (ad 21, .inl (ka 21, L, .inl (nA (g 21)))), (ad 22, .inl (ka 22, mOf L, .inl (nA (g 22)))), (ad 23, .inl (ka 23, 32, .inl (nA (g 23))))] H := hP
    have hD : va_D Ar [(ad 0, .inr (4, [.ref (ad 1), .int (nI (f 0 + 16)), .ref (ad 2), .ref (ad 3), .ref (ad 6), .ref (ad 9), .ref (ad 19), .int (nI (f 1)), .ref (ad 23), .int (nI (f 2))])), (ad 1, .inl (ka 1, 200, .inl (nA (tapeC4 (tapeC4 (tapeC4 (tapeC4 (g 1) (f 0) va) (f 0 + 4) vb) (f 0 + 8) vc) (f 0 + 12) vd)))), (ad 2, .inr (2, [.int (nI (f 3)), .int (nI (f 4)), .int (nI (f 5)), .int (nI (f 6))])), (ad 3, .inr (1, [.int (nI (f 7)), .ref (ad 4), .ref (ad 5)])), (ad 4, .inl (ka 4, 8, .inl (nA (g 4)))), (ad 5, .inl (ka 5, 32, .inl (nA (g 5)))), (ad 6, .inr (1, [.int (nI (f 8)), .ref (ad 7), .ref (ad 8)])), (ad 7, .inl (ka 7, 8, .inl (nA (g 7)))), (ad 8, .inl (ka 8, 32, .inl (nA (g 8)))), (ad 9, .inr (0, [.ref (ad 10), .ref (ad 11), .ref (ad 12), .int (nI (f 9))])), (ad 10, .inl (ka 10, 2, .inr (.inr (.inr (.inr (fun j => if j = 0 then some (ad 13) else some (ad 16))))))), (ad 11, .inl (ka 11, 4, .inl (nA (g 11)))), (ad 12, .inl (ka 12, 4, .inl (nA (g 12)))), (ad 13, .inr (1, [.int (nI (f 10)), .ref (ad 14), .ref (ad 15)])), (ad 14, .inl (ka 14, 8, .inl (nA (g 14)))), (ad 15, .inl (ka 15, 32, .inl (nA (g 15)))), (ad 16, .inr (1, [.int (nI (f 11)), .ref (ad 17), .ref (ad 18)])), (ad 17, .inl (ka 17, 8, .inl (nA (g 17)))), (ad 18, .inl (ka 18, 32, .inl (nA (g 18)))), (ad 19, .inr (3, [.ref (ad 20), .ref (ad 21), .ref (ad 22), .int (nI (f 12)), .int (nI (f 13)), .int (nI (f 14)), .int (nI (f 15)), .int (nI (f 16)), .int (nI (f 17))])), (ad 20, .inl (ka 20, L, .inr (.inl (lA (g 20))))), (ad 21, .inl (ka 21, L, .inl (nA (g 21)))), (ad 22, .inl (ka 22, mOf L, .inl (nA (g 22)))), (ad 23, .inl (ka 23, 32, .inl (nA (g 23))))] := hD
    have hK : va_K D vwCl [(ka 1, .byte), (ka 4, .int), (ka 5, .int), (ka 7, .int), (ka 8, .int), (ka 10, .object "FarStore$Program"), (ka 11, .int), (ka 12, .int), (ka 14, .int), (ka 15, .int), (ka 17, .int), (ka 18, .int), (ka 20, .long), (ka 21, .int), (ka 22, .int), (ka 23, .int)] s := hK.sub [0, 1, 2, 3, 4, 5, 6, 7, 8, 9, 10, 11, 12, 13, 14, 15] rfl
    refine lv_aload_n hx hb dX4_feed_36 rfl (lv_at hl 0 rfl) ?_
    refine lv_iload hx hb dX4_feed_37 (lv_at hl 5 rfl) ?_
    refine kVv (As := [.int (nI ve)]) (rest := []) (wr := []) ⟨hx, hb, hml, hown, hts⟩ (c_X4_append l D ad ka L (upN (f) 0 (f 0 + 16)) (upA (g) 1 (tapeC4 (tapeC4 (tapeC4 (tapeC4 (g 1) (f 0) va) (f 0 + 4) vb) (f 0 + 8) vc) (f 0 + 12) vd)) H.size ve (show ve < 4294967296 from by omega) (show (f 0 + 16) + 4 ≤ 200 from by omega)) (cwV 1 hts (gV mU_95 mU_96 mU_97 mU_3 mU_98) rfl rfl rfl (by decide +kernel) ⟨Nat.le_of_ble_eq_true rfl, Nat.le_of_ble_eq_true rfl⟩) (va_recv hK hP (ci := 4) (q0 := 0) rfl rfl) hP hK hD hS hA [0, 1, 2, 3, 4, 5, 6, 7, 8, 9, 10, 11, 12, 13, 14, 15, 16, 17, 18, 19, 20, 21, 22, 23] [] [0, 1, 2, 3, 4, 5, 6, 7, 8, 9, 10, 11, 12, 13, 14, 15] [] rfl rfl rfl rfl (by decide) rfl rfl rfl hl.1 rfl (Nat.le_of_ble_eq_true rfl) dX4_feed_39 ⟨by decide, by decide⟩ (fun u H locs hw hP hD hK hS => ?_)
    subst hw
    have hP : va_P D vwCl [(ad 0, .inr (4, [.ref (ad 1), .int (nI (f 0 + 20)), .ref (ad 2), .ref (ad 3), .ref (ad 6), .ref (ad 9), .ref (ad 19), .int (nI (f 1)), .ref (ad 23), .int (nI (f 2))])), (ad 1, .inl (ka 1, 200, .inl (nA (tapeC4 (tapeC4 (tapeC4 (tapeC4 (tapeC4 (g 1) (f 0) va) (f 0 + 4) vb) (f 0 + 8) vc) (f 0 + 12) vd) (f 0 + 16) ve)))), (ad 2, .inr (2, [.int (nI (f 3)), .int (nI (f 4)), .int (nI (f 5)), .int (nI (f 6))])), (ad 3, .inr (1, [.int (nI (f 7)), .ref (ad 4), .ref (ad 5)])), (ad 4, .inl (ka 4, 8, .inl (nA (g 4)))), (ad 5, .inl (ka 5, 32, .inl (nA (g 5)))), (ad 6, .inr (1, [.int (nI (f 8)), .ref (ad 7), .ref (ad 8)])), (ad 7, .inl (ka 7, 8, .inl (nA (g 7)))), (ad 8, .inl (ka 8, 32, .inl (nA (g 8)))), (ad 9, .inr (0, [.ref (ad 10), .ref (ad 11), .ref (ad 12), .int (nI (f 9))])), (ad 10, .inl (ka 10, 2, .inr (.inr (.inr (.inr (fun j => if j = 0 then some (ad 13) else some (ad 16))))))), (ad 11, .inl (ka 11, 4, .inl (nA (g 11)))), (ad 12, .inl (ka 12, 4, .inl (nA (g 12)))), (ad 13, .inr (1, [.int (nI (f 10)), .ref (ad 14), .ref (ad 15)])), (ad 14, .inl (ka 14, 8, .inl (nA (g 14)))), (ad 15, .inl (ka 15, 32, .inl (nA (g 15)))), (ad 16, .inr (1, [.int (nI (f 11)), .ref (ad 17), .ref (ad 18)])), (ad 17, .inl (ka 17, 8, .inl (nA (g 17)))), (ad 18, .inl (ka 18, 32, .inl (nA (g 18)))), (ad 19, .inr (3, [.ref (ad 20), .ref (ad 21), .ref (ad 22), .int (nI (f 12)), .int (nI (f 13)), .int (nI (f 14)), .int (nI (f 15)), .int (nI (f 16)), .int (nI (f 17))])), (ad 20, .inl (ka 20, L, .inr (.inl (lA (g 20))))), (ad 21, .inl (ka 21, L, .inl (nA (g 21)))), (ad 22, .inl (ka 22, mOf L, .inl (nA (g 22)))), (ad 23, .inl (ka 23, 32, .inl (nA (g 23))))] H := hP
    have hD : va_D Ar [(ad 0, .inr (4, [.ref (ad 1), .int (nI (f 0 + 20)), .ref (ad 2), .ref (ad 3), .ref (ad 6), .ref (ad 9), .ref (ad 19), .int (nI (f 1)), .ref (ad 23), .int (nI (f 2))])), (ad 1, .inl (ka 1, 200, .inl (nA (tapeC4 (tapeC4 (tapeC4 (tapeC4 (tapeC4 (g 1) (f 0) va) (f 0 + 4) vb) (f 0 + 8) vc) (f 0 + 12) vd) (f 0 + 16) ve)))), (ad 2, .inr (2, [.int (nI (f 3)), .int (nI (f 4)), .int (nI (f 5)), .int (nI (f 6))])), (ad 3, .inr (1, [.int (nI (f 7)), .ref (ad 4), .ref (ad 5)])), (ad 4, .inl (ka 4, 8, .inl (nA (g 4)))), (ad 5, .inl (ka 5, 32, .inl (nA (g 5)))), (ad 6, .inr (1, [.int (nI (f 8)), .ref (ad 7), .ref (ad 8)])), (ad 7, .inl (ka 7, 8, .inl (nA (g 7)))), (ad 8, .inl (ka 8, 32, .inl (nA (g 8)))), (ad 9, .inr (0, [.ref (ad 10), .ref (ad 11), .ref (ad 12), .int (nI (f 9))])), (ad 10, .inl (ka 10, 2, .inr (.inr (.inr (.inr (fun j => if j = 0 then some (ad 13) else some (ad 16))))))), (ad 11, .inl (ka 11, 4, .inl (nA (g 11)))), (ad 12, .inl (ka 12, 4, .inl (nA (g 12)))), (ad 13, .inr (1, [.int (nI (f 10)), .ref (ad 14), .ref (ad 15)])), (ad 14, .inl (ka 14, 8, .inl (nA (g 14)))), (ad 15, .inl (ka 15, 32, .inl (nA (g 15)))), (ad 16, .inr (1, [.int (nI (f 11)), .ref (ad 17), .ref (ad 18)])), (ad 17, .inl (ka 17, 8, .inl (nA (g 17)))), (ad 18, .inl (ka 18, 32, .inl (nA (g 18)))), (ad 19, .inr (3, [.ref (ad 20), .ref (ad 21), .ref (ad 22), .int (nI (f 12)), .int (nI (f 13)), .int (nI (f 14)), .int (nI (f 15)), .int (nI (f 16)), .int (nI (f 17))])), (ad 20, .inl (ka 20, L, .inr (.inl (lA (g 20))))), (ad 21, .inl (ka 21, L, .inl (nA (g 21)))), (ad 22, .inl (ka 22, mOf L, .inl (nA (g 22)))), (ad 23, .inl (ka 23, 32, .inl (nA (g 23))))] := hD
    have hK : va_K D vwCl [(ka 1, .byte), (ka 4, .int), (ka 5, .int), (ka 7, .int), (ka 8, .int), (ka 10, .object "FarStore$Program"), (ka 11, .int), (ka 12, .int), (ka 14, .int), (ka 15, .int), (ka 17, .int), (ka 18, .int), (ka 20, .long), (ka 21, .int), (ka 22, .int), (ka 23, .int)] s := hK.sub [0, 1, 2, 3, 4, 5, 6, 7, 8, 9, 10, 11, 12, 13, 14, 15] rfl
    refine lv_aload_n hx hb dX4_feed_42 rfl (lv_at hl 0 rfl) ?_
    refine va_get (D := D) (ci := 4) (v := .int (nI (f 0 + 20))) (C := RX4) (T := TX4) (N := 10) hx hb hU iX4 hown hK hP 0 rfl rfl 1 (by decide) (hU _ mU_15) (fun _ h9 => h9) rfl dX4_feed_43 ?_
    subst hQ
    exact rwi (ad, ka, L, upN (f) 0 (f 0 + 20), upA (g) 1 (tapeC4 (tapeC4 (tapeC4 (tapeC4 (tapeC4 (g 1) (f 0) va) (f 0 + 4) vb) (f 0 + 8) vc) (f 0 + 12) vd) (f 0 + 16) ve)) hx hb hr hlocks (⟨fun _ => ⟨rfl, rfl⟩, fun h9 => absurd c10_1 h9⟩) hP hK hD hS dX4_feed_46
  · have c10_1 : ¬ ((f 0) + 20 ≤ 200) := fun h9 => c10_1 ((nI_leI (a := (f 0) + 20) (b := 200) (by omega) (by omega)).mpr h9)
    refine lv_iconst (v := nI 4294967295) hx hb dX4_feed_13 (by decide) ?_
    subst hQ
    exact rwi (ad, ka, L, f, g) hx hb hr hlocks (⟨fun h9 => absurd h9 c10_1, fun _ => ⟨rfl, rfl⟩⟩) hP hK hD hS dX4_feed_14

set_option maxHeartbeats 4000000 in
set_option maxRecDepth 100000 in
theorem c_X4_end (l : Launch) (D : va_G) (ad : Nat → Nat) (ka : Nat → ClassId) (L : Nat) (f : Nat → Nat) (g : Nat → Nat → Nat) (sz : Nat) (va : Nat) (hva9 : va < 4294967296) (h200 : f 0 ≤ 200) : Met l yX4_end (.code yX4_end cX4_end 2 (some .int) :: wsL_law) ({ frames := 0, cells := 0, slots := 0, locals := 0 }) (va_Pc [.ref (ad 0), .int (nI va)] (PW D (xW ad ka L f g) (xT ka) sz)) (va_Qi (fun (r : Int32) (u : XSt) => (va ≤ f 0 → r = nI va ∧ u = (ad, ka, L, upN f 0 va, g)) ∧ (¬ va ≤ f 0 → r = nI 4294967295 ∧ u = (ad, ka, L, f, g))) (QW D (fun u : XSt => xW u.1 u.2.1 u.2.2.1 u.2.2.2.1 u.2.2.2.2) (fun u : XSt => xT u.2.1) (va_A (xW ad ka L f g) sz)) (va_A (xW ad ka L f g) sz)) 0 0 (va_A (xW ad ka L f g) sz) := by
  refine Met.ofW (cc := cX4_end) (maxL := 2) (ret := (some .int)) (by decide) rfl ?_
  intro p e s m args below meth c s₁ B hml hv
  obtain ⟨rfl, hsz, hP, hK, hD0⟩ := hv
  have hx := B.exec
  have hb := B.bytes
  have hr := B.returns
  have hts := atoms_spec (ws := .code yX4_end cX4_end 2 (some .int) :: wsL_law) B.pre
  have hU : ∀ w ∈ wsL_law, w.before _ s = true := fun w h => hts w (List.mem_cons_of_mem _ h)
  have hown : s.vm.findClass RX4 = some m.cls := findClass_of_methodNamed B.named
  have hlocks := B.notSynchronized
  subst hsz
  have hD := hD0.self (sz := s.heap.size)
  generalize hAe : va_A (xW ad ka L f g) s.heap.size = Ar at hD ⊢
  have hA : ∀ q : Nat, s.heap.size ≤ q → Ar q := fun q h => by rw [← hAe]; exact Or.inr h
  have hS : va_S Ar s.heap s.heap [] := va_S.rf
  have hP : va_P D vwCl [(ad 0, .inr (4, [.ref (ad 1), .int (nI (f 0)), .ref (ad 2), .ref (ad 3), .ref (ad 6), .ref (ad 9), .ref (ad 19), .int (nI (f 1)), .ref (ad 23), .int (nI (f 2))])), (ad 1, .inl (ka 1, 200, .inl (nA (g 1)))), (ad 2, .inr (2, [.int (nI (f 3)), .int (nI (f 4)), .int (nI (f 5)), .int (nI (f 6))])), (ad 3, .inr (1, [.int (nI (f 7)), .ref (ad 4), .ref (ad 5)])), (ad 4, .inl (ka 4, 8, .inl (nA (g 4)))), (ad 5, .inl (ka 5, 32, .inl (nA (g 5)))), (ad 6, .inr (1, [.int (nI (f 8)), .ref (ad 7), .ref (ad 8)])), (ad 7, .inl (ka 7, 8, .inl (nA (g 7)))), (ad 8, .inl (ka 8, 32, .inl (nA (g 8)))), (ad 9, .inr (0, [.ref (ad 10), .ref (ad 11), .ref (ad 12), .int (nI (f 9))])), (ad 10, .inl (ka 10, 2, .inr (.inr (.inr (.inr (fun j => if j = 0 then some (ad 13) else some (ad 16))))))), (ad 11, .inl (ka 11, 4, .inl (nA (g 11)))), (ad 12, .inl (ka 12, 4, .inl (nA (g 12)))), (ad 13, .inr (1, [.int (nI (f 10)), .ref (ad 14), .ref (ad 15)])), (ad 14, .inl (ka 14, 8, .inl (nA (g 14)))), (ad 15, .inl (ka 15, 32, .inl (nA (g 15)))), (ad 16, .inr (1, [.int (nI (f 11)), .ref (ad 17), .ref (ad 18)])), (ad 17, .inl (ka 17, 8, .inl (nA (g 17)))), (ad 18, .inl (ka 18, 32, .inl (nA (g 18)))), (ad 19, .inr (3, [.ref (ad 20), .ref (ad 21), .ref (ad 22), .int (nI (f 12)), .int (nI (f 13)), .int (nI (f 14)), .int (nI (f 15)), .int (nI (f 16)), .int (nI (f 17))])), (ad 20, .inl (ka 20, L, .inr (.inl (lA (g 20))))), (ad 21, .inl (ka 21, L, .inl (nA (g 21)))), (ad 22, .inl (ka 22, mOf L, .inl (nA (g 22)))), (ad 23, .inl (ka 23, 32, .inl (nA (g 23))))] s.heap := hP
  have hD : va_D Ar [(ad 0, .inr (4, [.ref (ad 1), .int (nI (f 0)), .ref (ad 2), .ref (ad 3), .ref (ad 6), .ref (ad 9), .ref (ad 19), .int (nI (f 1)), .ref (ad 23), .int (nI (f 2))])), (ad 1, .inl (ka 1, 200, .inl (nA (g 1)))), (ad 2, .inr (2, [.int (nI (f 3)), .int (nI (f 4)), .int (nI (f 5)), .int (nI (f 6))])), (ad 3, .inr (1, [.int (nI (f 7)), .ref (ad 4), .ref (ad 5)])), (ad 4, .inl (ka 4, 8, .inl (nA (g 4)))), (ad 5, .inl (ka 5, 32, .inl (nA (g 5)))), (ad 6, .inr (1, [.int (nI (f 8)), .ref (ad 7), .ref (ad 8)])), (ad 7, .inl (ka 7, 8, .inl (nA (g 7)))), (ad 8, .inl (ka 8, 32, .inl (nA (g 8)))), (ad 9, .inr (0, [.ref (ad 10), .ref (ad 11), .ref (ad 12), .int (nI (f 9))])), (ad 10, .inl (ka 10, 2, .inr (.inr (.inr (.inr (fun j => if j = 0 then some (ad 13) else some (ad 16))))))), (ad 11, .inl (ka 11, 4, .inl (nA (g 11)))), (ad 12, .inl (ka 12, 4, .inl (nA (g 12)))), (ad 13, .inr (1, [.int (nI (f 10)), .ref (ad 14), .ref (ad 15)])), (ad 14, .inl (ka 14, 8, .inl (nA (g 14)))), (ad 15, .inl (ka 15, 32, .inl (nA (g 15)))), (ad 16, .inr (1, [.int (nI (f 11)), .ref (ad 17), .ref (ad 18)])), (ad 17, .inl (ka 17, 8, .inl (nA (g 17)))), (ad 18, .inl (ka 18, 32, .inl (nA (g 18)))), (ad 19, .inr (3, [.ref (ad 20), .ref (ad 21), .ref (ad 22), .int (nI (f 12)), .int (nI (f 13)), .int (nI (f 14)), .int (nI (f 15)), .int (nI (f 16)), .int (nI (f 17))])), (ad 20, .inl (ka 20, L, .inr (.inl (lA (g 20))))), (ad 21, .inl (ka 21, L, .inl (nA (g 21)))), (ad 22, .inl (ka 22, mOf L, .inl (nA (g 22)))), (ad 23, .inl (ka 23, 32, .inl (nA (g 23))))] := hD
  generalize hQ : MQ _ _ _ _ _ _ _ = Q
  have hl := lv_entry ([.ref (ad 0), .int (nI va)]) (n := 2) (Nat.le_of_ble_eq_true rfl)
  rw [lg_entry_eq]
  generalize (lg_sl ([.ref (ad 0), .int (nI va)]) ++ List.replicate (2 - (lg_sl ([.ref (ad 0), .int (nI va)])).length) Slot.unset).toArray = ls at hl ⊢
  have hl : lv_has ls 2 [(0, .ref (ad 0)), (1, .int (nI va))] := hl
  refine lv_iload_n hx hb dX4_end_0 rfl (lv_at hl 1 rfl) ?_
  refine lv_if_lt (tgt := 12) hx hb dX4_end_1 (by decide) (fun c1_1 => ?_) (fun c1_1 => ?_)
  · have c1_1 : 2147483648 ≤ va := (nI_lt0 (a := va) (by omega)).mp c1_1
    refine lv_iconst (v := nI 4294967295) hx hb dX4_end_12 (by decide) ?_
    subst hQ
    exact rwi (ad, ka, L, f, g) hx hb hr hlocks (⟨fun h9 => absurd h9 (by omega), fun _ => ⟨rfl, rfl⟩⟩) hP hK hD hS dX4_end_13
  · have c1_1 : ¬ (2147483648 ≤ va) := fun h9 => c1_1 ((nI_lt0 (a := va) (by omega)).mpr h9)
    refine lv_iload_n hx hb dX4_end_4 rfl (lv_at hl 1 rfl) ?_
    refine lv_aload_n hx hb dX4_end_5 rfl (lv_at hl 0 rfl) ?_
    refine va_get (D := D) (ci := 4) (v := .int (nI (f 0))) (C := RX4) (T := TX4) (N := 10) hx hb hU iX4 hown hK hP 0 rfl rfl 1 (by decide) (hU _ mU_15) (fun _ h9 => h9) rfl dX4_end_6 ?_
    refine lv_icmp_le (tgt := 14) hx hb dX4_end_9 (by decide) (fun c9_2 => ?_) (fun c9_2 => ?_)
    · have c9_2 : (va ≤ f 0 ∧ (2147483648 ≤ va ∨ f 0 < 2147483648)) ∨ (2147483648 ≤ va ∧ f 0 < 2147483648) := (nI_leG (a := va) (b := f 0) (by omega) (by omega)).mp c9_2
      refine lv_aload_n hx hb dX4_end_14 rfl (lv_at hl 0 rfl) ?_
      refine lv_iload_n hx hb dX4_end_15 rfl (lv_at hl 1 rfl) ?_
      refine va_put (D := D) (ci := 4) (v := .int (nI va)) (ty := .int) (C := RX4) (T := TX4) (N := 10) hx hb hU iX4 tyX4 tyX4_ok nmX4 hown hK hP hD hS 0 rfl rfl 1 (by decide) (hU _ mU_15) (fun _ h9 => h9) rfl (by decide +kernel) rfl rfl (Nat.le_of_ble_eq_true rfl) dX4_end_16 (fun H locs hP hD hS => ?_)
      have hP : va_P D vwCl [(ad 0, .inr (4, [.ref (ad 1), .int (nI va), .ref (ad 2), .ref (ad 3), .ref (ad 6), .ref (ad 9), .ref (ad 19), .int (nI (f 1)), .ref (ad 23), .int (nI (f 2))])), (ad 1, .inl (ka 1, 200, .inl (nA (g 1)))), (ad 2, .inr (2, [.int (nI (f 3)), .int (nI (f 4)), .int (nI (f 5)), .int (nI (f 6))])), (ad 3, .inr (1, [.int (nI (f 7)), .ref (ad 4), .ref (ad 5)])), (ad 4, .inl (ka 4, 8, .inl (nA (g 4)))), (ad 5, .inl (ka 5, 32, .inl (nA (g 5)))), (ad 6, .inr (1, [.int (nI (f 8)), .ref (ad 7), .ref (ad 8)])), (ad 7, .inl (ka 7, 8, .inl (nA (g 7)))), (ad 8, .inl (ka 8, 32, .inl (nA (g 8)))), (ad 9, .inr (0, [.ref (ad 10), .ref (ad 11), .ref (ad 12), .int (nI (f 9))])), (ad 10, .inl (ka 10, 2, .inr (.inr (.inr (.inr (fun j => if j = 0 then some (ad 13) else some (ad 16))))))), (ad 11, .inl (ka 11, 4, .inl (nA (g 11)))), (ad 12, .inl (ka 12, 4, .inl (nA (g 12)))), (ad 13, .inr (1, [.int (nI (f 10)), .ref (ad 14), .ref (ad 15)])), (ad 14, .inl (ka 14, 8, .inl (nA (g 14)))), (ad 15, .inl (ka 15, 32, .inl (nA (g 15)))), (ad 16, .inr (1, [.int (nI (f 11)), .ref (ad 17), .ref (ad 18)])), (ad 17, .inl (ka 17, 8, .inl (nA (g 17)))), (ad 18, .inl (ka 18, 32, .inl (nA (g 18)))), (ad 19, .inr (3, [.ref (ad 20), .ref (ad 21), .ref (ad 22), .int (nI (f 12)), .int (nI (f 13)), .int (nI (f 14)), .int (nI (f 15)), .int (nI (f 16)), .int (nI (f 17))])), (ad 20, .inl (ka 20, L, .inr (.inl (lA (g 20))))), (ad 21, .inl (ka 21, L, .inl (nA (g 21)))), (ad 22, .inl (ka 22, mOf L, .inl (nA (g 22)))), (ad 23, .inl (ka 23, 32, .inl (nA (g 23))))] H := hP
      have hD : va_D Ar [(ad 0, .inr (4, [.ref (ad 1), .int (nI va), .ref (ad 2), .ref (ad 3), .ref (ad 6), .ref (ad 9), .ref (ad 19), .int (nI (f 1)), .ref (ad 23), .int (nI (f 2))])), (ad 1, .inl (ka 1, 200, .inl (nA (g 1)))), (ad 2, .inr (2, [.int (nI (f 3)), .int (nI (f 4)), .int (nI (f 5)), .int (nI (f 6))])), (ad 3, .inr (1, [.int (nI (f 7)), .ref (ad 4), .ref (ad 5)])), (ad 4, .inl (ka 4, 8, .inl (nA (g 4)))), (ad 5, .inl (ka 5, 32, .inl (nA (g 5)))), (ad 6, .inr (1, [.int (nI (f 8)), .ref (ad 7), .ref (ad 8)])), (ad 7, .inl (ka 7, 8, .inl (nA (g 7)))), (ad 8, .inl (ka 8, 32, .inl (nA (g 8)))), (ad 9, .inr (0, [.ref (ad 10), .ref (ad 11), .ref (ad 12), .int (nI (f 9))])), (ad 10, .inl (ka 10, 2, .inr (.inr (.inr (.inr (fun j => if j = 0 then some (ad 13) else some (ad 16))))))), (ad 11, .inl (ka 11, 4, .inl (nA (g 11)))), (ad 12, .inl (ka 12, 4, .inl (nA (g 12)))), (ad 13, .inr (1, [.int (nI (f 10)), .ref (ad 14), .ref (ad 15)])), (ad 14, .inl (ka 14, 8, .inl (nA (g 14)))), (ad 15, .inl (ka 15, 32, .inl (nA (g 15)))), (ad 16, .inr (1, [.int (nI (f 11)), .ref (ad 17), .ref (ad 18)])), (ad 17, .inl (ka 17, 8, .inl (nA (g 17)))), (ad 18, .inl (ka 18, 32, .inl (nA (g 18)))), (ad 19, .inr (3, [.ref (ad 20), .ref (ad 21), .ref (ad 22), .int (nI (f 12)), .int (nI (f 13)), .int (nI (f 14)), .int (nI (f 15)), .int (nI (f 16)), .int (nI (f 17))])), (ad 20, .inl (ka 20, L, .inr (.inl (lA (g 20))))), (ad 21, .inl (ka 21, L, .inl (nA (g 21)))), (ad 22, .inl (ka 22, mOf L, .inl (nA (g 22)))), (ad 23, .inl (ka 23, 32, .inl (nA (g 23))))] := hD
      refine lv_iload_n hx hb dX4_end_19 rfl (lv_at hl 1 rfl) ?_
      subst hQ
      exact rwi (ad, ka, L, upN (f) 0 va, g) hx hb hr hlocks (⟨fun _ => ⟨rfl, rfl⟩, fun h9 => absurd (by omega) h9⟩) hP hK hD hS dX4_end_20
    · have c9_2 : ¬ ((va ≤ f 0 ∧ (2147483648 ≤ va ∨ f 0 < 2147483648)) ∨ (2147483648 ≤ va ∧ f 0 < 2147483648)) := fun h9 => c9_2 ((nI_leG (a := va) (b := f 0) (by omega) (by omega)).mpr h9)
      refine lv_iconst (v := nI 4294967295) hx hb dX4_end_12 (by decide) ?_
      subst hQ
      exact rwi (ad, ka, L, f, g) hx hb hr hlocks (⟨fun h9 => absurd h9 (by omega), fun _ => ⟨rfl, rfl⟩⟩) hP hK hD hS dX4_end_13

set_option maxHeartbeats 4000000 in
set_option maxRecDepth 100000 in
theorem c_X4_fault (l : Launch) (D : va_G) (ad : Nat → Nat) (ka : Nat → ClassId) (L : Nat) (f : Nat → Nat) (g : Nat → Nat → Nat) (wt : Nat) (hwt9 : wt < 4294967296) : Met l yX4_fault (.code yX4_fault cX4_fault 2 (some .int) :: wsL_law) ({ frames := 0, cells := 0, slots := 0, locals := 0 }) (va_Pc [.ref (ad 0), .int (nI wt)] (PR D (xW ad ka L f g) (xT ka))) (QrI (nI (if wt = 0 then f 3 else if wt = 1 then f 4 else 4294967295))) 0 0 (fun _ => False) := by
  refine Met.ofW (cc := cX4_fault) (maxL := 2) (ret := (some .int)) (by decide) rfl ?_
  intro p e s m args below meth c s₁ B hml hv
  obtain ⟨rfl, hP, hK⟩ := hv
  have hx := B.exec
  have hb := B.bytes
  have hr := B.returns
  have hts := atoms_spec (ws := .code yX4_fault cX4_fault 2 (some .int) :: wsL_law) B.pre
  have hU : ∀ w ∈ wsL_law, w.before _ s = true := fun w h => hts w (List.mem_cons_of_mem _ h)
  have hown : s.vm.findClass RX4 = some m.cls := findClass_of_methodNamed B.named
  have hlocks := B.notSynchronized
  generalize hQ : MQ _ _ _ _ _ _ _ = Q
  have hl := lv_entry ([.ref (ad 0), .int (nI wt)]) (n := 2) (Nat.le_of_ble_eq_true rfl)
  rw [lg_entry_eq]
  generalize (lg_sl ([.ref (ad 0), .int (nI wt)]) ++ List.replicate (2 - (lg_sl ([.ref (ad 0), .int (nI wt)])).length) Slot.unset).toArray = ls at hl ⊢
  have hl : lv_has ls 2 [(0, .ref (ad 0)), (1, .int (nI wt))] := hl
  refine lv_iload_n hx hb dX4_fault_0 rfl (lv_at hl 1 rfl) ?_
  refine lv_if_ne (tgt := 12) hx hb dX4_fault_1 (by decide) (fun c1_1 => ?_) (fun c1_1 => ?_)
  · have c1_1 : ¬ (wt = 0) := fun h9 => c1_1 ((nI_eqG (a := wt) (b := 0) (by omega) (by omega)).mpr h9)
    refine lv_iload_n hx hb dX4_fault_12 rfl (lv_at hl 1 rfl) ?_
    refine lv_iconst (v := nI 1) hx hb dX4_fault_13 (by decide) ?_
    refine lv_icmp_ne (tgt := 27) hx hb dX4_fault_14 (by decide) (fun c14_2 => ?_) (fun c14_2 => ?_)
    · have c14_2 : ¬ (wt = 1) := fun h9 => c14_2 ((nI_eqG (a := wt) (b := 1) (by omega) (by omega)).mpr h9)
      refine lv_iconst (v := nI 4294967295) hx hb dX4_fault_27 (by decide) ?_
      subst hQ
      exact rti hx hb hr hlocks rfl (by (try first | rw [if_pos c1_1] | rw [if_neg c1_1]); (try first | rw [if_pos c14_2] | rw [if_neg c14_2])) dX4_fault_28
    · have c14_2 : wt = 1 := (nI_eqG (a := wt) (b := 1) (by omega) (by omega)).mp c14_2
      refine lv_aload_n hx hb dX4_fault_17 rfl (lv_at hl 0 rfl) ?_
      refine va_get (D := D) (ci := 4) (v := .ref (ad 2)) (C := RX4) (T := TX4) (N := 10) hx hb hU iX4 hown hK hP 0 rfl rfl 2 (by decide) (hU _ mU_19) (fun _ h9 => h9) rfl dX4_fault_18 ?_
      refine va_get (D := D) (ci := 2) (v := .int (nI (f 4))) (C := RX2) (T := TX2) (N := 4) hx hb hU iX2 hown hK hP 2 rfl rfl 1 (by decide) (hU _ mU_296) (fun _ h9 => h9) rfl dX4_fault_21 ?_
      refine lv_goto (tgt := 28) hx hb dX4_fault_24 (by decide) ?_
      subst hQ
      exact rti hx hb hr hlocks rfl (by (try first | rw [if_pos c1_1] | rw [if_neg c1_1]); (try first | rw [if_pos c14_2] | rw [if_neg c14_2])) dX4_fault_28
  · have c1_1 : wt = 0 := (nI_eqG (a := wt) (b := 0) (by omega) (by omega)).mp c1_1
    refine lv_aload_n hx hb dX4_fault_4 rfl (lv_at hl 0 rfl) ?_
    refine va_get (D := D) (ci := 4) (v := .ref (ad 2)) (C := RX4) (T := TX4) (N := 10) hx hb hU iX4 hown hK hP 0 rfl rfl 2 (by decide) (hU _ mU_19) (fun _ h9 => h9) rfl dX4_fault_5 ?_
    refine va_get (D := D) (ci := 2) (v := .int (nI (f 3))) (C := RX2) (T := TX2) (N := 4) hx hb hU iX2 hown hK hP 2 rfl rfl 0 (by decide) (hU _ mU_123) (fun _ h9 => h9) rfl dX4_fault_8 ?_
    subst hQ
    exact rti hx hb hr hlocks rfl (by (try first | rw [if_pos c1_1] | rw [if_neg c1_1])) dX4_fault_11

set_option maxHeartbeats 4000000 in
set_option maxRecDepth 100000 in
theorem c_X4_word (l : Launch) (D : va_G) (ad : Nat → Nat) (ka : Nat → ClassId) (L : Nat) (f : Nat → Nat) (g : Nat → Nat → Nat) (sz : Nat) (w : Nat) (v : Nat) (q : Nat) (hw9 : w < 4294967296) (hv9 : v < 4294967296) (hq9 : q < 4294967296) : Met l yX4_word (.code yX4_word cX4_word 4 (some .boolean) :: wsL_law) ({ frames := 0, cells := 0, slots := 0, locals := 0 }) (va_Pc [.ref (ad 0), .int (nI w), .int (nI v), .int (nI q)] (PW D (xW ad ka L f g) (xT ka) sz)) (va_Qi (fun (r : Int32) (u : XSt) => (w ≤ 3 ∧ v ≤ 3 ∧ q ≤ 7 → r = nI 1 ∧ u = (ad, ka, L, upN f 1 0, upA (upA g 11 (upN (g 11) w v)) 12 (upN (g 12) w q))) ∧ (¬ (w ≤ 3 ∧ v ≤ 3 ∧ q ≤ 7) → r = nI 0 ∧ u = (ad, ka, L, f, g))) (QW D (fun u : XSt => xW u.1 u.2.1 u.2.2.1 u.2.2.2.1 u.2.2.2.2) (fun u : XSt => xT u.2.1) (va_A (xW ad ka L f g) sz)) (va_A (xW ad ka L f g) sz)) 0 0 (va_A (xW ad ka L f g) sz) := by
  refine Met.ofW (cc := cX4_word) (maxL := 4) (ret := (some .boolean)) (by decide) rfl ?_
  intro p e s m args below meth c s₁ B hml hv
  obtain ⟨rfl, hsz, hP, hK, hD0⟩ := hv
  have hx := B.exec
  have hb := B.bytes
  have hr := B.returns
  have hts := atoms_spec (ws := .code yX4_word cX4_word 4 (some .boolean) :: wsL_law) B.pre
  have hU : ∀ w ∈ wsL_law, w.before _ s = true := fun w h => hts w (List.mem_cons_of_mem _ h)
  have hown : s.vm.findClass RX4 = some m.cls := findClass_of_methodNamed B.named
  have hlocks := B.notSynchronized
  subst hsz
  have hD := hD0.self (sz := s.heap.size)
  generalize hAe : va_A (xW ad ka L f g) s.heap.size = Ar at hD ⊢
  have hA : ∀ q : Nat, s.heap.size ≤ q → Ar q := fun q h => by rw [← hAe]; exact Or.inr h
  have hS : va_S Ar s.heap s.heap [] := va_S.rf
  have hP : va_P D vwCl [(ad 0, .inr (4, [.ref (ad 1), .int (nI (f 0)), .ref (ad 2), .ref (ad 3), .ref (ad 6), .ref (ad 9), .ref (ad 19), .int (nI (f 1)), .ref (ad 23), .int (nI (f 2))])), (ad 1, .inl (ka 1, 200, .inl (nA (g 1)))), (ad 2, .inr (2, [.int (nI (f 3)), .int (nI (f 4)), .int (nI (f 5)), .int (nI (f 6))])), (ad 3, .inr (1, [.int (nI (f 7)), .ref (ad 4), .ref (ad 5)])), (ad 4, .inl (ka 4, 8, .inl (nA (g 4)))), (ad 5, .inl (ka 5, 32, .inl (nA (g 5)))), (ad 6, .inr (1, [.int (nI (f 8)), .ref (ad 7), .ref (ad 8)])), (ad 7, .inl (ka 7, 8, .inl (nA (g 7)))), (ad 8, .inl (ka 8, 32, .inl (nA (g 8)))), (ad 9, .inr (0, [.ref (ad 10), .ref (ad 11), .ref (ad 12), .int (nI (f 9))])), (ad 10, .inl (ka 10, 2, .inr (.inr (.inr (.inr (fun j => if j = 0 then some (ad 13) else some (ad 16))))))), (ad 11, .inl (ka 11, 4, .inl (nA (g 11)))), (ad 12, .inl (ka 12, 4, .inl (nA (g 12)))), (ad 13, .inr (1, [.int (nI (f 10)), .ref (ad 14), .ref (ad 15)])), (ad 14, .inl (ka 14, 8, .inl (nA (g 14)))), (ad 15, .inl (ka 15, 32, .inl (nA (g 15)))), (ad 16, .inr (1, [.int (nI (f 11)), .ref (ad 17), .ref (ad 18)])), (ad 17, .inl (ka 17, 8, .inl (nA (g 17)))), (ad 18, .inl (ka 18, 32, .inl (nA (g 18)))), (ad 19, .inr (3, [.ref (ad 20), .ref (ad 21), .ref (ad 22), .int (nI (f 12)), .int (nI (f 13)), .int (nI (f 14)), .int (nI (f 15)), .int (nI (f 16)), .int (nI (f 17))])), (ad 20, .inl (ka 20, L, .inr (.inl (lA (g 20))))), (ad 21, .inl (ka 21, L, .inl (nA (g 21)))), (ad 22, .inl (ka 22, mOf L, .inl (nA (g 22)))), (ad 23, .inl (ka 23, 32, .inl (nA (g 23))))] s.heap := hP
  have hD : va_D Ar [(ad 0, .inr (4, [.ref (ad 1), .int (nI (f 0)), .ref (ad 2), .ref (ad 3), .ref (ad 6), .ref (ad 9), .ref (ad 19), .int (nI (f 1)), .ref (ad 23), .int (nI (f 2))])), (ad 1, .inl (ka 1, 200, .inl (nA (g 1)))), (ad 2, .inr (2, [.int (nI (f 3)), .int (nI (f 4)), .int (nI (f 5)), .int (nI (f 6))])), (ad 3, .inr (1, [.int (nI (f 7)), .ref (ad 4), .ref (ad 5)])), (ad 4, .inl (ka 4, 8, .inl (nA (g 4)))), (ad 5, .inl (ka 5, 32, .inl (nA (g 5)))), (ad 6, .inr (1, [.int (nI (f 8)), .ref (ad 7), .ref (ad 8)])), (ad 7, .inl (ka 7, 8, .inl (nA (g 7)))), (ad 8, .inl (ka 8, 32, .inl (nA (g 8)))), (ad 9, .inr (0, [.ref (ad 10), .ref (ad 11), .ref (ad 12), .int (nI (f 9))])), (ad 10, .inl (ka 10, 2, .inr (.inr (.inr (.inr (fun j => if j = 0 then some (ad 13) else some (ad 16))))))), (ad 11, .inl (ka 11, 4, .inl (nA (g 11)))), (ad 12, .inl (ka 12, 4, .inl (nA (g 12)))), (ad 13, .inr (1, [.int (nI (f 10)), .ref (ad 14), .ref (ad 15)])), (ad 14, .inl (ka 14, 8, .inl (nA (g 14)))), (ad 15, .inl (ka 15, 32, .inl (nA (g 15)))), (ad 16, .inr (1, [.int (nI (f 11)), .ref (ad 17), .ref (ad 18)])), (ad 17, .inl (ka 17, 8, .inl (nA (g 17)))), (ad 18, .inl (ka 18, 32, .inl (nA (g 18)))), (ad 19, .inr (3, [.ref (ad 20), .ref (ad 21), .ref (ad 22), .int (nI (f 12)), .int (nI (f 13)), .int (nI (f 14)), .int (nI (f 15)), .int (nI (f 16)), .int (nI (f 17))])), (ad 20, .inl (ka 20, L, .inr (.inl (lA (g 20))))), (ad 21, .inl (ka 21, L, .inl (nA (g 21)))), (ad 22, .inl (ka 22, mOf L, .inl (nA (g 22)))), (ad 23, .inl (ka 23, 32, .inl (nA (g 23))))] := hD
  generalize hQ : MQ _ _ _ _ _ _ _ = Q
  have hl := lv_entry ([.ref (ad 0), .int (nI w), .int (nI v), .int (nI q)]) (n := 4) (Nat.le_of_ble_eq_true rfl)
  rw [lg_entry_eq]
  generalize (lg_sl ([.ref (ad 0), .int (nI w), .int (nI v), .int (nI q)]) ++ List.replicate (4 - (lg_sl ([.ref (ad 0), .int (nI w), .int (nI v), .int (nI q)])).length) Slot.unset).toArray = ls at hl ⊢
  have hl : lv_has ls 4 [(0, .ref (ad 0)), (1, .int (nI w)), (2, .int (nI v)), (3, .int (nI q))] := hl
  refine lv_iload_n hx hb dX4_word_0 rfl (lv_at hl 1 rfl) ?_
  refine lv_if_lt (tgt := 28) hx hb dX4_word_1 (by decide) (fun c1_1 => ?_) (fun c1_1 => ?_)
  · have c1_1 : (w < 0 ∧ (2147483648 ≤ w ∨ 0 < 2147483648)) ∨ (2147483648 ≤ w ∧ 0 < 2147483648) := (nI_ltG (a := w) (b := 0) (by omega) (by omega)).mp c1_1
    refine lv_iconst (v := nI 0) hx hb dX4_word_28 (by decide) ?_
    subst hQ
    exact rwz (ad, ka, L, f, g) hx hb hr hlocks rfl (⟨fun h9 => absurd h9 (by omega), fun _ => ⟨rfl, rfl⟩⟩) hP hK hD hS dX4_word_29
  · have c1_1 : ¬ ((w < 0 ∧ (2147483648 ≤ w ∨ 0 < 2147483648)) ∨ (2147483648 ≤ w ∧ 0 < 2147483648)) := fun h9 => c1_1 ((nI_ltG (a := w) (b := 0) (by omega) (by omega)).mpr h9)
    refine lv_iload_n hx hb dX4_word_4 rfl (lv_at hl 1 rfl) ?_
    refine lv_iconst (v := nI 4) hx hb dX4_word_5 (by decide) ?_
    refine lv_icmp_ge (tgt := 28) hx hb dX4_word_6 (by decide) (fun c6_2 => ?_) (fun c6_2 => ?_)
    · have c6_2 : (4 ≤ w ∧ (2147483648 ≤ 4 ∨ w < 2147483648)) ∨ (2147483648 ≤ 4 ∧ w < 2147483648) := (nI_leG (a := 4) (b := w) (by omega) (by omega)).mp c6_2
      refine lv_iconst (v := nI 0) hx hb dX4_word_28 (by decide) ?_
      subst hQ
      exact rwz (ad, ka, L, f, g) hx hb hr hlocks rfl (⟨fun h9 => absurd h9 (by omega), fun _ => ⟨rfl, rfl⟩⟩) hP hK hD hS dX4_word_29
    · have c6_2 : ¬ ((4 ≤ w ∧ (2147483648 ≤ 4 ∨ w < 2147483648)) ∨ (2147483648 ≤ 4 ∧ w < 2147483648)) := fun h9 => c6_2 ((nI_leG (a := 4) (b := w) (by omega) (by omega)).mpr h9)
      refine lv_iload_n hx hb dX4_word_9 rfl (lv_at hl 2 rfl) ?_
      refine lv_if_lt (tgt := 28) hx hb dX4_word_10 (by decide) (fun c10_3 => ?_) (fun c10_3 => ?_)
      · have c10_3 : (v < 0 ∧ (2147483648 ≤ v ∨ 0 < 2147483648)) ∨ (2147483648 ≤ v ∧ 0 < 2147483648) := (nI_ltG (a := v) (b := 0) (by omega) (by omega)).mp c10_3
        refine lv_iconst (v := nI 0) hx hb dX4_word_28 (by decide) ?_
        subst hQ
        exact rwz (ad, ka, L, f, g) hx hb hr hlocks rfl (⟨fun h9 => absurd h9 (by omega), fun _ => ⟨rfl, rfl⟩⟩) hP hK hD hS dX4_word_29
      · have c10_3 : ¬ ((v < 0 ∧ (2147483648 ≤ v ∨ 0 < 2147483648)) ∨ (2147483648 ≤ v ∧ 0 < 2147483648)) := fun h9 => c10_3 ((nI_ltG (a := v) (b := 0) (by omega) (by omega)).mpr h9)
        refine lv_iload_n hx hb dX4_word_13 rfl (lv_at hl 2 rfl) ?_
        refine lv_iconst (v := nI 4) hx hb dX4_word_14 (by decide) ?_
        refine lv_icmp_ge (tgt := 28) hx hb dX4_word_15 (by decide) (fun c15_4 => ?_) (fun c15_4 => ?_)
        · have c15_4 : (4 ≤ v ∧ (2147483648 ≤ 4 ∨ v < 2147483648)) ∨ (2147483648 ≤ 4 ∧ v < 2147483648) := (nI_leG (a := 4) (b := v) (by omega) (by omega)).mp c15_4
          refine lv_iconst (v := nI 0) hx hb dX4_word_28 (by decide) ?_
          subst hQ
          exact rwz (ad, ka, L, f, g) hx hb hr hlocks rfl (⟨fun h9 => absurd h9 (by omega), fun _ => ⟨rfl, rfl⟩⟩) hP hK hD hS dX4_word_29
        · have c15_4 : ¬ ((4 ≤ v ∧ (2147483648 ≤ 4 ∨ v < 2147483648)) ∨ (2147483648 ≤ 4 ∧ v < 2147483648)) := fun h9 => c15_4 ((nI_leG (a := 4) (b := v) (by omega) (by omega)).mpr h9)
          refine lv_iload_n hx hb dX4_word_18 rfl (lv_at hl 3 rfl) ?_
          refine lv_if_lt (tgt := 28) hx hb dX4_word_19 (by decide) (fun c19_5 => ?_) (fun c19_5 => ?_)
          · have c19_5 : (q < 0 ∧ (2147483648 ≤ q ∨ 0 < 2147483648)) ∨ (2147483648 ≤ q ∧ 0 < 2147483648) := (nI_ltG (a := q) (b := 0) (by omega) (by omega)).mp c19_5
            refine lv_iconst (v := nI 0) hx hb dX4_word_28 (by decide) ?_
            subst hQ
            exact rwz (ad, ka, L, f, g) hx hb hr hlocks rfl (⟨fun h9 => absurd h9 (by omega), fun _ => ⟨rfl, rfl⟩⟩) hP hK hD hS dX4_word_29
          · have c19_5 : ¬ ((q < 0 ∧ (2147483648 ≤ q ∨ 0 < 2147483648)) ∨ (2147483648 ≤ q ∧ 0 < 2147483648)) := fun h9 => c19_5 ((nI_ltG (a := q) (b := 0) (by omega) (by omega)).mpr h9)
            refine lv_iload_n hx hb dX4_word_22 rfl (lv_at hl 3 rfl) ?_
            refine lv_bipush (v := nI 7) hx hb dX4_word_23 (by decide) ?_
            refine lv_icmp_le (tgt := 30) hx hb dX4_word_25 (by decide) (fun c25_6 => ?_) (fun c25_6 => ?_)
            · have c25_6 : (q ≤ 7 ∧ (2147483648 ≤ q ∨ 7 < 2147483648)) ∨ (2147483648 ≤ q ∧ 7 < 2147483648) := (nI_leG (a := q) (b := 7) (by omega) (by omega)).mp c25_6
              refine lv_aload_n hx hb dX4_word_30 rfl (lv_at hl 0 rfl) ?_
              refine va_get (D := D) (ci := 4) (v := .ref (ad 9)) (C := RX4) (T := TX4) (N := 10) hx hb hU iX4 hown hK hP 0 rfl rfl 5 (by decide) (hU _ mU_28) (fun _ h9 => h9) rfl dX4_word_31 ?_
              refine va_get (D := D) (ci := 0) (v := .ref (ad 11)) (C := RX0) (T := TX0) (N := 4) hx hb hU iX0 hown hK hP 9 rfl rfl 1 (by decide) (hU _ mU_305) (fun _ h9 => h9) rfl dX4_word_34 ?_
              refine lv_iload_n hx hb dX4_word_37 rfl (lv_at hl 1 rfl) ?_
              refine lv_iload_n hx hb dX4_word_38 rfl (lv_at hl 2 rfl) ?_
              refine n_iast hx hb hK hP hD hS 11 6 rfl rfl (i := w) (v := v) (by omega) (by decide) dX4_word_39 (fun H locs hP hD hS => ?_)
              have hP : va_P D vwCl [(ad 0, .inr (4, [.ref (ad 1), .int (nI (f 0)), .ref (ad 2), .ref (ad 3), .ref (ad 6), .ref (ad 9), .ref (ad 19), .int (nI (f 1)), .ref (ad 23), .int (nI (f 2))])), (ad 1, .inl (ka 1, 200, .inl (nA (g 1)))), (ad 2, .inr (2, [.int (nI (f 3)), .int (nI (f 4)), .int (nI (f 5)), .int (nI (f 6))])), (ad 3, .inr (1, [.int (nI (f 7)), .ref (ad 4), .ref (ad 5)])), (ad 4, .inl (ka 4, 8, .inl (nA (g 4)))), (ad 5, .inl (ka 5, 32, .inl (nA (g 5)))), (ad 6, .inr (1, [.int (nI (f 8)), .ref (ad 7), .ref (ad 8)])), (ad 7, .inl (ka 7, 8, .inl (nA (g 7)))), (ad 8, .inl (ka 8, 32, .inl (nA (g 8)))), (ad 9, .inr (0, [.ref (ad 10), .ref (ad 11), .ref (ad 12), .int (nI (f 9))])), (ad 10, .inl (ka 10, 2, .inr (.inr (.inr (.inr (fun j => if j = 0 then some (ad 13) else some (ad 16))))))), (ad 11, .inl (ka 11, 4, .inl (nA (upN (g 11) w v)))), (ad 12, .inl (ka 12, 4, .inl (nA (g 12)))), (ad 13, .inr (1, [.int (nI (f 10)), .ref (ad 14), .ref (ad 15)])), (ad 14, .inl (ka 14, 8, .inl (nA (g 14)))), (ad 15, .inl (ka 15, 32, .inl (nA (g 15)))), (ad 16, .inr (1, [.int (nI (f 11)), .ref (ad 17), .ref (ad 18)])), (ad 17, .inl (ka 17, 8, .inl (nA (g 17)))), (ad 18, .inl (ka 18, 32, .inl (nA (g 18)))), (ad 19, .inr (3, [.ref (ad 20), .ref (ad 21), .ref (ad 22), .int (nI (f 12)), .int (nI (f 13)), .int (nI (f 14)), .int (nI (f 15)), .int (nI (f 16)), .int (nI (f 17))])), (ad 20, .inl (ka 20, L, .inr (.inl (lA (g 20))))), (ad 21, .inl (ka 21, L, .inl (nA (g 21)))), (ad 22, .inl (ka 22, mOf L, .inl (nA (g 22)))), (ad 23, .inl (ka 23, 32, .inl (nA (g 23))))] H := hP
              have hD : va_D Ar [(ad 0, .inr (4, [.ref (ad 1), .int (nI (f 0)), .ref (ad 2), .ref (ad 3), .ref (ad 6), .ref (ad 9), .ref (ad 19), .int (nI (f 1)), .ref (ad 23), .int (nI (f 2))])), (ad 1, .inl (ka 1, 200, .inl (nA (g 1)))), (ad 2, .inr (2, [.int (nI (f 3)), .int (nI (f 4)), .int (nI (f 5)), .int (nI (f 6))])), (ad 3, .inr (1, [.int (nI (f 7)), .ref (ad 4), .ref (ad 5)])), (ad 4, .inl (ka 4, 8, .inl (nA (g 4)))), (ad 5, .inl (ka 5, 32, .inl (nA (g 5)))), (ad 6, .inr (1, [.int (nI (f 8)), .ref (ad 7), .ref (ad 8)])), (ad 7, .inl (ka 7, 8, .inl (nA (g 7)))), (ad 8, .inl (ka 8, 32, .inl (nA (g 8)))), (ad 9, .inr (0, [.ref (ad 10), .ref (ad 11), .ref (ad 12), .int (nI (f 9))])), (ad 10, .inl (ka 10, 2, .inr (.inr (.inr (.inr (fun j => if j = 0 then some (ad 13) else some (ad 16))))))), (ad 11, .inl (ka 11, 4, .inl (nA (upN (g 11) w v)))), (ad 12, .inl (ka 12, 4, .inl (nA (g 12)))), (ad 13, .inr (1, [.int (nI (f 10)), .ref (ad 14), .ref (ad 15)])), (ad 14, .inl (ka 14, 8, .inl (nA (g 14)))), (ad 15, .inl (ka 15, 32, .inl (nA (g 15)))), (ad 16, .inr (1, [.int (nI (f 11)), .ref (ad 17), .ref (ad 18)])), (ad 17, .inl (ka 17, 8, .inl (nA (g 17)))), (ad 18, .inl (ka 18, 32, .inl (nA (g 18)))), (ad 19, .inr (3, [.ref (ad 20), .ref (ad 21), .ref (ad 22), .int (nI (f 12)), .int (nI (f 13)), .int (nI (f 14)), .int (nI (f 15)), .int (nI (f 16)), .int (nI (f 17))])), (ad 20, .inl (ka 20, L, .inr (.inl (lA (g 20))))), (ad 21, .inl (ka 21, L, .inl (nA (g 21)))), (ad 22, .inl (ka 22, mOf L, .inl (nA (g 22)))), (ad 23, .inl (ka 23, 32, .inl (nA (g 23))))] := hD
              refine lv_aload_n hx hb dX4_word_40 rfl (lv_at hl 0 rfl) ?_
              refine va_get (D := D) (ci := 4) (v := .ref (ad 9)) (C := RX4) (T := TX4) (N := 10) hx hb hU iX4 hown hK hP 0 rfl rfl 5 (by decide) (hU _ mU_28) (fun _ h9 => h9) rfl dX4_word_41 ?_
              refine va_get (D := D) (ci := 0) (v := .ref (ad 12)) (C := RX0) (T := TX0) (N := 4) hx hb hU iX0 hown hK hP 9 rfl rfl 2 (by decide) (hU _ mU_306) (fun _ h9 => h9) rfl dX4_word_44 ?_
              refine lv_iload_n hx hb dX4_word_47 rfl (lv_at hl 1 rfl) ?_
              refine lv_iload_n hx hb dX4_word_48 rfl (lv_at hl 3 rfl) ?_
              refine n_iast hx hb hK hP hD hS 12 7 rfl rfl (i := w) (v := q) (by omega) (by decide) dX4_word_49 (fun H locs hP hD hS => ?_)
              have hP : va_P D vwCl [(ad 0, .inr (4, [.ref (ad 1), .int (nI (f 0)), .ref (ad 2), .ref (ad 3), .ref (ad 6), .ref (ad 9), .ref (ad 19), .int (nI (f 1)), .ref (ad 23), .int (nI (f 2))])), (ad 1, .inl (ka 1, 200, .inl (nA (g 1)))), (ad 2, .inr (2, [.int (nI (f 3)), .int (nI (f 4)), .int (nI (f 5)), .int (nI (f 6))])), (ad 3, .inr (1, [.int (nI (f 7)), .ref (ad 4), .ref (ad 5)])), (ad 4, .inl (ka 4, 8, .inl (nA (g 4)))), (ad 5, .inl (ka 5, 32, .inl (nA (g 5)))), (ad 6, .inr (1, [.int (nI (f 8)), .ref (ad 7), .ref (ad 8)])), (ad 7, .inl (ka 7, 8, .inl (nA (g 7)))), (ad 8, .inl (ka 8, 32, .inl (nA (g 8)))), (ad 9, .inr (0, [.ref (ad 10), .ref (ad 11), .ref (ad 12), .int (nI (f 9))])), (ad 10, .inl (ka 10, 2, .inr (.inr (.inr (.inr (fun j => if j = 0 then some (ad 13) else some (ad 16))))))), (ad 11, .inl (ka 11, 4, .inl (nA (upN (g 11) w v)))), (ad 12, .inl (ka 12, 4, .inl (nA (upN (g 12) w q)))), (ad 13, .inr (1, [.int (nI (f 10)), .ref (ad 14), .ref (ad 15)])), (ad 14, .inl (ka 14, 8, .inl (nA (g 14)))), (ad 15, .inl (ka 15, 32, .inl (nA (g 15)))), (ad 16, .inr (1, [.int (nI (f 11)), .ref (ad 17), .ref (ad 18)])), (ad 17, .inl (ka 17, 8, .inl (nA (g 17)))), (ad 18, .inl (ka 18, 32, .inl (nA (g 18)))), (ad 19, .inr (3, [.ref (ad 20), .ref (ad 21), .ref (ad 22), .int (nI (f 12)), .int (nI (f 13)), .int (nI (f 14)), .int (nI (f 15)), .int (nI (f 16)), .int (nI (f 17))])), (ad 20, .inl (ka 20, L, .inr (.inl (lA (g 20))))), (ad 21, .inl (ka 21, L, .inl (nA (g 21)))), (ad 22, .inl (ka 22, mOf L, .inl (nA (g 22)))), (ad 23, .inl (ka 23, 32, .inl (nA (g 23))))] H := hP
              have hD : va_D Ar [(ad 0, .inr (4, [.ref (ad 1), .int (nI (f 0)), .ref (ad 2), .ref (ad 3), .ref (ad 6), .ref (ad 9), .ref (ad 19), .int (nI (f 1)), .ref (ad 23), .int (nI (f 2))])), (ad 1, .inl (ka 1, 200, .inl (nA (g 1)))), (ad 2, .inr (2, [.int (nI (f 3)), .int (nI (f 4)), .int (nI (f 5)), .int (nI (f 6))])), (ad 3, .inr (1, [.int (nI (f 7)), .ref (ad 4), .ref (ad 5)])), (ad 4, .inl (ka 4, 8, .inl (nA (g 4)))), (ad 5, .inl (ka 5, 32, .inl (nA (g 5)))), (ad 6, .inr (1, [.int (nI (f 8)), .ref (ad 7), .ref (ad 8)])), (ad 7, .inl (ka 7, 8, .inl (nA (g 7)))), (ad 8, .inl (ka 8, 32, .inl (nA (g 8)))), (ad 9, .inr (0, [.ref (ad 10), .ref (ad 11), .ref (ad 12), .int (nI (f 9))])), (ad 10, .inl (ka 10, 2, .inr (.inr (.inr (.inr (fun j => if j = 0 then some (ad 13) else some (ad 16))))))), (ad 11, .inl (ka 11, 4, .inl (nA (upN (g 11) w v)))), (ad 12, .inl (ka 12, 4, .inl (nA (upN (g 12) w q)))), (ad 13, .inr (1, [.int (nI (f 10)), .ref (ad 14), .ref (ad 15)])), (ad 14, .inl (ka 14, 8, .inl (nA (g 14)))), (ad 15, .inl (ka 15, 32, .inl (nA (g 15)))), (ad 16, .inr (1, [.int (nI (f 11)), .ref (ad 17), .ref (ad 18)])), (ad 17, .inl (ka 17, 8, .inl (nA (g 17)))), (ad 18, .inl (ka 18, 32, .inl (nA (g 18)))), (ad 19, .inr (3, [.ref (ad 20), .ref (ad 21), .ref (ad 22), .int (nI (f 12)), .int (nI (f 13)), .int (nI (f 14)), .int (nI (f 15)), .int (nI (f 16)), .int (nI (f 17))])), (ad 20, .inl (ka 20, L, .inr (.inl (lA (g 20))))), (ad 21, .inl (ka 21, L, .inl (nA (g 21)))), (ad 22, .inl (ka 22, mOf L, .inl (nA (g 22)))), (ad 23, .inl (ka 23, 32, .inl (nA (g 23))))] := hD
              refine lv_aload_n hx hb dX4_word_50 rfl (lv_at hl 0 rfl) ?_
              refine lv_iconst (v := nI 0) hx hb dX4_word_51 (by decide) ?_
              refine va_put (D := D) (ci := 4) (v := .int (nI 0)) (ty := .boolean) (C := RX4) (T := TX4) (N := 10) hx hb hU iX4 tyX4 tyX4_ok nmX4 hown hK hP hD hS 0 rfl rfl 7 (by decide) (hU _ mU_33) (fun _ h9 => h9) rfl (by decide +kernel) rfl rfl (Nat.le_of_ble_eq_true rfl) dX4_word_52 (fun H locs hP hD hS => ?_)
              have hP : va_P D vwCl [(ad 0, .inr (4, [.ref (ad 1), .int (nI (f 0)), .ref (ad 2), .ref (ad 3), .ref (ad 6), .ref (ad 9), .ref (ad 19), .int (nI 0), .ref (ad 23), .int (nI (f 2))])), (ad 1, .inl (ka 1, 200, .inl (nA (g 1)))), (ad 2, .inr (2, [.int (nI (f 3)), .int (nI (f 4)), .int (nI (f 5)), .int (nI (f 6))])), (ad 3, .inr (1, [.int (nI (f 7)), .ref (ad 4), .ref (ad 5)])), (ad 4, .inl (ka 4, 8, .inl (nA (g 4)))), (ad 5, .inl (ka 5, 32, .inl (nA (g 5)))), (ad 6, .inr (1, [.int (nI (f 8)), .ref (ad 7), .ref (ad 8)])), (ad 7, .inl (ka 7, 8, .inl (nA (g 7)))), (ad 8, .inl (ka 8, 32, .inl (nA (g 8)))), (ad 9, .inr (0, [.ref (ad 10), .ref (ad 11), .ref (ad 12), .int (nI (f 9))])), (ad 10, .inl (ka 10, 2, .inr (.inr (.inr (.inr (fun j => if j = 0 then some (ad 13) else some (ad 16))))))), (ad 11, .inl (ka 11, 4, .inl (nA (upN (g 11) w v)))), (ad 12, .inl (ka 12, 4, .inl (nA (upN (g 12) w q)))), (ad 13, .inr (1, [.int (nI (f 10)), .ref (ad 14), .ref (ad 15)])), (ad 14, .inl (ka 14, 8, .inl (nA (g 14)))), (ad 15, .inl (ka 15, 32, .inl (nA (g 15)))), (ad 16, .inr (1, [.int (nI (f 11)), .ref (ad 17), .ref (ad 18)])), (ad 17, .inl (ka 17, 8, .inl (nA (g 17)))), (ad 18, .inl (ka 18, 32, .inl (nA (g 18)))), (ad 19, .inr (3, [.ref (ad 20), .ref (ad 21), .ref (ad 22), .int (nI (f 12)), .int (nI (f 13)), .int (nI (f 14)), .int (nI (f 15)), .int (nI (f 16)), .int (nI (f 17))])), (ad 20, .inl (ka 20, L, .inr (.inl (lA (g 20))))), (ad 21, .inl (ka 21, L, .inl (nA (g 21)))), (ad 22, .inl (ka 22, mOf L, .inl (nA (g 22)))), (ad 23, .inl (ka 23, 32, .inl (nA (g 23))))] H := hP
              have hD : va_D Ar [(ad 0, .inr (4, [.ref (ad 1), .int (nI (f 0)), .ref (ad 2), .ref (ad 3), .ref (ad 6), .ref (ad 9), .ref (ad 19), .int (nI 0), .ref (ad 23), .int (nI (f 2))])), (ad 1, .inl (ka 1, 200, .inl (nA (g 1)))), (ad 2, .inr (2, [.int (nI (f 3)), .int (nI (f 4)), .int (nI (f 5)), .int (nI (f 6))])), (ad 3, .inr (1, [.int (nI (f 7)), .ref (ad 4), .ref (ad 5)])), (ad 4, .inl (ka 4, 8, .inl (nA (g 4)))), (ad 5, .inl (ka 5, 32, .inl (nA (g 5)))), (ad 6, .inr (1, [.int (nI (f 8)), .ref (ad 7), .ref (ad 8)])), (ad 7, .inl (ka 7, 8, .inl (nA (g 7)))), (ad 8, .inl (ka 8, 32, .inl (nA (g 8)))), (ad 9, .inr (0, [.ref (ad 10), .ref (ad 11), .ref (ad 12), .int (nI (f 9))])), (ad 10, .inl (ka 10, 2, .inr (.inr (.inr (.inr (fun j => if j = 0 then some (ad 13) else some (ad 16))))))), (ad 11, .inl (ka 11, 4, .inl (nA (upN (g 11) w v)))), (ad 12, .inl (ka 12, 4, .inl (nA (upN (g 12) w q)))), (ad 13, .inr (1, [.int (nI (f 10)), .ref (ad 14), .ref (ad 15)])), (ad 14, .inl (ka 14, 8, .inl (nA (g 14)))), (ad 15, .inl (ka 15, 32, .inl (nA (g 15)))), (ad 16, .inr (1, [.int (nI (f 11)), .ref (ad 17), .ref (ad 18)])), (ad 17, .inl (ka 17, 8, .inl (nA (g 17)))), (ad 18, .inl (ka 18, 32, .inl (nA (g 18)))), (ad 19, .inr (3, [.ref (ad 20), .ref (ad 21), .ref (ad 22), .int (nI (f 12)), .int (nI (f 13)), .int (nI (f 14)), .int (nI (f 15)), .int (nI (f 16)), .int (nI (f 17))])), (ad 20, .inl (ka 20, L, .inr (.inl (lA (g 20))))), (ad 21, .inl (ka 21, L, .inl (nA (g 21)))), (ad 22, .inl (ka 22, mOf L, .inl (nA (g 22)))), (ad 23, .inl (ka 23, 32, .inl (nA (g 23))))] := hD
              refine lv_iconst (v := nI 1) hx hb dX4_word_55 (by decide) ?_
              subst hQ
              exact rwz (ad, ka, L, upN (f) 1 0, upA (upA (g) 11 (upN (g 11) w v)) 12 (upN (g 12) w q)) hx hb hr hlocks rfl (⟨fun _ => ⟨rfl, rfl⟩, fun h9 => absurd (by omega) h9⟩) hP hK hD hS dX4_word_56
            · have c25_6 : ¬ ((q ≤ 7 ∧ (2147483648 ≤ q ∨ 7 < 2147483648)) ∨ (2147483648 ≤ q ∧ 7 < 2147483648)) := fun h9 => c25_6 ((nI_leG (a := q) (b := 7) (by omega) (by omega)).mpr h9)
              refine lv_iconst (v := nI 0) hx hb dX4_word_28 (by decide) ?_
              subst hQ
              exact rwz (ad, ka, L, f, g) hx hb hr hlocks rfl (⟨fun h9 => absurd h9 (by omega), fun _ => ⟨rfl, rfl⟩⟩) hP hK hD hS dX4_word_29

set_option maxHeartbeats 4000000 in
set_option maxRecDepth 100000 in
theorem c_X4_falls (l : Launch) (D : va_G) (ad : Nat → Nat) (ka : Nat → ClassId) (L : Nat) (f : Nat → Nat) (g : Nat → Nat → Nat) (sz : Nat) (may : Nat) (hmy : may < 2) : Met l yX4_falls (.code yX4_falls cX4_falls 2 none :: wsL_law) ({ frames := 0, cells := 0, slots := 0, locals := 0 }) (va_Pc [.ref (ad 0), .int (nI may)] (PW D (xW ad ka L f g) (xT ka) sz)) (va_Qv (fun u : XSt => u = (ad, ka, L, upN (upN f 1 0) 9 may, g)) (QW D (fun u : XSt => xW u.1 u.2.1 u.2.2.1 u.2.2.2.1 u.2.2.2.2) (fun u : XSt => xT u.2.1) (va_A (xW ad ka L f g) sz)) (va_A (xW ad ka L f g) sz)) 0 0 (va_A (xW ad ka L f g) sz) := by
  refine Met.ofW (cc := cX4_falls) (maxL := 2) (ret := none) (by decide) rfl ?_
  intro p e s m args below meth c s₁ B hml hv
  obtain ⟨rfl, hsz, hP, hK, hD0⟩ := hv
  have hx := B.exec
  have hb := B.bytes
  have hr := B.returns
  have hts := atoms_spec (ws := .code yX4_falls cX4_falls 2 none :: wsL_law) B.pre
  have hU : ∀ w ∈ wsL_law, w.before _ s = true := fun w h => hts w (List.mem_cons_of_mem _ h)
  have hown : s.vm.findClass RX4 = some m.cls := findClass_of_methodNamed B.named
  have hlocks := B.notSynchronized
  subst hsz
  have hD := hD0.self (sz := s.heap.size)
  generalize hAe : va_A (xW ad ka L f g) s.heap.size = Ar at hD ⊢
  have hA : ∀ q : Nat, s.heap.size ≤ q → Ar q := fun q h => by rw [← hAe]; exact Or.inr h
  have hS : va_S Ar s.heap s.heap [] := va_S.rf
  have hP : va_P D vwCl [(ad 0, .inr (4, [.ref (ad 1), .int (nI (f 0)), .ref (ad 2), .ref (ad 3), .ref (ad 6), .ref (ad 9), .ref (ad 19), .int (nI (f 1)), .ref (ad 23), .int (nI (f 2))])), (ad 1, .inl (ka 1, 200, .inl (nA (g 1)))), (ad 2, .inr (2, [.int (nI (f 3)), .int (nI (f 4)), .int (nI (f 5)), .int (nI (f 6))])), (ad 3, .inr (1, [.int (nI (f 7)), .ref (ad 4), .ref (ad 5)])), (ad 4, .inl (ka 4, 8, .inl (nA (g 4)))), (ad 5, .inl (ka 5, 32, .inl (nA (g 5)))), (ad 6, .inr (1, [.int (nI (f 8)), .ref (ad 7), .ref (ad 8)])), (ad 7, .inl (ka 7, 8, .inl (nA (g 7)))), (ad 8, .inl (ka 8, 32, .inl (nA (g 8)))), (ad 9, .inr (0, [.ref (ad 10), .ref (ad 11), .ref (ad 12), .int (nI (f 9))])), (ad 10, .inl (ka 10, 2, .inr (.inr (.inr (.inr (fun j => if j = 0 then some (ad 13) else some (ad 16))))))), (ad 11, .inl (ka 11, 4, .inl (nA (g 11)))), (ad 12, .inl (ka 12, 4, .inl (nA (g 12)))), (ad 13, .inr (1, [.int (nI (f 10)), .ref (ad 14), .ref (ad 15)])), (ad 14, .inl (ka 14, 8, .inl (nA (g 14)))), (ad 15, .inl (ka 15, 32, .inl (nA (g 15)))), (ad 16, .inr (1, [.int (nI (f 11)), .ref (ad 17), .ref (ad 18)])), (ad 17, .inl (ka 17, 8, .inl (nA (g 17)))), (ad 18, .inl (ka 18, 32, .inl (nA (g 18)))), (ad 19, .inr (3, [.ref (ad 20), .ref (ad 21), .ref (ad 22), .int (nI (f 12)), .int (nI (f 13)), .int (nI (f 14)), .int (nI (f 15)), .int (nI (f 16)), .int (nI (f 17))])), (ad 20, .inl (ka 20, L, .inr (.inl (lA (g 20))))), (ad 21, .inl (ka 21, L, .inl (nA (g 21)))), (ad 22, .inl (ka 22, mOf L, .inl (nA (g 22)))), (ad 23, .inl (ka 23, 32, .inl (nA (g 23))))] s.heap := hP
  have hD : va_D Ar [(ad 0, .inr (4, [.ref (ad 1), .int (nI (f 0)), .ref (ad 2), .ref (ad 3), .ref (ad 6), .ref (ad 9), .ref (ad 19), .int (nI (f 1)), .ref (ad 23), .int (nI (f 2))])), (ad 1, .inl (ka 1, 200, .inl (nA (g 1)))), (ad 2, .inr (2, [.int (nI (f 3)), .int (nI (f 4)), .int (nI (f 5)), .int (nI (f 6))])), (ad 3, .inr (1, [.int (nI (f 7)), .ref (ad 4), .ref (ad 5)])), (ad 4, .inl (ka 4, 8, .inl (nA (g 4)))), (ad 5, .inl (ka 5, 32, .inl (nA (g 5)))), (ad 6, .inr (1, [.int (nI (f 8)), .ref (ad 7), .ref (ad 8)])), (ad 7, .inl (ka 7, 8, .inl (nA (g 7)))), (ad 8, .inl (ka 8, 32, .inl (nA (g 8)))), (ad 9, .inr (0, [.ref (ad 10), .ref (ad 11), .ref (ad 12), .int (nI (f 9))])), (ad 10, .inl (ka 10, 2, .inr (.inr (.inr (.inr (fun j => if j = 0 then some (ad 13) else some (ad 16))))))), (ad 11, .inl (ka 11, 4, .inl (nA (g 11)))), (ad 12, .inl (ka 12, 4, .inl (nA (g 12)))), (ad 13, .inr (1, [.int (nI (f 10)), .ref (ad 14), .ref (ad 15)])), (ad 14, .inl (ka 14, 8, .inl (nA (g 14)))), (ad 15, .inl (ka 15, 32, .inl (nA (g 15)))), (ad 16, .inr (1, [.int (nI (f 11)), .ref (ad 17), .ref (ad 18)])), (ad 17, .inl (ka 17, 8, .inl (nA (g 17)))), (ad 18, .inl (ka 18, 32, .inl (nA (g 18)))), (ad 19, .inr (3, [.ref (ad 20), .ref (ad 21), .ref (ad 22), .int (nI (f 12)), .int (nI (f 13)), .int (nI (f 14)), .int (nI (f 15)), .int (nI (f 16)), .int (nI (f 17))])), (ad 20, .inl (ka 20, L, .inr (.inl (lA (g 20))))), (ad 21, .inl (ka 21, L, .inl (nA (g 21)))), (ad 22, .inl (ka 22, mOf L, .inl (nA (g 22)))), (ad 23, .inl (ka 23, 32, .inl (nA (g 23))))] := hD
  generalize hQ : MQ _ _ _ _ _ _ _ = Q
  have hl := lv_entry ([.ref (ad 0), .int (nI may)]) (n := 2) (Nat.le_of_ble_eq_true rfl)
  rw [lg_entry_eq]
  generalize (lg_sl ([.ref (ad 0), .int (nI may)]) ++ List.replicate (2 - (lg_sl ([.ref (ad 0), .int (nI may)])).length) Slot.unset).toArray = ls at hl ⊢
  have hl : lv_has ls 2 [(0, .ref (ad 0)), (1, .int (nI may))] := hl
  refine lv_aload_n hx hb dX4_falls_0 rfl (lv_at hl 0 rfl) ?_
  refine va_get (D := D) (ci := 4) (v := .ref (ad 9)) (C := RX4) (T := TX4) (N := 10) hx hb hU iX4 hown hK hP 0 rfl rfl 5 (by decide) (hU _ mU_28) (fun _ h9 => h9) rfl dX4_falls_1 ?_
  refine lv_iload_n hx hb dX4_falls_4 rfl (lv_at hl 1 rfl) ?_
  refine va_put (D := D) (ci := 0) (v := .int (nI may)) (ty := .boolean) (C := RX0) (T := TX0) (N := 4) hx hb hU iX0 tyX0 tyX0_ok nmX0 hown hK hP hD hS 9 rfl rfl 3 (by decide) (hU _ mU_315) (fun _ h9 => h9) rfl (by decide +kernel) (z_bool (by omega)).1 (z_bool (by omega)).2 (Nat.le_of_ble_eq_true rfl) dX4_falls_5 (fun H locs hP hD hS => ?_)
  have hP : va_P D vwCl [(ad 0, .inr (4, [.ref (ad 1), .int (nI (f 0)), .ref (ad 2), .ref (ad 3), .ref (ad 6), .ref (ad 9), .ref (ad 19), .int (nI (f 1)), .ref (ad 23), .int (nI (f 2))])), (ad 1, .inl (ka 1, 200, .inl (nA (g 1)))), (ad 2, .inr (2, [.int (nI (f 3)), .int (nI (f 4)), .int (nI (f 5)), .int (nI (f 6))])), (ad 3, .inr (1, [.int (nI (f 7)), .ref (ad 4), .ref (ad 5)])), (ad 4, .inl (ka 4, 8, .inl (nA (g 4)))), (ad 5, .inl (ka 5, 32, .inl (nA (g 5)))), (ad 6, .inr (1, [.int (nI (f 8)), .ref (ad 7), .ref (ad 8)])), (ad 7, .inl (ka 7, 8, .inl (nA (g 7)))), (ad 8, .inl (ka 8, 32, .inl (nA (g 8)))), (ad 9, .inr (0, [.ref (ad 10), .ref (ad 11), .ref (ad 12), .int (nI may)])), (ad 10, .inl (ka 10, 2, .inr (.inr (.inr (.inr (fun j => if j = 0 then some (ad 13) else some (ad 16))))))), (ad 11, .inl (ka 11, 4, .inl (nA (g 11)))), (ad 12, .inl (ka 12, 4, .inl (nA (g 12)))), (ad 13, .inr (1, [.int (nI (f 10)), .ref (ad 14), .ref (ad 15)])), (ad 14, .inl (ka 14, 8, .inl (nA (g 14)))), (ad 15, .inl (ka 15, 32, .inl (nA (g 15)))), (ad 16, .inr (1, [.int (nI (f 11)), .ref (ad 17), .ref (ad 18)])), (ad 17, .inl (ka 17, 8, .inl (nA (g 17)))), (ad 18, .inl (ka 18, 32, .inl (nA (g 18)))), (ad 19, .inr (3, [.ref (ad 20), .ref (ad 21), .ref (ad 22), .int (nI (f 12)), .int (nI (f 13)), .int (nI (f 14)), .int (nI (f 15)), .int (nI (f 16)), .int (nI (f 17))])), (ad 20, .inl (ka 20, L, .inr (.inl (lA (g 20))))), (ad 21, .inl (ka 21, L, .inl (nA (g 21)))), (ad 22, .inl (ka 22, mOf L, .inl (nA (g 22)))), (ad 23, .inl (ka 23, 32, .inl (nA (g 23))))] H := hP
  have hD : va_D Ar [(ad 0, .inr (4, [.ref (ad 1), .int (nI (f 0)), .ref (ad 2), .ref (ad 3), .ref (ad 6), .ref (ad 9), .ref (ad 19), .int (nI (f 1)), .ref (ad 23), .int (nI (f 2))])), (ad 1, .inl (ka 1, 200, .inl (nA (g 1)))), (ad 2, .inr (2, [.int (nI (f 3)), .int (nI (f 4)), .int (nI (f 5)), .int (nI (f 6))])), (ad 3, .inr (1, [.int (nI (f 7)), .ref (ad 4), .ref (ad 5)])), (ad 4, .inl (ka 4, 8, .inl (nA (g 4)))), (ad 5, .inl (ka 5, 32, .inl (nA (g 5)))), (ad 6, .inr (1, [.int (nI (f 8)), .ref (ad 7), .ref (ad 8)])), (ad 7, .inl (ka 7, 8, .inl (nA (g 7)))), (ad 8, .inl (ka 8, 32, .inl (nA (g 8)))), (ad 9, .inr (0, [.ref (ad 10), .ref (ad 11), .ref (ad 12), .int (nI may)])), (ad 10, .inl (ka 10, 2, .inr (.inr (.inr (.inr (fun j => if j = 0 then some (ad 13) else some (ad 16))))))), (ad 11, .inl (ka 11, 4, .inl (nA (g 11)))), (ad 12, .inl (ka 12, 4, .inl (nA (g 12)))), (ad 13, .inr (1, [.int (nI (f 10)), .ref (ad 14), .ref (ad 15)])), (ad 14, .inl (ka 14, 8, .inl (nA (g 14)))), (ad 15, .inl (ka 15, 32, .inl (nA (g 15)))), (ad 16, .inr (1, [.int (nI (f 11)), .ref (ad 17), .ref (ad 18)])), (ad 17, .inl (ka 17, 8, .inl (nA (g 17)))), (ad 18, .inl (ka 18, 32, .inl (nA (g 18)))), (ad 19, .inr (3, [.ref (ad 20), .ref (ad 21), .ref (ad 22), .int (nI (f 12)), .int (nI (f 13)), .int (nI (f 14)), .int (nI (f 15)), .int (nI (f 16)), .int (nI (f 17))])), (ad 20, .inl (ka 20, L, .inr (.inl (lA (g 20))))), (ad 21, .inl (ka 21, L, .inl (nA (g 21)))), (ad 22, .inl (ka 22, mOf L, .inl (nA (g 22)))), (ad 23, .inl (ka 23, 32, .inl (nA (g 23))))] := hD
  refine lv_aload_n hx hb dX4_falls_8 rfl (lv_at hl 0 rfl) ?_
  refine lv_iconst (v := nI 0) hx hb dX4_falls_9 (by decide) ?_
  refine va_put (D := D) (ci := 4) (v := .int (nI 0)) (ty := .boolean) (C := RX4) (T := TX4) (N := 10) hx hb hU iX4 tyX4 tyX4_ok nmX4 hown hK hP hD hS 0 rfl rfl 7 (by decide) (hU _ mU_33) (fun _ h9 => h9) rfl (by decide +kernel) rfl rfl (Nat.le_of_ble_eq_true rfl) dX4_falls_10 (fun H locs hP hD hS => ?_)
  have hP : va_P D vwCl [(ad 0, .inr (4, [.ref (ad 1), .int (nI (f 0)), .ref (ad 2), .ref (ad 3), .ref (ad 6), .ref (ad 9), .ref (ad 19), .int (nI 0), .ref (ad 23), .int (nI (f 2))])), (ad 1, .inl (ka 1, 200, .inl (nA (g 1)))), (ad 2, .inr (2, [.int (nI (f 3)), .int (nI (f 4)), .int (nI (f 5)), .int (nI (f 6))])), (ad 3, .inr (1, [.int (nI (f 7)), .ref (ad 4), .ref (ad 5)])), (ad 4, .inl (ka 4, 8, .inl (nA (g 4)))), (ad 5, .inl (ka 5, 32, .inl (nA (g 5)))), (ad 6, .inr (1, [.int (nI (f 8)), .ref (ad 7), .ref (ad 8)])), (ad 7, .inl (ka 7, 8, .inl (nA (g 7)))), (ad 8, .inl (ka 8, 32, .inl (nA (g 8)))), (ad 9, .inr (0, [.ref (ad 10), .ref (ad 11), .ref (ad 12), .int (nI may)])), (ad 10, .inl (ka 10, 2, .inr (.inr (.inr (.inr (fun j => if j = 0 then some (ad 13) else some (ad 16))))))), (ad 11, .inl (ka 11, 4, .inl (nA (g 11)))), (ad 12, .inl (ka 12, 4, .inl (nA (g 12)))), (ad 13, .inr (1, [.int (nI (f 10)), .ref (ad 14), .ref (ad 15)])), (ad 14, .inl (ka 14, 8, .inl (nA (g 14)))), (ad 15, .inl (ka 15, 32, .inl (nA (g 15)))), (ad 16, .inr (1, [.int (nI (f 11)), .ref (ad 17), .ref (ad 18)])), (ad 17, .inl (ka 17, 8, .inl (nA (g 17)))), (ad 18, .inl (ka 18, 32, .inl (nA (g 18)))), (ad 19, .inr (3, [.ref (ad 20), .ref (ad 21), .ref (ad 22), .int (nI (f 12)), .int (nI (f 13)), .int (nI (f 14)), .int (nI (f 15)), .int (nI (f 16)), .int (nI (f 17))])), (ad 20, .inl (ka 20, L, .inr (.inl (lA (g 20))))), (ad 21, .inl (ka 21, L, .inl (nA (g 21)))), (ad 22, .inl (ka 22, mOf L, .inl (nA (g 22)))), (ad 23, .inl (ka 23, 32, .inl (nA (g 23))))] H := hP
  have hD : va_D Ar [(ad 0, .inr (4, [.ref (ad 1), .int (nI (f 0)), .ref (ad 2), .ref (ad 3), .ref (ad 6), .ref (ad 9), .ref (ad 19), .int (nI 0), .ref (ad 23), .int (nI (f 2))])), (ad 1, .inl (ka 1, 200, .inl (nA (g 1)))), (ad 2, .inr (2, [.int (nI (f 3)), .int (nI (f 4)), .int (nI (f 5)), .int (nI (f 6))])), (ad 3, .inr (1, [.int (nI (f 7)), .ref (ad 4), .ref (ad 5)])), (ad 4, .inl (ka 4, 8, .inl (nA (g 4)))), (ad 5, .inl (ka 5, 32, .inl (nA (g 5)))), (ad 6, .inr (1, [.int (nI (f 8)), .ref (ad 7), .ref (ad 8)])), (ad 7, .inl (ka 7, 8, .inl (nA (g 7)))), (ad 8, .inl (ka 8, 32, .inl (nA (g 8)))), (ad 9, .inr (0, [.ref (ad 10), .ref (ad 11), .ref (ad 12), .int (nI may)])), (ad 10, .inl (ka 10, 2, .inr (.inr (.inr (.inr (fun j => if j = 0 then some (ad 13) else some (ad 16))))))), (ad 11, .inl (ka 11, 4, .inl (nA (g 11)))), (ad 12, .inl (ka 12, 4, .inl (nA (g 12)))), (ad 13, .inr (1, [.int (nI (f 10)), .ref (ad 14), .ref (ad 15)])), (ad 14, .inl (ka 14, 8, .inl (nA (g 14)))), (ad 15, .inl (ka 15, 32, .inl (nA (g 15)))), (ad 16, .inr (1, [.int (nI (f 11)), .ref (ad 17), .ref (ad 18)])), (ad 17, .inl (ka 17, 8, .inl (nA (g 17)))), (ad 18, .inl (ka 18, 32, .inl (nA (g 18)))), (ad 19, .inr (3, [.ref (ad 20), .ref (ad 21), .ref (ad 22), .int (nI (f 12)), .int (nI (f 13)), .int (nI (f 14)), .int (nI (f 15)), .int (nI (f 16)), .int (nI (f 17))])), (ad 20, .inl (ka 20, L, .inr (.inl (lA (g 20))))), (ad 21, .inl (ka 21, L, .inl (nA (g 21)))), (ad 22, .inl (ka 22, mOf L, .inl (nA (g 22)))), (ad 23, .inl (ka 23, 32, .inl (nA (g 23))))] := hD
  subst hQ
  exact rwv (ad, ka, L, upN (upN (f) 1 0) 9 may, g) hx hb hr hlocks (rfl) hP hK hD hS dX4_falls_13

set_option maxHeartbeats 4000000 in
set_option maxRecDepth 100000 in
theorem c_X4_step (l : Launch) (D : va_G) (ad : Nat → Nat) (ka : Nat → ClassId) (L : Nat) (f : Nat → Nat) (g : Nat → Nat → Nat) (i : Nat) (hi9 : i < 4294967296) (hr9 : f 2 ≤ 32) : Met l yX4_step (.code yX4_step cX4_step 2 (some .int) :: wsL_law) ({ frames := 0, cells := 0, slots := 0, locals := 0 }) (va_Pc [.ref (ad 0), .int (nI i)] (PR D (xW ad ka L f g) (xT ka))) (QrI (nI (if i < f 2 then g 23 i else 4294967295))) 0 0 (fun _ => False) := by
  refine Met.ofW (cc := cX4_step) (maxL := 2) (ret := (some .int)) (by decide) rfl ?_
  intro p e s m args below meth c s₁ B hml hv
  obtain ⟨rfl, hP, hK⟩ := hv
  have hx := B.exec
  have hb := B.bytes
  have hr := B.returns
  have hts := atoms_spec (ws := .code yX4_step cX4_step 2 (some .int) :: wsL_law) B.pre
  have hU : ∀ w ∈ wsL_law, w.before _ s = true := fun w h => hts w (List.mem_cons_of_mem _ h)
  have hown : s.vm.findClass RX4 = some m.cls := findClass_of_methodNamed B.named
  have hlocks := B.notSynchronized
  generalize hQ : MQ _ _ _ _ _ _ _ = Q
  have hl := lv_entry ([.ref (ad 0), .int (nI i)]) (n := 2) (Nat.le_of_ble_eq_true rfl)
  rw [lg_entry_eq]
  generalize (lg_sl ([.ref (ad 0), .int (nI i)]) ++ List.replicate (2 - (lg_sl ([.ref (ad 0), .int (nI i)])).length) Slot.unset).toArray = ls at hl ⊢
  have hl : lv_has ls 2 [(0, .ref (ad 0)), (1, .int (nI i))] := hl
  refine lv_iload_n hx hb dX4_step_0 rfl (lv_at hl 1 rfl) ?_
  refine lv_if_lt (tgt := 27) hx hb dX4_step_1 (by decide) (fun c1_1 => ?_) (fun c1_1 => ?_)
  · have c1_1 : (i < 0 ∧ (2147483648 ≤ i ∨ 0 < 2147483648)) ∨ (2147483648 ≤ i ∧ 0 < 2147483648) := (nI_ltG (a := i) (b := 0) (by omega) (by omega)).mp c1_1
    refine lv_iconst (v := nI 4294967295) hx hb dX4_step_27 (by decide) ?_
    subst hQ
    exact rti hx hb hr hlocks rfl (by first | (exfalso; omega) | rw [if_pos (by omega)] | rw [if_neg (by omega)]) dX4_step_28
  · have c1_1 : ¬ ((i < 0 ∧ (2147483648 ≤ i ∨ 0 < 2147483648)) ∨ (2147483648 ≤ i ∧ 0 < 2147483648)) := fun h9 => c1_1 ((nI_ltG (a := i) (b := 0) (by omega) (by omega)).mpr h9)
    refine lv_iload_n hx hb dX4_step_4 rfl (lv_at hl 1 rfl) ?_
    refine lv_aload_n hx hb dX4_step_5 rfl (lv_at hl 0 rfl) ?_
    refine va_get (D := D) (ci := 4) (v := .int (nI (f 2))) (C := RX4) (T := TX4) (N := 10) hx hb hU iX4 hown hK hP 0 rfl rfl 9 (by decide) (hU _ mU_36) (fun _ h9 => h9) rfl dX4_step_6 ?_
    refine lv_icmp_ge (tgt := 27) hx hb dX4_step_9 (by decide) (fun c9_2 => ?_) (fun c9_2 => ?_)
    · have c9_2 : (f 2 ≤ i ∧ (2147483648 ≤ f 2 ∨ i < 2147483648)) ∨ (2147483648 ≤ f 2 ∧ i < 2147483648) := (nI_leG (a := f 2) (b := i) (by omega) (by omega)).mp c9_2
      refine lv_iconst (v := nI 4294967295) hx hb dX4_step_27 (by decide) ?_
      subst hQ
      exact rti hx hb hr hlocks rfl (by first | (exfalso; omega) | rw [if_pos (by omega)] | rw [if_neg (by omega)]) dX4_step_28
    · have c9_2 : ¬ ((f 2 ≤ i ∧ (2147483648 ≤ f 2 ∨ i < 2147483648)) ∨ (2147483648 ≤ f 2 ∧ i < 2147483648)) := fun h9 => c9_2 ((nI_leG (a := f 2) (b := i) (by omega) (by omega)).mpr h9)
      refine lv_iload_n hx hb dX4_step_12 rfl (lv_at hl 1 rfl) ?_
      refine lv_bipush (v := nI 32) hx hb dX4_step_13 (by decide) ?_
      refine lv_icmp_ge (tgt := 27) hx hb dX4_step_15 (by decide) (fun c15_3 => ?_) (fun c15_3 => ?_)
      · have c15_3 : (32 ≤ i ∧ (2147483648 ≤ 32 ∨ i < 2147483648)) ∨ (2147483648 ≤ 32 ∧ i < 2147483648) := (nI_leG (a := 32) (b := i) (by omega) (by omega)).mp c15_3
        refine lv_iconst (v := nI 4294967295) hx hb dX4_step_27 (by decide) ?_
        subst hQ
        exact rti hx hb hr hlocks rfl (by first | (exfalso; omega) | rw [if_pos (by omega)] | rw [if_neg (by omega)]) dX4_step_28
      · have c15_3 : ¬ ((32 ≤ i ∧ (2147483648 ≤ 32 ∨ i < 2147483648)) ∨ (2147483648 ≤ 32 ∧ i < 2147483648)) := fun h9 => c15_3 ((nI_leG (a := 32) (b := i) (by omega) (by omega)).mpr h9)
        refine lv_aload_n hx hb dX4_step_18 rfl (lv_at hl 0 rfl) ?_
        refine va_get (D := D) (ci := 4) (v := .ref (ad 23)) (C := RX4) (T := TX4) (N := 10) hx hb hU iX4 hown hK hP 0 rfl rfl 8 (by decide) (hU _ mU_35) (fun _ h9 => h9) rfl dX4_step_19 ?_
        refine lv_iload_n hx hb dX4_step_22 rfl (lv_at hl 1 rfl) ?_
        refine n_iald hx hb hK hP 23 15 rfl rfl (i := i) (by omega) (by decide) dX4_step_23 ?_
        refine lv_goto (tgt := 28) hx hb dX4_step_24 (by decide) ?_
        subst hQ
        exact rti hx hb hr hlocks rfl (by first | (exfalso; omega) | rw [if_pos (by omega)] | rw [if_neg (by omega)]) dX4_step_28

set_option maxHeartbeats 4000000 in
set_option maxRecDepth 100000 in
theorem c_X4_arePlaces (l : Launch) (D : va_G) (ad : Nat → Nat) (ka : Nat → ClassId) (L : Nat) (f : Nat → Nat) (g : Nat → Nat → Nat) (pa : Nat) (pb : Nat) (hpa9 : pa < 4294967296) (hpb9 : pb < 4294967296) (h10 : f 10 < 8) (h11 : f 11 < 8) : Met l yX4_arePlaces (.code yX4_arePlaces cX4_arePlaces 3 (some .boolean) :: wsL_law) ({ frames := 0, cells := 0, slots := 0, locals := 0 }) (va_Pc [.ref (ad 0), .int (nI pa), .int (nI pb)] (PR D (xW ad ka L f g) (xT ka))) (QrI (bP (pa ≤ f 10 ∧ pb ≤ f 11))) 0 0 (fun _ => False) := by
  refine Met.ofW (cc := cX4_arePlaces) (maxL := 3) (ret := (some .boolean)) (by decide) rfl ?_
  intro p e s m args below meth c s₁ B hml hv
  obtain ⟨rfl, hP, hK⟩ := hv
  have hx := B.exec
  have hb := B.bytes
  have hr := B.returns
  have hts := atoms_spec (ws := .code yX4_arePlaces cX4_arePlaces 3 (some .boolean) :: wsL_law) B.pre
  have hU : ∀ w ∈ wsL_law, w.before _ s = true := fun w h => hts w (List.mem_cons_of_mem _ h)
  have hown : s.vm.findClass RX4 = some m.cls := findClass_of_methodNamed B.named
  have hlocks := B.notSynchronized
  generalize hQ : MQ _ _ _ _ _ _ _ = Q
  have hl := lv_entry ([.ref (ad 0), .int (nI pa), .int (nI pb)]) (n := 3) (Nat.le_of_ble_eq_true rfl)
  rw [lg_entry_eq]
  generalize (lg_sl ([.ref (ad 0), .int (nI pa), .int (nI pb)]) ++ List.replicate (3 - (lg_sl ([.ref (ad 0), .int (nI pa), .int (nI pb)])).length) Slot.unset).toArray = ls at hl ⊢
  have hl : lv_has ls 3 [(0, .ref (ad 0)), (1, .int (nI pa)), (2, .int (nI pb))] := hl
  refine lv_iload_n hx hb dX4_arePlaces_0 rfl (lv_at hl 1 rfl) ?_
  refine lv_if_lt (tgt := 44) hx hb dX4_arePlaces_1 (by decide) (fun c1_1 => ?_) (fun c1_1 => ?_)
  · have c1_1 : (pa < 0 ∧ (2147483648 ≤ pa ∨ 0 < 2147483648)) ∨ (2147483648 ≤ pa ∧ 0 < 2147483648) := (nI_ltG (a := pa) (b := 0) (by omega) (by omega)).mp c1_1
    refine lv_iconst (v := nI 0) hx hb dX4_arePlaces_44 (by decide) ?_
    subst hQ
    exact rtz hx hb hr hlocks rfl rfl (bP_0 (by omega)) dX4_arePlaces_45
  · have c1_1 : ¬ ((pa < 0 ∧ (2147483648 ≤ pa ∨ 0 < 2147483648)) ∨ (2147483648 ≤ pa ∧ 0 < 2147483648)) := fun h9 => c1_1 ((nI_ltG (a := pa) (b := 0) (by omega) (by omega)).mpr h9)
    refine lv_iload_n hx hb dX4_arePlaces_4 rfl (lv_at hl 1 rfl) ?_
    refine lv_aload_n hx hb dX4_arePlaces_5 rfl (lv_at hl 0 rfl) ?_
    refine va_get (D := D) (ci := 4) (v := .ref (ad 9)) (C := RX4) (T := TX4) (N := 10) hx hb hU iX4 hown hK hP 0 rfl rfl 5 (by decide) (hU _ mU_28) (fun _ h9 => h9) rfl dX4_arePlaces_6 ?_
    refine va_get (D := D) (ci := 0) (v := .ref (ad 10)) (C := RX0) (T := TX0) (N := 4) hx hb hU iX0 hown hK hP 9 rfl rfl 0 (by decide) (hU _ mU_124) (fun _ h9 => h9) rfl dX4_arePlaces_9 ?_
    refine lv_iconst (v := nI 0) hx hb dX4_arePlaces_12 (by decide) ?_
    refine va_aldq hx hb hK hP 10 5 rfl rfl (vp_in_nI (n := 0) (by decide) (by decide)) dX4_arePlaces_13 ?_
    refine W.eq (g2 := F0 m 14 ls [.ref (ad 13), .int (nI pa)]) (by rw [nI_clamp (show 0 < 2 ^ 31 by decide)]; rfl) ?_
    refine va_get (D := D) (ci := 1) (v := .int (nI (f 10))) (C := RX1) (T := TX1) (N := 3) hx hb hU iX1 hown hK hP 13 rfl rfl 0 (by decide) (hU _ mU_125) (fun _ h9 => h9) rfl dX4_arePlaces_14 ?_
    refine lv_icmp_gt (tgt := 44) hx hb dX4_arePlaces_17 (by decide) (fun c17_2 => ?_) (fun c17_2 => ?_)
    · have c17_2 : (f 10 < pa ∧ (2147483648 ≤ f 10 ∨ pa < 2147483648)) ∨ (2147483648 ≤ f 10 ∧ pa < 2147483648) := (nI_ltG (a := f 10) (b := pa) (by omega) (by omega)).mp c17_2
      refine lv_iconst (v := nI 0) hx hb dX4_arePlaces_44 (by decide) ?_
      subst hQ
      exact rtz hx hb hr hlocks rfl rfl (bP_0 (by omega)) dX4_arePlaces_45
    · have c17_2 : ¬ ((f 10 < pa ∧ (2147483648 ≤ f 10 ∨ pa < 2147483648)) ∨ (2147483648 ≤ f 10 ∧ pa < 2147483648)) := fun h9 => c17_2 ((nI_ltG (a := f 10) (b := pa) (by omega) (by omega)).mpr h9)
      refine lv_iload_n hx hb dX4_arePlaces_20 rfl (lv_at hl 2 rfl) ?_
      refine lv_if_lt (tgt := 44) hx hb dX4_arePlaces_21 (by decide) (fun c21_3 => ?_) (fun c21_3 => ?_)
      · have c21_3 : (pb < 0 ∧ (2147483648 ≤ pb ∨ 0 < 2147483648)) ∨ (2147483648 ≤ pb ∧ 0 < 2147483648) := (nI_ltG (a := pb) (b := 0) (by omega) (by omega)).mp c21_3
        refine lv_iconst (v := nI 0) hx hb dX4_arePlaces_44 (by decide) ?_
        subst hQ
        exact rtz hx hb hr hlocks rfl rfl (bP_0 (by omega)) dX4_arePlaces_45
      · have c21_3 : ¬ ((pb < 0 ∧ (2147483648 ≤ pb ∨ 0 < 2147483648)) ∨ (2147483648 ≤ pb ∧ 0 < 2147483648)) := fun h9 => c21_3 ((nI_ltG (a := pb) (b := 0) (by omega) (by omega)).mpr h9)
        refine lv_iload_n hx hb dX4_arePlaces_24 rfl (lv_at hl 2 rfl) ?_
        refine lv_aload_n hx hb dX4_arePlaces_25 rfl (lv_at hl 0 rfl) ?_
        refine va_get (D := D) (ci := 4) (v := .ref (ad 9)) (C := RX4) (T := TX4) (N := 10) hx hb hU iX4 hown hK hP 0 rfl rfl 5 (by decide) (hU _ mU_28) (fun _ h9 => h9) rfl dX4_arePlaces_26 ?_
        refine va_get (D := D) (ci := 0) (v := .ref (ad 10)) (C := RX0) (T := TX0) (N := 4) hx hb hU iX0 hown hK hP 9 rfl rfl 0 (by decide) (hU _ mU_124) (fun _ h9 => h9) rfl dX4_arePlaces_29 ?_
        refine lv_iconst (v := nI 1) hx hb dX4_arePlaces_32 (by decide) ?_
        refine va_aldq hx hb hK hP 10 5 rfl rfl (vp_in_nI (n := 1) (by decide) (by decide)) dX4_arePlaces_33 ?_
        refine W.eq (g2 := F0 m 34 ls [.ref (ad 16), .int (nI pb)]) (by rw [nI_clamp (show 1 < 2 ^ 31 by decide)]; rfl) ?_
        refine va_get (D := D) (ci := 1) (v := .int (nI (f 11))) (C := RX1) (T := TX1) (N := 3) hx hb hU iX1 hown hK hP 16 rfl rfl 0 (by decide) (hU _ mU_125) (fun _ h9 => h9) rfl dX4_arePlaces_34 ?_
        refine lv_icmp_gt (tgt := 44) hx hb dX4_arePlaces_37 (by decide) (fun c37_4 => ?_) (fun c37_4 => ?_)
        · have c37_4 : (f 11 < pb ∧ (2147483648 ≤ f 11 ∨ pb < 2147483648)) ∨ (2147483648 ≤ f 11 ∧ pb < 2147483648) := (nI_ltG (a := f 11) (b := pb) (by omega) (by omega)).mp c37_4
          refine lv_iconst (v := nI 0) hx hb dX4_arePlaces_44 (by decide) ?_
          subst hQ
          exact rtz hx hb hr hlocks rfl rfl (bP_0 (by omega)) dX4_arePlaces_45
        · have c37_4 : ¬ ((f 11 < pb ∧ (2147483648 ≤ f 11 ∨ pb < 2147483648)) ∨ (2147483648 ≤ f 11 ∧ pb < 2147483648)) := fun h9 => c37_4 ((nI_ltG (a := f 11) (b := pb) (by omega) (by omega)).mpr h9)
          refine lv_iconst (v := nI 1) hx hb dX4_arePlaces_40 (by decide) ?_
          refine lv_goto (tgt := 45) hx hb dX4_arePlaces_41 (by decide) ?_
          subst hQ
          exact rtz hx hb hr hlocks rfl rfl (bP_1 (by omega)) dX4_arePlaces_45

set_option maxHeartbeats 4000000 in
set_option maxRecDepth 100000 in
theorem c_X4_about (l : Launch) (D : va_G) (ad : Nat → Nat) (ka : Nat → ClassId) (L : Nat) (f : Nat → Nat) (g : Nat → Nat → Nat) (wt : Nat) (hwt9 : wt < 4294967296) (h9 : f 9 < 2) : Met l yX4_about (.code yX4_about cX4_about 2 (some .int) :: wsL_law) ({ frames := 1, cells := 0, slots := 0, locals := 20 }) (va_Pc [.ref (ad 0), .int (nI wt)] (PR D (xW ad ka L f g) (xT ka))) (QrI (nI (aboutC f g wt))) 0 0 (fun _ => False) := by
  refine Met.ofW (cc := cX4_about) (maxL := 2) (ret := (some .int)) (by decide) rfl ?_
  intro p e s m args below meth c s₁ B hml hv
  obtain ⟨rfl, hP, hK⟩ := hv
  have hx := B.exec
  have hb := B.bytes
  have hr := B.returns
  have hts := atoms_spec (ws := .code yX4_about cX4_about 2 (some .int) :: wsL_law) B.pre
  have hU : ∀ w ∈ wsL_law, w.before _ s = true := fun w h => hts w (List.mem_cons_of_mem _ h)
  have hown : s.vm.findClass RX4 = some m.cls := findClass_of_methodNamed B.named
  have hlocks := B.notSynchronized
  generalize hQ : MQ _ _ _ _ _ _ _ = Q
  have hl := lv_entry ([.ref (ad 0), .int (nI wt)]) (n := 2) (Nat.le_of_ble_eq_true rfl)
  rw [lg_entry_eq]
  generalize (lg_sl ([.ref (ad 0), .int (nI wt)]) ++ List.replicate (2 - (lg_sl ([.ref (ad 0), .int (nI wt)])).length) Slot.unset).toArray = ls at hl ⊢
  have hl : lv_has ls 2 [(0, .ref (ad 0)), (1, .int (nI wt))] := hl
  refine lv_iload_n hx hb dX4_about_0 rfl (lv_at hl 1 rfl) ?_
  refine cSi (As := [.int (nI wt)]) (rest := []) ⟨hx, hb, hml, hown, hts⟩ (c_X4_isHost l  wt (by omega)) (va_cwS 1 hts (gS mU_126 mU_127 mU_3 mU_128) rfl rfl rfl (by decide +kernel) ⟨Nat.le_of_ble_eq_true rfl, Nat.le_of_ble_eq_true rfl⟩) fbU (fun _ _ _ => trivial) rfl hl.1 rfl (Nat.le_of_ble_eq_true rfl) dX4_about_1 ⟨Nat.zero_le _, Nat.zero_le _⟩ ?_
  refine lv_if_eq (tgt := 20) hx hb dX4_about_4 (by decide) (fun c4_1 => ?_) (fun c4_1 => ?_)
  · have c4_1 : ¬ (wt ≤ 1) := bP_f c4_1
    refine lv_iload_n hx hb dX4_about_20 rfl (lv_at hl 1 rfl) ?_
    refine lv_iconst (v := nI 2) hx hb dX4_about_21 (by decide) ?_
    refine lv_icmp_ne (tgt := 30) hx hb dX4_about_22 (by decide) (fun c22_2 => ?_) (fun c22_2 => ?_)
    · have c22_2 : ¬ (wt = 2) := fun h9 => c22_2 ((nI_eqG (a := wt) (b := 2) (by omega) (by omega)).mpr h9)
      refine lv_iload_n hx hb dX4_about_30 rfl (lv_at hl 1 rfl) ?_
      refine lv_iconst (v := nI 3) hx hb dX4_about_31 (by decide) ?_
      refine lv_icmp_ne (tgt := 51) hx hb dX4_about_32 (by decide) (fun c32_3 => ?_) (fun c32_3 => ?_)
      · have c32_3 : ¬ (wt = 3) := fun h9 => c32_3 ((nI_eqG (a := wt) (b := 3) (by omega) (by omega)).mpr h9)
        refine lv_iload_n hx hb dX4_about_51 rfl (lv_at hl 1 rfl) ?_
        refine lv_bipush (v := nI 10) hx hb dX4_about_52 (by decide) ?_
        refine lv_icmp_lt (tgt := 76) hx hb dX4_about_54 (by decide) (fun c54_4 => ?_) (fun c54_4 => ?_)
        · have c54_4 : (wt < 10 ∧ (2147483648 ≤ wt ∨ 10 < 2147483648)) ∨ (2147483648 ≤ wt ∧ 10 < 2147483648) := (nI_ltG (a := wt) (b := 10) (by omega) (by omega)).mp c54_4
          refine lv_iload_n hx hb dX4_about_76 rfl (lv_at hl 1 rfl) ?_
          refine lv_bipush (v := nI 20) hx hb dX4_about_77 (by decide) ?_
          refine lv_icmp_lt (tgt := 101) hx hb dX4_about_79 (by decide) (fun c79_5 => ?_) (fun c79_5 => ?_)
          · have c79_5 : (wt < 20 ∧ (2147483648 ≤ wt ∨ 20 < 2147483648)) ∨ (2147483648 ≤ wt ∧ 20 < 2147483648) := (nI_ltG (a := wt) (b := 20) (by omega) (by omega)).mp c79_5
            refine lv_iconst (v := nI 4294967295) hx hb dX4_about_101 (by decide) ?_
            subst hQ
            exact rti hx hb hr hlocks rfl (by first | (exfalso; omega) | (unfold aboutC; (repeat (first | rw [if_pos (by omega)] | rw [if_neg (by omega)])); try rfl)) dX4_about_102
          · have c79_5 : ¬ ((wt < 20 ∧ (2147483648 ≤ wt ∨ 20 < 2147483648)) ∨ (2147483648 ≤ wt ∧ 20 < 2147483648)) := fun h9 => c79_5 ((nI_ltG (a := wt) (b := 20) (by omega) (by omega)).mpr h9)
            refine lv_iload_n hx hb dX4_about_82 rfl (lv_at hl 1 rfl) ?_
            refine lv_bipush (v := nI 24) hx hb dX4_about_83 (by decide) ?_
            refine lv_icmp_ge (tgt := 101) hx hb dX4_about_85 (by decide) (fun c85_6 => ?_) (fun c85_6 => ?_)
            · have c85_6 : (24 ≤ wt ∧ (2147483648 ≤ 24 ∨ wt < 2147483648)) ∨ (2147483648 ≤ 24 ∧ wt < 2147483648) := (nI_leG (a := 24) (b := wt) (by omega) (by omega)).mp c85_6
              refine lv_iconst (v := nI 4294967295) hx hb dX4_about_101 (by decide) ?_
              subst hQ
              exact rti hx hb hr hlocks rfl (by first | (exfalso; omega) | (unfold aboutC; (repeat (first | rw [if_pos (by omega)] | rw [if_neg (by omega)])); try rfl)) dX4_about_102
            · have c85_6 : ¬ ((24 ≤ wt ∧ (2147483648 ≤ 24 ∨ wt < 2147483648)) ∨ (2147483648 ≤ 24 ∧ wt < 2147483648)) := fun h9 => c85_6 ((nI_leG (a := 24) (b := wt) (by omega) (by omega)).mpr h9)
              refine lv_aload_n hx hb dX4_about_88 rfl (lv_at hl 0 rfl) ?_
              refine va_get (D := D) (ci := 4) (v := .ref (ad 9)) (C := RX4) (T := TX4) (N := 10) hx hb hU iX4 hown hK hP 0 rfl rfl 5 (by decide) (hU _ mU_28) (fun _ h9 => h9) rfl dX4_about_89 ?_
              refine va_get (D := D) (ci := 0) (v := .ref (ad 12)) (C := RX0) (T := TX0) (N := 4) hx hb hU iX0 hown hK hP 9 rfl rfl 2 (by decide) (hU _ mU_306) (fun _ h9 => h9) rfl dX4_about_92 ?_
              refine lv_iload_n hx hb dX4_about_95 rfl (lv_at hl 1 rfl) ?_
              refine lv_bipush (v := nI 20) hx hb dX4_about_96 (by decide) ?_
              refine lv_isub hx hb dX4_about_98 ?_
              refine lv_topE (nI (wt - 20)) (pk_sub (by omega)) ?_
              refine n_iald hx hb hK hP 12 7 rfl rfl (i := wt - 20) (by omega) (by decide) dX4_about_99 ?_
              subst hQ
              exact rti hx hb hr hlocks rfl (by first | (exfalso; omega) | (unfold aboutC; (repeat (first | rw [if_pos (by omega)] | rw [if_neg (by omega)])); try rfl)) dX4_about_100
        · have c54_4 : ¬ ((wt < 10 ∧ (2147483648 ≤ wt ∨ 10 < 2147483648)) ∨ (2147483648 ≤ wt ∧ 10 < 2147483648)) := fun h9 => c54_4 ((nI_ltG (a := wt) (b := 10) (by omega) (by omega)).mpr h9)
          refine lv_iload_n hx hb dX4_about_57 rfl (lv_at hl 1 rfl) ?_
          refine lv_bipush (v := nI 14) hx hb dX4_about_58 (by decide) ?_
          refine lv_icmp_ge (tgt := 76) hx hb dX4_about_60 (by decide) (fun c60_7 => ?_) (fun c60_7 => ?_)
          · have c60_7 : (14 ≤ wt ∧ (2147483648 ≤ 14 ∨ wt < 2147483648)) ∨ (2147483648 ≤ 14 ∧ wt < 2147483648) := (nI_leG (a := 14) (b := wt) (by omega) (by omega)).mp c60_7
            refine lv_iload_n hx hb dX4_about_76 rfl (lv_at hl 1 rfl) ?_
            refine lv_bipush (v := nI 20) hx hb dX4_about_77 (by decide) ?_
            refine lv_icmp_lt (tgt := 101) hx hb dX4_about_79 (by decide) (fun c79_8 => ?_) (fun c79_8 => ?_)
            · have c79_8 : (wt < 20 ∧ (2147483648 ≤ wt ∨ 20 < 2147483648)) ∨ (2147483648 ≤ wt ∧ 20 < 2147483648) := (nI_ltG (a := wt) (b := 20) (by omega) (by omega)).mp c79_8
              refine lv_iconst (v := nI 4294967295) hx hb dX4_about_101 (by decide) ?_
              subst hQ
              exact rti hx hb hr hlocks rfl (by first | (exfalso; omega) | (unfold aboutC; (repeat (first | rw [if_pos (by omega)] | rw [if_neg (by omega)])); try rfl)) dX4_about_102
            · have c79_8 : ¬ ((wt < 20 ∧ (2147483648 ≤ wt ∨ 20 < 2147483648)) ∨ (2147483648 ≤ wt ∧ 20 < 2147483648)) := fun h9 => c79_8 ((nI_ltG (a := wt) (b := 20) (by omega) (by omega)).mpr h9)
              refine lv_iload_n hx hb dX4_about_82 rfl (lv_at hl 1 rfl) ?_
              refine lv_bipush (v := nI 24) hx hb dX4_about_83 (by decide) ?_
              refine lv_icmp_ge (tgt := 101) hx hb dX4_about_85 (by decide) (fun c85_9 => ?_) (fun c85_9 => ?_)
              · have c85_9 : (24 ≤ wt ∧ (2147483648 ≤ 24 ∨ wt < 2147483648)) ∨ (2147483648 ≤ 24 ∧ wt < 2147483648) := (nI_leG (a := 24) (b := wt) (by omega) (by omega)).mp c85_9
                refine lv_iconst (v := nI 4294967295) hx hb dX4_about_101 (by decide) ?_
                subst hQ
                exact rti hx hb hr hlocks rfl (by first | (exfalso; omega) | (unfold aboutC; (repeat (first | rw [if_pos (by omega)] | rw [if_neg (by omega)])); try rfl)) dX4_about_102
              · have c85_9 : ¬ ((24 ≤ wt ∧ (2147483648 ≤ 24 ∨ wt < 2147483648)) ∨ (2147483648 ≤ 24 ∧ wt < 2147483648)) := fun h9 => c85_9 ((nI_leG (a := 24) (b := wt) (by omega) (by omega)).mpr h9)
                refine lv_aload_n hx hb dX4_about_88 rfl (lv_at hl 0 rfl) ?_
                refine va_get (D := D) (ci := 4) (v := .ref (ad 9)) (C := RX4) (T := TX4) (N := 10) hx hb hU iX4 hown hK hP 0 rfl rfl 5 (by decide) (hU _ mU_28) (fun _ h9 => h9) rfl dX4_about_89 ?_
                refine va_get (D := D) (ci := 0) (v := .ref (ad 12)) (C := RX0) (T := TX0) (N := 4) hx hb hU iX0 hown hK hP 9 rfl rfl 2 (by decide) (hU _ mU_306) (fun _ h9 => h9) rfl dX4_about_92 ?_
                refine lv_iload_n hx hb dX4_about_95 rfl (lv_at hl 1 rfl) ?_
                refine lv_bipush (v := nI 20) hx hb dX4_about_96 (by decide) ?_
                refine lv_isub hx hb dX4_about_98 ?_
                refine lv_topE (nI (wt - 20)) (pk_sub (by omega)) ?_
                refine n_iald hx hb hK hP 12 7 rfl rfl (i := wt - 20) (by omega) (by decide) dX4_about_99 ?_
                subst hQ
                exact rti hx hb hr hlocks rfl (by first | (exfalso; omega) | (unfold aboutC; (repeat (first | rw [if_pos (by omega)] | rw [if_neg (by omega)])); try rfl)) dX4_about_100
          · have c60_7 : ¬ ((14 ≤ wt ∧ (2147483648 ≤ 14 ∨ wt < 2147483648)) ∨ (2147483648 ≤ 14 ∧ wt < 2147483648)) := fun h9 => c60_7 ((nI_leG (a := 14) (b := wt) (by omega) (by omega)).mpr h9)
            refine lv_aload_n hx hb dX4_about_63 rfl (lv_at hl 0 rfl) ?_
            refine va_get (D := D) (ci := 4) (v := .ref (ad 9)) (C := RX4) (T := TX4) (N := 10) hx hb hU iX4 hown hK hP 0 rfl rfl 5 (by decide) (hU _ mU_28) (fun _ h9 => h9) rfl dX4_about_64 ?_
            refine va_get (D := D) (ci := 0) (v := .ref (ad 11)) (C := RX0) (T := TX0) (N := 4) hx hb hU iX0 hown hK hP 9 rfl rfl 1 (by decide) (hU _ mU_305) (fun _ h9 => h9) rfl dX4_about_67 ?_
            refine lv_iload_n hx hb dX4_about_70 rfl (lv_at hl 1 rfl) ?_
            refine lv_bipush (v := nI 10) hx hb dX4_about_71 (by decide) ?_
            refine lv_isub hx hb dX4_about_73 ?_
            refine lv_topE (nI (wt - 10)) (pk_sub (by omega)) ?_
            refine n_iald hx hb hK hP 11 6 rfl rfl (i := wt - 10) (by omega) (by decide) dX4_about_74 ?_
            subst hQ
            exact rti hx hb hr hlocks rfl (by first | (exfalso; omega) | (unfold aboutC; (repeat (first | rw [if_pos (by omega)] | rw [if_neg (by omega)])); try rfl)) dX4_about_75
      · have c32_3 : wt = 3 := (nI_eqG (a := wt) (b := 3) (by omega) (by omega)).mp c32_3
        refine lv_aload_n hx hb dX4_about_35 rfl (lv_at hl 0 rfl) ?_
        refine va_get (D := D) (ci := 4) (v := .ref (ad 9)) (C := RX4) (T := TX4) (N := 10) hx hb hU iX4 hown hK hP 0 rfl rfl 5 (by decide) (hU _ mU_28) (fun _ h9 => h9) rfl dX4_about_36 ?_
        refine va_get (D := D) (ci := 0) (v := .int (nI (f 9))) (C := RX0) (T := TX0) (N := 4) hx hb hU iX0 hown hK hP 9 rfl rfl 3 (by decide) (hU _ mU_315) (fun _ h9 => h9) rfl dX4_about_39 ?_
        refine lv_if_eq (tgt := 49) hx hb dX4_about_42 (by decide) (fun c42_10 => ?_) (fun c42_10 => ?_)
        · have c42_10 : f 9 = 0 := (nI_eqG (a := f 9) (b := 0) (by omega) (by omega)).mp c42_10
          refine lv_iconst (v := nI 0) hx hb dX4_about_49 (by decide) ?_
          subst hQ
          exact rti hx hb hr hlocks rfl (by first | (exfalso; omega) | (unfold aboutC; (repeat (first | rw [if_pos (by omega)] | rw [if_neg (by omega)])); try rfl)) dX4_about_50
        · have c42_10 : ¬ (f 9 = 0) := fun h9 => c42_10 ((nI_eqG (a := f 9) (b := 0) (by omega) (by omega)).mpr h9)
          refine lv_iconst (v := nI 1) hx hb dX4_about_45 (by decide) ?_
          refine lv_goto (tgt := 50) hx hb dX4_about_46 (by decide) ?_
          subst hQ
          exact rti hx hb hr hlocks rfl (by first | (exfalso; omega) | (unfold aboutC; (repeat (first | rw [if_pos (by omega)] | rw [if_neg (by omega)])); try rfl)) dX4_about_50
    · have c22_2 : wt = 2 := (nI_eqG (a := wt) (b := 2) (by omega) (by omega)).mp c22_2
      refine lv_aload_n hx hb dX4_about_25 rfl (lv_at hl 0 rfl) ?_
      refine va_get (D := D) (ci := 4) (v := .int (nI (f 0))) (C := RX4) (T := TX4) (N := 10) hx hb hU iX4 hown hK hP 0 rfl rfl 1 (by decide) (hU _ mU_15) (fun _ h9 => h9) rfl dX4_about_26 ?_
      subst hQ
      exact rti hx hb hr hlocks rfl (by first | (exfalso; omega) | (unfold aboutC; (repeat (first | rw [if_pos (by omega)] | rw [if_neg (by omega)])); try rfl)) dX4_about_29
  · have c4_1 : wt ≤ 1 := bP_t c4_1
    rcases (show wt = 0 ∨ wt = 1 from by omega) with rfl | rfl
    · have hl : lv_has ls 2 [(0, .ref (ad 0)), (1, .int (nI 0))] := hl
      refine lv_aload_n hx hb dX4_about_7 rfl (lv_at hl 0 rfl) ?_
      refine va_get (D := D) (ci := 4) (v := .ref (ad 9)) (C := RX4) (T := TX4) (N := 10) hx hb hU iX4 hown hK hP 0 rfl rfl 5 (by decide) (hU _ mU_28) (fun _ h9 => h9) rfl dX4_about_8 ?_
      refine va_get (D := D) (ci := 0) (v := .ref (ad 10)) (C := RX0) (T := TX0) (N := 4) hx hb hU iX0 hown hK hP 9 rfl rfl 0 (by decide) (hU _ mU_124) (fun _ h9 => h9) rfl dX4_about_11 ?_
      refine lv_iload_n hx hb dX4_about_14 rfl (lv_at hl 1 rfl) ?_
      refine va_aldq hx hb hK hP 10 5 rfl rfl (vp_in_nI (n := 0) (by decide) (by decide)) dX4_about_15 ?_
      refine W.eq (g2 := F0 m 16 ls [.ref (ad 13)]) (by rw [nI_clamp (show 0 < 2 ^ 31 by decide)]; rfl) ?_
      refine va_get (D := D) (ci := 1) (v := .int (nI (f 10))) (C := RX1) (T := TX1) (N := 3) hx hb hU iX1 hown hK hP 13 rfl rfl 0 (by decide) (hU _ mU_125) (fun _ h9 => h9) rfl dX4_about_16 ?_
      subst hQ
      exact rti hx hb hr hlocks rfl (by first | (exfalso; omega) | (unfold aboutC; (repeat (first | rw [if_pos (by omega)] | rw [if_neg (by omega)])); try rfl)) dX4_about_19
    · have hl : lv_has ls 2 [(0, .ref (ad 0)), (1, .int (nI 1))] := hl
      refine lv_aload_n hx hb dX4_about_7 rfl (lv_at hl 0 rfl) ?_
      refine va_get (D := D) (ci := 4) (v := .ref (ad 9)) (C := RX4) (T := TX4) (N := 10) hx hb hU iX4 hown hK hP 0 rfl rfl 5 (by decide) (hU _ mU_28) (fun _ h9 => h9) rfl dX4_about_8 ?_
      refine va_get (D := D) (ci := 0) (v := .ref (ad 10)) (C := RX0) (T := TX0) (N := 4) hx hb hU iX0 hown hK hP 9 rfl rfl 0 (by decide) (hU _ mU_124) (fun _ h9 => h9) rfl dX4_about_11 ?_
      refine lv_iload_n hx hb dX4_about_14 rfl (lv_at hl 1 rfl) ?_
      refine va_aldq hx hb hK hP 10 5 rfl rfl (vp_in_nI (n := 1) (by decide) (by decide)) dX4_about_15 ?_
      refine W.eq (g2 := F0 m 16 ls [.ref (ad 16)]) (by rw [nI_clamp (show 1 < 2 ^ 31 by decide)]; rfl) ?_
      refine va_get (D := D) (ci := 1) (v := .int (nI (f 11))) (C := RX1) (T := TX1) (N := 3) hx hb hU iX1 hown hK hP 16 rfl rfl 0 (by decide) (hU _ mU_125) (fun _ h9 => h9) rfl dX4_about_16 ?_
      subst hQ
      exact rti hx hb hr hlocks rfl (by first | (exfalso; omega) | (unfold aboutC; (repeat (first | rw [if_pos (by omega)] | rw [if_neg (by omega)])); try rfl)) dX4_about_19

set_option maxHeartbeats 4000000 in
set_option maxRecDepth 100000 in
theorem c_X4_wordsMask (l : Launch) (se : Nat) (hse : se < 16) : Met l yX4_wordsMask (.code yX4_wordsMask cX4_wordsMask 4 (some .long) :: wsL_law) ({ frames := 0, cells := 0, slots := 0, locals := 0 }) (va_Pc [.int (nI se)] PU) (QrL (lN (wmC se))) 0 0 (fun _ => False) := by
  refine Met.ofW (cc := cX4_wordsMask) (maxL := 4) (ret := (some .long)) (by decide) rfl ?_
  intro p e s m args below meth c s₁ B hml hv
  obtain ⟨rfl, hv⟩ := hv
  have hx := B.exec
  have hb := B.bytes
  have hr := B.returns
  have hts := atoms_spec (ws := .code yX4_wordsMask cX4_wordsMask 4 (some .long) :: wsL_law) B.pre
  have hU : ∀ w ∈ wsL_law, w.before _ s = true := fun w h => hts w (List.mem_cons_of_mem _ h)
  have hown : s.vm.findClass RX4 = some m.cls := findClass_of_methodNamed B.named
  have hlocks := B.notSynchronized
  generalize hQ : MQ _ _ _ _ _ _ _ = Q
  have hl := lv_entry ([.int (nI se)]) (n := 4) (Nat.le_of_ble_eq_true rfl)
  rw [lg_entry_eq]
  generalize (lg_sl ([.int (nI se)]) ++ List.replicate (4 - (lg_sl ([.int (nI se)])).length) Slot.unset).toArray = ls at hl ⊢
  have hl : lv_has ls 4 [(0, .int (nI se))] := hl
  refine lv_lconst (v := lN 0) hx hb dX4_wordsMask_0 rfl ?_
  refine lv_lstore_n (lv' := [(1, .long (lN 0)), (0, .int (nI se))]) hx hb dX4_wordsMask_1 rfl hl (by decide) rfl (fun ls hl => ?_)
  refine lv_iconst (v := nI 0) hx hb dX4_wordsMask_2 (by decide) ?_
  refine lv_istore_n (lv' := [(3, .int (nI 0)), (1, .long (lN 0)), (0, .int (nI se))]) hx hb dX4_wordsMask_3 rfl hl (by decide) rfl (fun ls hl => ?_)
  refine lv_iload_n hx hb dX4_wordsMask_4 rfl (lv_at hl 0 rfl) ?_
  refine lv_iconst (v := nI 4) hx hb dX4_wordsMask_5 (by decide) ?_
  refine lv_icmp_ge (tgt := 33) hx hb dX4_wordsMask_6 (by decide) (fun c6_1 => by first | exact absurd c6_1 (by decide) | exact absurd (by decide) c6_1) (fun c6_1 => ?_)
  refine lv_iload_n hx hb dX4_wordsMask_9 rfl (lv_at hl 2 rfl) ?_
  refine lv_iload_n hx hb dX4_wordsMask_10 rfl (lv_at hl 0 rfl) ?_
  refine lv_ishr hx hb dX4_wordsMask_11 ?_
  refine lv_topE (nI (se / 2 ^ 0)) (z_shr32 (by omega) (by decide)) ?_
  refine lv_iconst (v := nI 1) hx hb dX4_wordsMask_12 (by decide) ?_
  refine lv_iand hx hb dX4_wordsMask_13 ?_
  refine lv_topE (nI (se / 2 ^ 0 % 2)) (fa_mask _ 1) ?_
  refine lv_if_eq (tgt := 27) hx hb dX4_wordsMask_14 (by decide) (fun c14_2 => ?_) (fun c14_2 => ?_)
  · have c14_2 : se / 2 ^ 0 % 2 = 0 := (nI_eqG (a := se / 2 ^ 0 % 2) (b := 0) (by omega) (by omega)).mp c14_2
    refine lv_iinc (v := nI 1) (lv' := [(3, .int (nI 1)), (1, .long (lN 0)), (0, .int (nI se))]) hx hb dX4_wordsMask_27 hl (k := 0) rfl (by decide) (by decide) rfl (fun ls hl => ?_)
    refine lv_goto (tgt := 4) hx hb dX4_wordsMask_30 (by decide) ?_
    refine lv_iload_n hx hb dX4_wordsMask_4 rfl (lv_at hl 0 rfl) ?_
    refine lv_iconst (v := nI 4) hx hb dX4_wordsMask_5 (by decide) ?_
    refine lv_icmp_ge (tgt := 33) hx hb dX4_wordsMask_6 (by decide) (fun c6_3 => by first | exact absurd c6_3 (by decide) | exact absurd (by decide) c6_3) (fun c6_3 => ?_)
    refine lv_iload_n hx hb dX4_wordsMask_9 rfl (lv_at hl 2 rfl) ?_
    refine lv_iload_n hx hb dX4_wordsMask_10 rfl (lv_at hl 0 rfl) ?_
    refine lv_ishr hx hb dX4_wordsMask_11 ?_
    refine lv_topE (nI (se / 2 ^ 1)) (z_shr32 (by omega) (by decide)) ?_
    refine lv_iconst (v := nI 1) hx hb dX4_wordsMask_12 (by decide) ?_
    refine lv_iand hx hb dX4_wordsMask_13 ?_
    refine lv_topE (nI (se / 2 ^ 1 % 2)) (fa_mask _ 1) ?_
    refine lv_if_eq (tgt := 27) hx hb dX4_wordsMask_14 (by decide) (fun c14_4 => ?_) (fun c14_4 => ?_)
    · have c14_4 : se / 2 ^ 1 % 2 = 0 := (nI_eqG (a := se / 2 ^ 1 % 2) (b := 0) (by omega) (by omega)).mp c14_4
      refine lv_iinc (v := nI 2) (lv' := [(3, .int (nI 2)), (1, .long (lN 0)), (0, .int (nI se))]) hx hb dX4_wordsMask_27 hl (k := 0) rfl (by decide) (by decide) rfl (fun ls hl => ?_)
      refine lv_goto (tgt := 4) hx hb dX4_wordsMask_30 (by decide) ?_
      refine lv_iload_n hx hb dX4_wordsMask_4 rfl (lv_at hl 0 rfl) ?_
      refine lv_iconst (v := nI 4) hx hb dX4_wordsMask_5 (by decide) ?_
      refine lv_icmp_ge (tgt := 33) hx hb dX4_wordsMask_6 (by decide) (fun c6_5 => by first | exact absurd c6_5 (by decide) | exact absurd (by decide) c6_5) (fun c6_5 => ?_)
      refine lv_iload_n hx hb dX4_wordsMask_9 rfl (lv_at hl 2 rfl) ?_
      refine lv_iload_n hx hb dX4_wordsMask_10 rfl (lv_at hl 0 rfl) ?_
      refine lv_ishr hx hb dX4_wordsMask_11 ?_
      refine lv_topE (nI (se / 2 ^ 2)) (z_shr32 (by omega) (by decide)) ?_
      refine lv_iconst (v := nI 1) hx hb dX4_wordsMask_12 (by decide) ?_
      refine lv_iand hx hb dX4_wordsMask_13 ?_
      refine lv_topE (nI (se / 2 ^ 2 % 2)) (fa_mask _ 1) ?_
      refine lv_if_eq (tgt := 27) hx hb dX4_wordsMask_14 (by decide) (fun c14_6 => ?_) (fun c14_6 => ?_)
      · have c14_6 : se / 2 ^ 2 % 2 = 0 := (nI_eqG (a := se / 2 ^ 2 % 2) (b := 0) (by omega) (by omega)).mp c14_6
        refine lv_iinc (v := nI 3) (lv' := [(3, .int (nI 3)), (1, .long (lN 0)), (0, .int (nI se))]) hx hb dX4_wordsMask_27 hl (k := 0) rfl (by decide) (by decide) rfl (fun ls hl => ?_)
        refine lv_goto (tgt := 4) hx hb dX4_wordsMask_30 (by decide) ?_
        refine lv_iload_n hx hb dX4_wordsMask_4 rfl (lv_at hl 0 rfl) ?_
        refine lv_iconst (v := nI 4) hx hb dX4_wordsMask_5 (by decide) ?_
        refine lv_icmp_ge (tgt := 33) hx hb dX4_wordsMask_6 (by decide) (fun c6_7 => by first | exact absurd c6_7 (by decide) | exact absurd (by decide) c6_7) (fun c6_7 => ?_)
        refine lv_iload_n hx hb dX4_wordsMask_9 rfl (lv_at hl 2 rfl) ?_
        refine lv_iload_n hx hb dX4_wordsMask_10 rfl (lv_at hl 0 rfl) ?_
        refine lv_ishr hx hb dX4_wordsMask_11 ?_
        refine lv_topE (nI (se / 2 ^ 3)) (z_shr32 (by omega) (by decide)) ?_
        refine lv_iconst (v := nI 1) hx hb dX4_wordsMask_12 (by decide) ?_
        refine lv_iand hx hb dX4_wordsMask_13 ?_
        refine lv_topE (nI (se / 2 ^ 3 % 2)) (fa_mask _ 1) ?_
        refine lv_if_eq (tgt := 27) hx hb dX4_wordsMask_14 (by decide) (fun c14_8 => ?_) (fun c14_8 => ?_)
        · have c14_8 : se / 2 ^ 3 % 2 = 0 := (nI_eqG (a := se / 2 ^ 3 % 2) (b := 0) (by omega) (by omega)).mp c14_8
          refine lv_iinc (v := nI 4) (lv' := [(3, .int (nI 4)), (1, .long (lN 0)), (0, .int (nI se))]) hx hb dX4_wordsMask_27 hl (k := 0) rfl (by decide) (by decide) rfl (fun ls hl => ?_)
          refine lv_goto (tgt := 4) hx hb dX4_wordsMask_30 (by decide) ?_
          refine lv_iload_n hx hb dX4_wordsMask_4 rfl (lv_at hl 0 rfl) ?_
          refine lv_iconst (v := nI 4) hx hb dX4_wordsMask_5 (by decide) ?_
          refine lv_icmp_ge (tgt := 33) hx hb dX4_wordsMask_6 (by decide) (fun c6_9 => ?_) (fun c6_9 => by first | exact absurd (by decide) c6_9 | exact absurd c6_9 (by decide))
          refine lv_lload_n hx hb dX4_wordsMask_33 rfl (lv_at hl 1 rfl) ?_
          subst hQ
          exact rtl hx hb hr hlocks rfl (congrArg lN (by unfold wmC; omega)) dX4_wordsMask_34
        · have c14_8 : ¬ (se / 2 ^ 3 % 2 = 0) := fun h9 => c14_8 ((nI_eqG (a := se / 2 ^ 3 % 2) (b := 0) (by omega) (by omega)).mpr h9)
          refine lv_lload_n hx hb dX4_wordsMask_17 rfl (lv_at hl 1 rfl) ?_
          refine lv_ldc2 (v := (3)) hx hb hown (hU _ mU_581) dX4_wordsMask_18 ?_
          refine lv_topEl (lN 3) (by decide) ?_
          refine lv_iconst (v := nI 2) hx hb dX4_wordsMask_21 (by decide) ?_
          refine lv_iload_n hx hb dX4_wordsMask_22 rfl (lv_at hl 0 rfl) ?_
          refine lv_imul hx hb dX4_wordsMask_23 ?_
          refine lv_topE (nI 6) (pk_mul _ _) ?_
          refine lv_lshl hx hb dX4_wordsMask_24 rfl ?_
          refine lv_topEl (lN 192) (by decide) ?_
          refine lv_lor hx hb dX4_wordsMask_25 ?_
          refine lv_topEl (lN 192) (by decide) ?_
          refine lv_lstore_n (lv' := [(1, .long (lN 192)), (3, .int (nI 3)), (0, .int (nI se))]) hx hb dX4_wordsMask_26 rfl hl (by decide) rfl (fun ls hl => ?_)
          refine lv_iinc (v := nI 4) (lv' := [(3, .int (nI 4)), (1, .long (lN 192)), (0, .int (nI se))]) hx hb dX4_wordsMask_27 hl (k := 1) rfl (by decide) (by decide) rfl (fun ls hl => ?_)
          refine lv_goto (tgt := 4) hx hb dX4_wordsMask_30 (by decide) ?_
          refine lv_iload_n hx hb dX4_wordsMask_4 rfl (lv_at hl 0 rfl) ?_
          refine lv_iconst (v := nI 4) hx hb dX4_wordsMask_5 (by decide) ?_
          refine lv_icmp_ge (tgt := 33) hx hb dX4_wordsMask_6 (by decide) (fun c6_10 => ?_) (fun c6_10 => by first | exact absurd (by decide) c6_10 | exact absurd c6_10 (by decide))
          refine lv_lload_n hx hb dX4_wordsMask_33 rfl (lv_at hl 1 rfl) ?_
          subst hQ
          exact rtl hx hb hr hlocks rfl (congrArg lN (by unfold wmC; omega)) dX4_wordsMask_34
      · have c14_6 : ¬ (se / 2 ^ 2 % 2 = 0) := fun h9 => c14_6 ((nI_eqG (a := se / 2 ^ 2 % 2) (b := 0) (by omega) (by omega)).mpr h9)
        refine lv_lload_n hx hb dX4_wordsMask_17 rfl (lv_at hl 1 rfl) ?_
        refine lv_ldc2 (v := (3)) hx hb hown (hU _ mU_581) dX4_wordsMask_18 ?_
        refine lv_topEl (lN 3) (by decide) ?_
        refine lv_iconst (v := nI 2) hx hb dX4_wordsMask_21 (by decide) ?_
        refine lv_iload_n hx hb dX4_wordsMask_22 rfl (lv_at hl 0 rfl) ?_
        refine lv_imul hx hb dX4_wordsMask_23 ?_
        refine lv_topE (nI 4) (pk_mul _ _) ?_
        refine lv_lshl hx hb dX4_wordsMask_24 rfl ?_
        refine lv_topEl (lN 48) (by decide) ?_
        refine lv_lor hx hb dX4_wordsMask_25 ?_
        refine lv_topEl (lN 48) (by decide) ?_
        refine lv_lstore_n (lv' := [(1, .long (lN 48)), (3, .int (nI 2)), (0, .int (nI se))]) hx hb dX4_wordsMask_26 rfl hl (by decide) rfl (fun ls hl => ?_)
        refine lv_iinc (v := nI 3) (lv' := [(3, .int (nI 3)), (1, .long (lN 48)), (0, .int (nI se))]) hx hb dX4_wordsMask_27 hl (k := 1) rfl (by decide) (by decide) rfl (fun ls hl => ?_)
        refine lv_goto (tgt := 4) hx hb dX4_wordsMask_30 (by decide) ?_
        refine lv_iload_n hx hb dX4_wordsMask_4 rfl (lv_at hl 0 rfl) ?_
        refine lv_iconst (v := nI 4) hx hb dX4_wordsMask_5 (by decide) ?_
        refine lv_icmp_ge (tgt := 33) hx hb dX4_wordsMask_6 (by decide) (fun c6_11 => by first | exact absurd c6_11 (by decide) | exact absurd (by decide) c6_11) (fun c6_11 => ?_)
        refine lv_iload_n hx hb dX4_wordsMask_9 rfl (lv_at hl 2 rfl) ?_
        refine lv_iload_n hx hb dX4_wordsMask_10 rfl (lv_at hl 0 rfl) ?_
        refine lv_ishr hx hb dX4_wordsMask_11 ?_
        refine lv_topE (nI (se / 2 ^ 3)) (z_shr32 (by omega) (by decide)) ?_
        refine lv_iconst (v := nI 1) hx hb dX4_wordsMask_12 (by decide) ?_
        refine lv_iand hx hb dX4_wordsMask_13 ?_
        refine lv_topE (nI (se / 2 ^ 3 % 2)) (fa_mask _ 1) ?_
        refine lv_if_eq (tgt := 27) hx hb dX4_wordsMask_14 (by decide) (fun c14_12 => ?_) (fun c14_12 => ?_)
        · have c14_12 : se / 2 ^ 3 % 2 = 0 := (nI_eqG (a := se / 2 ^ 3 % 2) (b := 0) (by omega) (by omega)).mp c14_12
          refine lv_iinc (v := nI 4) (lv' := [(3, .int (nI 4)), (1, .long (lN 48)), (0, .int (nI se))]) hx hb dX4_wordsMask_27 hl (k := 0) rfl (by decide) (by decide) rfl (fun ls hl => ?_)
          refine lv_goto (tgt := 4) hx hb dX4_wordsMask_30 (by decide) ?_
          refine lv_iload_n hx hb dX4_wordsMask_4 rfl (lv_at hl 0 rfl) ?_
          refine lv_iconst (v := nI 4) hx hb dX4_wordsMask_5 (by decide) ?_
          refine lv_icmp_ge (tgt := 33) hx hb dX4_wordsMask_6 (by decide) (fun c6_13 => ?_) (fun c6_13 => by first | exact absurd (by decide) c6_13 | exact absurd c6_13 (by decide))
          refine lv_lload_n hx hb dX4_wordsMask_33 rfl (lv_at hl 1 rfl) ?_
          subst hQ
          exact rtl hx hb hr hlocks rfl (congrArg lN (by unfold wmC; omega)) dX4_wordsMask_34
        · have c14_12 : ¬ (se / 2 ^ 3 % 2 = 0) := fun h9 => c14_12 ((nI_eqG (a := se / 2 ^ 3 % 2) (b := 0) (by omega) (by omega)).mpr h9)
          refine lv_lload_n hx hb dX4_wordsMask_17 rfl (lv_at hl 1 rfl) ?_
          refine lv_ldc2 (v := (3)) hx hb hown (hU _ mU_581) dX4_wordsMask_18 ?_
          refine lv_topEl (lN 3) (by decide) ?_
          refine lv_iconst (v := nI 2) hx hb dX4_wordsMask_21 (by decide) ?_
          refine lv_iload_n hx hb dX4_wordsMask_22 rfl (lv_at hl 0 rfl) ?_
          refine lv_imul hx hb dX4_wordsMask_23 ?_
          refine lv_topE (nI 6) (pk_mul _ _) ?_
          refine lv_lshl hx hb dX4_wordsMask_24 rfl ?_
          refine lv_topEl (lN 192) (by decide) ?_
          refine lv_lor hx hb dX4_wordsMask_25 ?_
          refine lv_topEl (lN 240) (by decide) ?_
          refine lv_lstore_n (lv' := [(1, .long (lN 240)), (3, .int (nI 3)), (0, .int (nI se))]) hx hb dX4_wordsMask_26 rfl hl (by decide) rfl (fun ls hl => ?_)
          refine lv_iinc (v := nI 4) (lv' := [(3, .int (nI 4)), (1, .long (lN 240)), (0, .int (nI se))]) hx hb dX4_wordsMask_27 hl (k := 1) rfl (by decide) (by decide) rfl (fun ls hl => ?_)
          refine lv_goto (tgt := 4) hx hb dX4_wordsMask_30 (by decide) ?_
          refine lv_iload_n hx hb dX4_wordsMask_4 rfl (lv_at hl 0 rfl) ?_
          refine lv_iconst (v := nI 4) hx hb dX4_wordsMask_5 (by decide) ?_
          refine lv_icmp_ge (tgt := 33) hx hb dX4_wordsMask_6 (by decide) (fun c6_14 => ?_) (fun c6_14 => by first | exact absurd (by decide) c6_14 | exact absurd c6_14 (by decide))
          refine lv_lload_n hx hb dX4_wordsMask_33 rfl (lv_at hl 1 rfl) ?_
          subst hQ
          exact rtl hx hb hr hlocks rfl (congrArg lN (by unfold wmC; omega)) dX4_wordsMask_34
    · have c14_4 : ¬ (se / 2 ^ 1 % 2 = 0) := fun h9 => c14_4 ((nI_eqG (a := se / 2 ^ 1 % 2) (b := 0) (by omega) (by omega)).mpr h9)
      refine lv_lload_n hx hb dX4_wordsMask_17 rfl (lv_at hl 1 rfl) ?_
      refine lv_ldc2 (v := (3)) hx hb hown (hU _ mU_581) dX4_wordsMask_18 ?_
      refine lv_topEl (lN 3) (by decide) ?_
      refine lv_iconst (v := nI 2) hx hb dX4_wordsMask_21 (by decide) ?_
      refine lv_iload_n hx hb dX4_wordsMask_22 rfl (lv_at hl 0 rfl) ?_
      refine lv_imul hx hb dX4_wordsMask_23 ?_
      refine lv_topE (nI 2) (pk_mul _ _) ?_
      refine lv_lshl hx hb dX4_wordsMask_24 rfl ?_
      refine lv_topEl (lN 12) (by decide) ?_
      refine lv_lor hx hb dX4_wordsMask_25 ?_
      refine lv_topEl (lN 12) (by decide) ?_
      refine lv_lstore_n (lv' := [(1, .long (lN 12)), (3, .int (nI 1)), (0, .int (nI se))]) hx hb dX4_wordsMask_26 rfl hl (by decide) rfl (fun ls hl => ?_)
      refine lv_iinc (v := nI 2) (lv' := [(3, .int (nI 2)), (1, .long (lN 12)), (0, .int (nI se))]) hx hb dX4_wordsMask_27 hl (k := 1) rfl (by decide) (by decide) rfl (fun ls hl => ?_)
      refine lv_goto (tgt := 4) hx hb dX4_wordsMask_30 (by decide) ?_
      refine lv_iload_n hx hb dX4_wordsMask_4 rfl (lv_at hl 0 rfl) ?_
      refine lv_iconst (v := nI 4) hx hb dX4_wordsMask_5 (by decide) ?_
      refine lv_icmp_ge (tgt := 33) hx hb dX4_wordsMask_6 (by decide) (fun c6_15 => by first | exact absurd c6_15 (by decide) | exact absurd (by decide) c6_15) (fun c6_15 => ?_)
      refine lv_iload_n hx hb dX4_wordsMask_9 rfl (lv_at hl 2 rfl) ?_
      refine lv_iload_n hx hb dX4_wordsMask_10 rfl (lv_at hl 0 rfl) ?_
      refine lv_ishr hx hb dX4_wordsMask_11 ?_
      refine lv_topE (nI (se / 2 ^ 2)) (z_shr32 (by omega) (by decide)) ?_
      refine lv_iconst (v := nI 1) hx hb dX4_wordsMask_12 (by decide) ?_
      refine lv_iand hx hb dX4_wordsMask_13 ?_
      refine lv_topE (nI (se / 2 ^ 2 % 2)) (fa_mask _ 1) ?_
      refine lv_if_eq (tgt := 27) hx hb dX4_wordsMask_14 (by decide) (fun c14_16 => ?_) (fun c14_16 => ?_)
      · have c14_16 : se / 2 ^ 2 % 2 = 0 := (nI_eqG (a := se / 2 ^ 2 % 2) (b := 0) (by omega) (by omega)).mp c14_16
        refine lv_iinc (v := nI 3) (lv' := [(3, .int (nI 3)), (1, .long (lN 12)), (0, .int (nI se))]) hx hb dX4_wordsMask_27 hl (k := 0) rfl (by decide) (by decide) rfl (fun ls hl => ?_)
        refine lv_goto (tgt := 4) hx hb dX4_wordsMask_30 (by decide) ?_
        refine lv_iload_n hx hb dX4_wordsMask_4 rfl (lv_at hl 0 rfl) ?_
        refine lv_iconst (v := nI 4) hx hb dX4_wordsMask_5 (by decide) ?_
        refine lv_icmp_ge (tgt := 33) hx hb dX4_wordsMask_6 (by decide) (fun c6_17 => by first | exact absurd c6_17 (by decide) | exact absurd (by decide) c6_17) (fun c6_17 => ?_)
        refine lv_iload_n hx hb dX4_wordsMask_9 rfl (lv_at hl 2 rfl) ?_
        refine lv_iload_n hx hb dX4_wordsMask_10 rfl (lv_at hl 0 rfl) ?_
        refine lv_ishr hx hb dX4_wordsMask_11 ?_
        refine lv_topE (nI (se / 2 ^ 3)) (z_shr32 (by omega) (by decide)) ?_
        refine lv_iconst (v := nI 1) hx hb dX4_wordsMask_12 (by decide) ?_
        refine lv_iand hx hb dX4_wordsMask_13 ?_
        refine lv_topE (nI (se / 2 ^ 3 % 2)) (fa_mask _ 1) ?_
        refine lv_if_eq (tgt := 27) hx hb dX4_wordsMask_14 (by decide) (fun c14_18 => ?_) (fun c14_18 => ?_)
        · have c14_18 : se / 2 ^ 3 % 2 = 0 := (nI_eqG (a := se / 2 ^ 3 % 2) (b := 0) (by omega) (by omega)).mp c14_18
          refine lv_iinc (v := nI 4) (lv' := [(3, .int (nI 4)), (1, .long (lN 12)), (0, .int (nI se))]) hx hb dX4_wordsMask_27 hl (k := 0) rfl (by decide) (by decide) rfl (fun ls hl => ?_)
          refine lv_goto (tgt := 4) hx hb dX4_wordsMask_30 (by decide) ?_
          refine lv_iload_n hx hb dX4_wordsMask_4 rfl (lv_at hl 0 rfl) ?_
          refine lv_iconst (v := nI 4) hx hb dX4_wordsMask_5 (by decide) ?_
          refine lv_icmp_ge (tgt := 33) hx hb dX4_wordsMask_6 (by decide) (fun c6_19 => ?_) (fun c6_19 => by first | exact absurd (by decide) c6_19 | exact absurd c6_19 (by decide))
          refine lv_lload_n hx hb dX4_wordsMask_33 rfl (lv_at hl 1 rfl) ?_
          subst hQ
          exact rtl hx hb hr hlocks rfl (congrArg lN (by unfold wmC; omega)) dX4_wordsMask_34
        · have c14_18 : ¬ (se / 2 ^ 3 % 2 = 0) := fun h9 => c14_18 ((nI_eqG (a := se / 2 ^ 3 % 2) (b := 0) (by omega) (by omega)).mpr h9)
          refine lv_lload_n hx hb dX4_wordsMask_17 rfl (lv_at hl 1 rfl) ?_
          refine lv_ldc2 (v := (3)) hx hb hown (hU _ mU_581) dX4_wordsMask_18 ?_
          refine lv_topEl (lN 3) (by decide) ?_
          refine lv_iconst (v := nI 2) hx hb dX4_wordsMask_21 (by decide) ?_
          refine lv_iload_n hx hb dX4_wordsMask_22 rfl (lv_at hl 0 rfl) ?_
          refine lv_imul hx hb dX4_wordsMask_23 ?_
          refine lv_topE (nI 6) (pk_mul _ _) ?_
          refine lv_lshl hx hb dX4_wordsMask_24 rfl ?_
          refine lv_topEl (lN 192) (by decide) ?_
          refine lv_lor hx hb dX4_wordsMask_25 ?_
          refine lv_topEl (lN 204) (by decide) ?_
          refine lv_lstore_n (lv' := [(1, .long (lN 204)), (3, .int (nI 3)), (0, .int (nI se))]) hx hb dX4_wordsMask_26 rfl hl (by decide) rfl (fun ls hl => ?_)
          refine lv_iinc (v := nI 4) (lv' := [(3, .int (nI 4)), (1, .long (lN 204)), (0, .int (nI se))]) hx hb dX4_wordsMask_27 hl (k := 1) rfl (by decide) (by decide) rfl (fun ls hl => ?_)
          refine lv_goto (tgt := 4) hx hb dX4_wordsMask_30 (by decide) ?_
          refine lv_iload_n hx hb dX4_wordsMask_4 rfl (lv_at hl 0 rfl) ?_
          refine lv_iconst (v := nI 4) hx hb dX4_wordsMask_5 (by decide) ?_
          refine lv_icmp_ge (tgt := 33) hx hb dX4_wordsMask_6 (by decide) (fun c6_20 => ?_) (fun c6_20 => by first | exact absurd (by decide) c6_20 | exact absurd c6_20 (by decide))
          refine lv_lload_n hx hb dX4_wordsMask_33 rfl (lv_at hl 1 rfl) ?_
          subst hQ
          exact rtl hx hb hr hlocks rfl (congrArg lN (by unfold wmC; omega)) dX4_wordsMask_34
      · have c14_16 : ¬ (se / 2 ^ 2 % 2 = 0) := fun h9 => c14_16 ((nI_eqG (a := se / 2 ^ 2 % 2) (b := 0) (by omega) (by omega)).mpr h9)
        refine lv_lload_n hx hb dX4_wordsMask_17 rfl (lv_at hl 1 rfl) ?_
        refine lv_ldc2 (v := (3)) hx hb hown (hU _ mU_581) dX4_wordsMask_18 ?_
        refine lv_topEl (lN 3) (by decide) ?_
        refine lv_iconst (v := nI 2) hx hb dX4_wordsMask_21 (by decide) ?_
        refine lv_iload_n hx hb dX4_wordsMask_22 rfl (lv_at hl 0 rfl) ?_
        refine lv_imul hx hb dX4_wordsMask_23 ?_
        refine lv_topE (nI 4) (pk_mul _ _) ?_
        refine lv_lshl hx hb dX4_wordsMask_24 rfl ?_
        refine lv_topEl (lN 48) (by decide) ?_
        refine lv_lor hx hb dX4_wordsMask_25 ?_
        refine lv_topEl (lN 60) (by decide) ?_
        refine lv_lstore_n (lv' := [(1, .long (lN 60)), (3, .int (nI 2)), (0, .int (nI se))]) hx hb dX4_wordsMask_26 rfl hl (by decide) rfl (fun ls hl => ?_)
        refine lv_iinc (v := nI 3) (lv' := [(3, .int (nI 3)), (1, .long (lN 60)), (0, .int (nI se))]) hx hb dX4_wordsMask_27 hl (k := 1) rfl (by decide) (by decide) rfl (fun ls hl => ?_)
        refine lv_goto (tgt := 4) hx hb dX4_wordsMask_30 (by decide) ?_
        refine lv_iload_n hx hb dX4_wordsMask_4 rfl (lv_at hl 0 rfl) ?_
        refine lv_iconst (v := nI 4) hx hb dX4_wordsMask_5 (by decide) ?_
        refine lv_icmp_ge (tgt := 33) hx hb dX4_wordsMask_6 (by decide) (fun c6_21 => by first | exact absurd c6_21 (by decide) | exact absurd (by decide) c6_21) (fun c6_21 => ?_)
        refine lv_iload_n hx hb dX4_wordsMask_9 rfl (lv_at hl 2 rfl) ?_
        refine lv_iload_n hx hb dX4_wordsMask_10 rfl (lv_at hl 0 rfl) ?_
        refine lv_ishr hx hb dX4_wordsMask_11 ?_
        refine lv_topE (nI (se / 2 ^ 3)) (z_shr32 (by omega) (by decide)) ?_
        refine lv_iconst (v := nI 1) hx hb dX4_wordsMask_12 (by decide) ?_
        refine lv_iand hx hb dX4_wordsMask_13 ?_
        refine lv_topE (nI (se / 2 ^ 3 % 2)) (fa_mask _ 1) ?_
        refine lv_if_eq (tgt := 27) hx hb dX4_wordsMask_14 (by decide) (fun c14_22 => ?_) (fun c14_22 => ?_)
        · have c14_22 : se / 2 ^ 3 % 2 = 0 := (nI_eqG (a := se / 2 ^ 3 % 2) (b := 0) (by omega) (by omega)).mp c14_22
          refine lv_iinc (v := nI 4) (lv' := [(3, .int (nI 4)), (1, .long (lN 60)), (0, .int (nI se))]) hx hb dX4_wordsMask_27 hl (k := 0) rfl (by decide) (by decide) rfl (fun ls hl => ?_)
          refine lv_goto (tgt := 4) hx hb dX4_wordsMask_30 (by decide) ?_
          refine lv_iload_n hx hb dX4_wordsMask_4 rfl (lv_at hl 0 rfl) ?_
          refine lv_iconst (v := nI 4) hx hb dX4_wordsMask_5 (by decide) ?_
          refine lv_icmp_ge (tgt := 33) hx hb dX4_wordsMask_6 (by decide) (fun c6_23 => ?_) (fun c6_23 => by first | exact absurd (by decide) c6_23 | exact absurd c6_23 (by decide))
          refine lv_lload_n hx hb dX4_wordsMask_33 rfl (lv_at hl 1 rfl) ?_
          subst hQ
          exact rtl hx hb hr hlocks rfl (congrArg lN (by unfold wmC; omega)) dX4_wordsMask_34
        · have c14_22 : ¬ (se / 2 ^ 3 % 2 = 0) := fun h9 => c14_22 ((nI_eqG (a := se / 2 ^ 3 % 2) (b := 0) (by omega) (by omega)).mpr h9)
          refine lv_lload_n hx hb dX4_wordsMask_17 rfl (lv_at hl 1 rfl) ?_
          refine lv_ldc2 (v := (3)) hx hb hown (hU _ mU_581) dX4_wordsMask_18 ?_
          refine lv_topEl (lN 3) (by decide) ?_
          refine lv_iconst (v := nI 2) hx hb dX4_wordsMask_21 (by decide) ?_
          refine lv_iload_n hx hb dX4_wordsMask_22 rfl (lv_at hl 0 rfl) ?_
          refine lv_imul hx hb dX4_wordsMask_23 ?_
          refine lv_topE (nI 6) (pk_mul _ _) ?_
          refine lv_lshl hx hb dX4_wordsMask_24 rfl ?_
          refine lv_topEl (lN 192) (by decide) ?_
          refine lv_lor hx hb dX4_wordsMask_25 ?_
          refine lv_topEl (lN 252) (by decide) ?_
          refine lv_lstore_n (lv' := [(1, .long (lN 252)), (3, .int (nI 3)), (0, .int (nI se))]) hx hb dX4_wordsMask_26 rfl hl (by decide) rfl (fun ls hl => ?_)
          refine lv_iinc (v := nI 4) (lv' := [(3, .int (nI 4)), (1, .long (lN 252)), (0, .int (nI se))]) hx hb dX4_wordsMask_27 hl (k := 1) rfl (by decide) (by decide) rfl (fun ls hl => ?_)
          refine lv_goto (tgt := 4) hx hb dX4_wordsMask_30 (by decide) ?_
          refine lv_iload_n hx hb dX4_wordsMask_4 rfl (lv_at hl 0 rfl) ?_
          refine lv_iconst (v := nI 4) hx hb dX4_wordsMask_5 (by decide) ?_
          refine lv_icmp_ge (tgt := 33) hx hb dX4_wordsMask_6 (by decide) (fun c6_24 => ?_) (fun c6_24 => by first | exact absurd (by decide) c6_24 | exact absurd c6_24 (by decide))
          refine lv_lload_n hx hb dX4_wordsMask_33 rfl (lv_at hl 1 rfl) ?_
          subst hQ
          exact rtl hx hb hr hlocks rfl (congrArg lN (by unfold wmC; omega)) dX4_wordsMask_34
  · have c14_2 : ¬ (se / 2 ^ 0 % 2 = 0) := fun h9 => c14_2 ((nI_eqG (a := se / 2 ^ 0 % 2) (b := 0) (by omega) (by omega)).mpr h9)
    refine lv_lload_n hx hb dX4_wordsMask_17 rfl (lv_at hl 1 rfl) ?_
    refine lv_ldc2 (v := (3)) hx hb hown (hU _ mU_581) dX4_wordsMask_18 ?_
    refine lv_topEl (lN 3) (by decide) ?_
    refine lv_iconst (v := nI 2) hx hb dX4_wordsMask_21 (by decide) ?_
    refine lv_iload_n hx hb dX4_wordsMask_22 rfl (lv_at hl 0 rfl) ?_
    refine lv_imul hx hb dX4_wordsMask_23 ?_
    refine lv_topE (nI 0) (pk_mul _ _) ?_
    refine lv_lshl hx hb dX4_wordsMask_24 rfl ?_
    refine lv_topEl (lN 3) (by decide) ?_
    refine lv_lor hx hb dX4_wordsMask_25 ?_
    refine lv_topEl (lN 3) (by decide) ?_
    refine lv_lstore_n (lv' := [(1, .long (lN 3)), (3, .int (nI 0)), (0, .int (nI se))]) hx hb dX4_wordsMask_26 rfl hl (by decide) rfl (fun ls hl => ?_)
    refine lv_iinc (v := nI 1) (lv' := [(3, .int (nI 1)), (1, .long (lN 3)), (0, .int (nI se))]) hx hb dX4_wordsMask_27 hl (k := 1) rfl (by decide) (by decide) rfl (fun ls hl => ?_)
    refine lv_goto (tgt := 4) hx hb dX4_wordsMask_30 (by decide) ?_
    refine lv_iload_n hx hb dX4_wordsMask_4 rfl (lv_at hl 0 rfl) ?_
    refine lv_iconst (v := nI 4) hx hb dX4_wordsMask_5 (by decide) ?_
    refine lv_icmp_ge (tgt := 33) hx hb dX4_wordsMask_6 (by decide) (fun c6_25 => by first | exact absurd c6_25 (by decide) | exact absurd (by decide) c6_25) (fun c6_25 => ?_)
    refine lv_iload_n hx hb dX4_wordsMask_9 rfl (lv_at hl 2 rfl) ?_
    refine lv_iload_n hx hb dX4_wordsMask_10 rfl (lv_at hl 0 rfl) ?_
    refine lv_ishr hx hb dX4_wordsMask_11 ?_
    refine lv_topE (nI (se / 2 ^ 1)) (z_shr32 (by omega) (by decide)) ?_
    refine lv_iconst (v := nI 1) hx hb dX4_wordsMask_12 (by decide) ?_
    refine lv_iand hx hb dX4_wordsMask_13 ?_
    refine lv_topE (nI (se / 2 ^ 1 % 2)) (fa_mask _ 1) ?_
    refine lv_if_eq (tgt := 27) hx hb dX4_wordsMask_14 (by decide) (fun c14_26 => ?_) (fun c14_26 => ?_)
    · have c14_26 : se / 2 ^ 1 % 2 = 0 := (nI_eqG (a := se / 2 ^ 1 % 2) (b := 0) (by omega) (by omega)).mp c14_26
      refine lv_iinc (v := nI 2) (lv' := [(3, .int (nI 2)), (1, .long (lN 3)), (0, .int (nI se))]) hx hb dX4_wordsMask_27 hl (k := 0) rfl (by decide) (by decide) rfl (fun ls hl => ?_)
      refine lv_goto (tgt := 4) hx hb dX4_wordsMask_30 (by decide) ?_
      refine lv_iload_n hx hb dX4_wordsMask_4 rfl (lv_at hl 0 rfl) ?_
      refine lv_iconst (v := nI 4) hx hb dX4_wordsMask_5 (by decide) ?_
      refine lv_icmp_ge (tgt := 33) hx hb dX4_wordsMask_6 (by decide) (fun c6_27 => by first | exact absurd c6_27 (by decide) | exact absurd (by decide) c6_27) (fun c6_27 => ?_)
      refine lv_iload_n hx hb dX4_wordsMask_9 rfl (lv_at hl 2 rfl) ?_
      refine lv_iload_n hx hb dX4_wordsMask_10 rfl (lv_at hl 0 rfl) ?_
      refine lv_ishr hx hb dX4_wordsMask_11 ?_
      refine lv_topE (nI (se / 2 ^ 2)) (z_shr32 (by omega) (by decide)) ?_
      refine lv_iconst (v := nI 1) hx hb dX4_wordsMask_12 (by decide) ?_
      refine lv_iand hx hb dX4_wordsMask_13 ?_
      refine lv_topE (nI (se / 2 ^ 2 % 2)) (fa_mask _ 1) ?_
      refine lv_if_eq (tgt := 27) hx hb dX4_wordsMask_14 (by decide) (fun c14_28 => ?_) (fun c14_28 => ?_)
      · have c14_28 : se / 2 ^ 2 % 2 = 0 := (nI_eqG (a := se / 2 ^ 2 % 2) (b := 0) (by omega) (by omega)).mp c14_28
        refine lv_iinc (v := nI 3) (lv' := [(3, .int (nI 3)), (1, .long (lN 3)), (0, .int (nI se))]) hx hb dX4_wordsMask_27 hl (k := 0) rfl (by decide) (by decide) rfl (fun ls hl => ?_)
        refine lv_goto (tgt := 4) hx hb dX4_wordsMask_30 (by decide) ?_
        refine lv_iload_n hx hb dX4_wordsMask_4 rfl (lv_at hl 0 rfl) ?_
        refine lv_iconst (v := nI 4) hx hb dX4_wordsMask_5 (by decide) ?_
        refine lv_icmp_ge (tgt := 33) hx hb dX4_wordsMask_6 (by decide) (fun c6_29 => by first | exact absurd c6_29 (by decide) | exact absurd (by decide) c6_29) (fun c6_29 => ?_)
        refine lv_iload_n hx hb dX4_wordsMask_9 rfl (lv_at hl 2 rfl) ?_
        refine lv_iload_n hx hb dX4_wordsMask_10 rfl (lv_at hl 0 rfl) ?_
        refine lv_ishr hx hb dX4_wordsMask_11 ?_
        refine lv_topE (nI (se / 2 ^ 3)) (z_shr32 (by omega) (by decide)) ?_
        refine lv_iconst (v := nI 1) hx hb dX4_wordsMask_12 (by decide) ?_
        refine lv_iand hx hb dX4_wordsMask_13 ?_
        refine lv_topE (nI (se / 2 ^ 3 % 2)) (fa_mask _ 1) ?_
        refine lv_if_eq (tgt := 27) hx hb dX4_wordsMask_14 (by decide) (fun c14_30 => ?_) (fun c14_30 => ?_)
        · have c14_30 : se / 2 ^ 3 % 2 = 0 := (nI_eqG (a := se / 2 ^ 3 % 2) (b := 0) (by omega) (by omega)).mp c14_30
          refine lv_iinc (v := nI 4) (lv' := [(3, .int (nI 4)), (1, .long (lN 3)), (0, .int (nI se))]) hx hb dX4_wordsMask_27 hl (k := 0) rfl (by decide) (by decide) rfl (fun ls hl => ?_)
          refine lv_goto (tgt := 4) hx hb dX4_wordsMask_30 (by decide) ?_
          refine lv_iload_n hx hb dX4_wordsMask_4 rfl (lv_at hl 0 rfl) ?_
          refine lv_iconst (v := nI 4) hx hb dX4_wordsMask_5 (by decide) ?_
          refine lv_icmp_ge (tgt := 33) hx hb dX4_wordsMask_6 (by decide) (fun c6_31 => ?_) (fun c6_31 => by first | exact absurd (by decide) c6_31 | exact absurd c6_31 (by decide))
          refine lv_lload_n hx hb dX4_wordsMask_33 rfl (lv_at hl 1 rfl) ?_
          subst hQ
          exact rtl hx hb hr hlocks rfl (congrArg lN (by unfold wmC; omega)) dX4_wordsMask_34
        · have c14_30 : ¬ (se / 2 ^ 3 % 2 = 0) := fun h9 => c14_30 ((nI_eqG (a := se / 2 ^ 3 % 2) (b := 0) (by omega) (by omega)).mpr h9)
          refine lv_lload_n hx hb dX4_wordsMask_17 rfl (lv_at hl 1 rfl) ?_
          refine lv_ldc2 (v := (3)) hx hb hown (hU _ mU_581) dX4_wordsMask_18 ?_
          refine lv_topEl (lN 3) (by decide) ?_
          refine lv_iconst (v := nI 2) hx hb dX4_wordsMask_21 (by decide) ?_
          refine lv_iload_n hx hb dX4_wordsMask_22 rfl (lv_at hl 0 rfl) ?_
          refine lv_imul hx hb dX4_wordsMask_23 ?_
          refine lv_topE (nI 6) (pk_mul _ _) ?_
          refine lv_lshl hx hb dX4_wordsMask_24 rfl ?_
          refine lv_topEl (lN 192) (by decide) ?_
          refine lv_lor hx hb dX4_wordsMask_25 ?_
          refine lv_topEl (lN 195) (by decide) ?_
          refine lv_lstore_n (lv' := [(1, .long (lN 195)), (3, .int (nI 3)), (0, .int (nI se))]) hx hb dX4_wordsMask_26 rfl hl (by decide) rfl (fun ls hl => ?_)
          refine lv_iinc (v := nI 4) (lv' := [(3, .int (nI 4)), (1, .long (lN 195)), (0, .int (nI se))]) hx hb dX4_wordsMask_27 hl (k := 1) rfl (by decide) (by decide) rfl (fun ls hl => ?_)
          refine lv_goto (tgt := 4) hx hb dX4_wordsMask_30 (by decide) ?_
          refine lv_iload_n hx hb dX4_wordsMask_4 rfl (lv_at hl 0 rfl) ?_
          refine lv_iconst (v := nI 4) hx hb dX4_wordsMask_5 (by decide) ?_
          refine lv_icmp_ge (tgt := 33) hx hb dX4_wordsMask_6 (by decide) (fun c6_32 => ?_) (fun c6_32 => by first | exact absurd (by decide) c6_32 | exact absurd c6_32 (by decide))
          refine lv_lload_n hx hb dX4_wordsMask_33 rfl (lv_at hl 1 rfl) ?_
          subst hQ
          exact rtl hx hb hr hlocks rfl (congrArg lN (by unfold wmC; omega)) dX4_wordsMask_34
      · have c14_28 : ¬ (se / 2 ^ 2 % 2 = 0) := fun h9 => c14_28 ((nI_eqG (a := se / 2 ^ 2 % 2) (b := 0) (by omega) (by omega)).mpr h9)
        refine lv_lload_n hx hb dX4_wordsMask_17 rfl (lv_at hl 1 rfl) ?_
        refine lv_ldc2 (v := (3)) hx hb hown (hU _ mU_581) dX4_wordsMask_18 ?_
        refine lv_topEl (lN 3) (by decide) ?_
        refine lv_iconst (v := nI 2) hx hb dX4_wordsMask_21 (by decide) ?_
        refine lv_iload_n hx hb dX4_wordsMask_22 rfl (lv_at hl 0 rfl) ?_
        refine lv_imul hx hb dX4_wordsMask_23 ?_
        refine lv_topE (nI 4) (pk_mul _ _) ?_
        refine lv_lshl hx hb dX4_wordsMask_24 rfl ?_
        refine lv_topEl (lN 48) (by decide) ?_
        refine lv_lor hx hb dX4_wordsMask_25 ?_
        refine lv_topEl (lN 51) (by decide) ?_
        refine lv_lstore_n (lv' := [(1, .long (lN 51)), (3, .int (nI 2)), (0, .int (nI se))]) hx hb dX4_wordsMask_26 rfl hl (by decide) rfl (fun ls hl => ?_)
        refine lv_iinc (v := nI 3) (lv' := [(3, .int (nI 3)), (1, .long (lN 51)), (0, .int (nI se))]) hx hb dX4_wordsMask_27 hl (k := 1) rfl (by decide) (by decide) rfl (fun ls hl => ?_)
        refine lv_goto (tgt := 4) hx hb dX4_wordsMask_30 (by decide) ?_
        refine lv_iload_n hx hb dX4_wordsMask_4 rfl (lv_at hl 0 rfl) ?_
        refine lv_iconst (v := nI 4) hx hb dX4_wordsMask_5 (by decide) ?_
        refine lv_icmp_ge (tgt := 33) hx hb dX4_wordsMask_6 (by decide) (fun c6_33 => by first | exact absurd c6_33 (by decide) | exact absurd (by decide) c6_33) (fun c6_33 => ?_)
        refine lv_iload_n hx hb dX4_wordsMask_9 rfl (lv_at hl 2 rfl) ?_
        refine lv_iload_n hx hb dX4_wordsMask_10 rfl (lv_at hl 0 rfl) ?_
        refine lv_ishr hx hb dX4_wordsMask_11 ?_
        refine lv_topE (nI (se / 2 ^ 3)) (z_shr32 (by omega) (by decide)) ?_
        refine lv_iconst (v := nI 1) hx hb dX4_wordsMask_12 (by decide) ?_
        refine lv_iand hx hb dX4_wordsMask_13 ?_
        refine lv_topE (nI (se / 2 ^ 3 % 2)) (fa_mask _ 1) ?_
        refine lv_if_eq (tgt := 27) hx hb dX4_wordsMask_14 (by decide) (fun c14_34 => ?_) (fun c14_34 => ?_)
        · have c14_34 : se / 2 ^ 3 % 2 = 0 := (nI_eqG (a := se / 2 ^ 3 % 2) (b := 0) (by omega) (by omega)).mp c14_34
          refine lv_iinc (v := nI 4) (lv' := [(3, .int (nI 4)), (1, .long (lN 51)), (0, .int (nI se))]) hx hb dX4_wordsMask_27 hl (k := 0) rfl (by decide) (by decide) rfl (fun ls hl => ?_)
          refine lv_goto (tgt := 4) hx hb dX4_wordsMask_30 (by decide) ?_
          refine lv_iload_n hx hb dX4_wordsMask_4 rfl (lv_at hl 0 rfl) ?_
          refine lv_iconst (v := nI 4) hx hb dX4_wordsMask_5 (by decide) ?_
          refine lv_icmp_ge (tgt := 33) hx hb dX4_wordsMask_6 (by decide) (fun c6_35 => ?_) (fun c6_35 => by first | exact absurd (by decide) c6_35 | exact absurd c6_35 (by decide))
          refine lv_lload_n hx hb dX4_wordsMask_33 rfl (lv_at hl 1 rfl) ?_
          subst hQ
          exact rtl hx hb hr hlocks rfl (congrArg lN (by unfold wmC; omega)) dX4_wordsMask_34
        · have c14_34 : ¬ (se / 2 ^ 3 % 2 = 0) := fun h9 => c14_34 ((nI_eqG (a := se / 2 ^ 3 % 2) (b := 0) (by omega) (by omega)).mpr h9)
          refine lv_lload_n hx hb dX4_wordsMask_17 rfl (lv_at hl 1 rfl) ?_
          refine lv_ldc2 (v := (3)) hx hb hown (hU _ mU_581) dX4_wordsMask_18 ?_
          refine lv_topEl (lN 3) (by decide) ?_
          refine lv_iconst (v := nI 2) hx hb dX4_wordsMask_21 (by decide) ?_
          refine lv_iload_n hx hb dX4_wordsMask_22 rfl (lv_at hl 0 rfl) ?_
          refine lv_imul hx hb dX4_wordsMask_23 ?_
          refine lv_topE (nI 6) (pk_mul _ _) ?_
          refine lv_lshl hx hb dX4_wordsMask_24 rfl ?_
          refine lv_topEl (lN 192) (by decide) ?_
          refine lv_lor hx hb dX4_wordsMask_25 ?_
          refine lv_topEl (lN 243) (by decide) ?_
          refine lv_lstore_n (lv' := [(1, .long (lN 243)), (3, .int (nI 3)), (0, .int (nI se))]) hx hb dX4_wordsMask_26 rfl hl (by decide) rfl (fun ls hl => ?_)
          refine lv_iinc (v := nI 4) (lv' := [(3, .int (nI 4)), (1, .long (lN 243)), (0, .int (nI se))]) hx hb dX4_wordsMask_27 hl (k := 1) rfl (by decide) (by decide) rfl (fun ls hl => ?_)
          refine lv_goto (tgt := 4) hx hb dX4_wordsMask_30 (by decide) ?_
          refine lv_iload_n hx hb dX4_wordsMask_4 rfl (lv_at hl 0 rfl) ?_
          refine lv_iconst (v := nI 4) hx hb dX4_wordsMask_5 (by decide) ?_
          refine lv_icmp_ge (tgt := 33) hx hb dX4_wordsMask_6 (by decide) (fun c6_36 => ?_) (fun c6_36 => by first | exact absurd (by decide) c6_36 | exact absurd c6_36 (by decide))
          refine lv_lload_n hx hb dX4_wordsMask_33 rfl (lv_at hl 1 rfl) ?_
          subst hQ
          exact rtl hx hb hr hlocks rfl (congrArg lN (by unfold wmC; omega)) dX4_wordsMask_34
    · have c14_26 : ¬ (se / 2 ^ 1 % 2 = 0) := fun h9 => c14_26 ((nI_eqG (a := se / 2 ^ 1 % 2) (b := 0) (by omega) (by omega)).mpr h9)
      refine lv_lload_n hx hb dX4_wordsMask_17 rfl (lv_at hl 1 rfl) ?_
      refine lv_ldc2 (v := (3)) hx hb hown (hU _ mU_581) dX4_wordsMask_18 ?_
      refine lv_topEl (lN 3) (by decide) ?_
      refine lv_iconst (v := nI 2) hx hb dX4_wordsMask_21 (by decide) ?_
      refine lv_iload_n hx hb dX4_wordsMask_22 rfl (lv_at hl 0 rfl) ?_
      refine lv_imul hx hb dX4_wordsMask_23 ?_
      refine lv_topE (nI 2) (pk_mul _ _) ?_
      refine lv_lshl hx hb dX4_wordsMask_24 rfl ?_
      refine lv_topEl (lN 12) (by decide) ?_
      refine lv_lor hx hb dX4_wordsMask_25 ?_
      refine lv_topEl (lN 15) (by decide) ?_
      refine lv_lstore_n (lv' := [(1, .long (lN 15)), (3, .int (nI 1)), (0, .int (nI se))]) hx hb dX4_wordsMask_26 rfl hl (by decide) rfl (fun ls hl => ?_)
      refine lv_iinc (v := nI 2) (lv' := [(3, .int (nI 2)), (1, .long (lN 15)), (0, .int (nI se))]) hx hb dX4_wordsMask_27 hl (k := 1) rfl (by decide) (by decide) rfl (fun ls hl => ?_)
      refine lv_goto (tgt := 4) hx hb dX4_wordsMask_30 (by decide) ?_
      refine lv_iload_n hx hb dX4_wordsMask_4 rfl (lv_at hl 0 rfl) ?_
      refine lv_iconst (v := nI 4) hx hb dX4_wordsMask_5 (by decide) ?_
      refine lv_icmp_ge (tgt := 33) hx hb dX4_wordsMask_6 (by decide) (fun c6_37 => by first | exact absurd c6_37 (by decide) | exact absurd (by decide) c6_37) (fun c6_37 => ?_)
      refine lv_iload_n hx hb dX4_wordsMask_9 rfl (lv_at hl 2 rfl) ?_
      refine lv_iload_n hx hb dX4_wordsMask_10 rfl (lv_at hl 0 rfl) ?_
      refine lv_ishr hx hb dX4_wordsMask_11 ?_
      refine lv_topE (nI (se / 2 ^ 2)) (z_shr32 (by omega) (by decide)) ?_
      refine lv_iconst (v := nI 1) hx hb dX4_wordsMask_12 (by decide) ?_
      refine lv_iand hx hb dX4_wordsMask_13 ?_
      refine lv_topE (nI (se / 2 ^ 2 % 2)) (fa_mask _ 1) ?_
      refine lv_if_eq (tgt := 27) hx hb dX4_wordsMask_14 (by decide) (fun c14_38 => ?_) (fun c14_38 => ?_)
      · have c14_38 : se / 2 ^ 2 % 2 = 0 := (nI_eqG (a := se / 2 ^ 2 % 2) (b := 0) (by omega) (by omega)).mp c14_38
        refine lv_iinc (v := nI 3) (lv' := [(3, .int (nI 3)), (1, .long (lN 15)), (0, .int (nI se))]) hx hb dX4_wordsMask_27 hl (k := 0) rfl (by decide) (by decide) rfl (fun ls hl => ?_)
        refine lv_goto (tgt := 4) hx hb dX4_wordsMask_30 (by decide) ?_
        refine lv_iload_n hx hb dX4_wordsMask_4 rfl (lv_at hl 0 rfl) ?_
        refine lv_iconst (v := nI 4) hx hb dX4_wordsMask_5 (by decide) ?_
        refine lv_icmp_ge (tgt := 33) hx hb dX4_wordsMask_6 (by decide) (fun c6_39 => by first | exact absurd c6_39 (by decide) | exact absurd (by decide) c6_39) (fun c6_39 => ?_)
        refine lv_iload_n hx hb dX4_wordsMask_9 rfl (lv_at hl 2 rfl) ?_
        refine lv_iload_n hx hb dX4_wordsMask_10 rfl (lv_at hl 0 rfl) ?_
        refine lv_ishr hx hb dX4_wordsMask_11 ?_
        refine lv_topE (nI (se / 2 ^ 3)) (z_shr32 (by omega) (by decide)) ?_
        refine lv_iconst (v := nI 1) hx hb dX4_wordsMask_12 (by decide) ?_
        refine lv_iand hx hb dX4_wordsMask_13 ?_
        refine lv_topE (nI (se / 2 ^ 3 % 2)) (fa_mask _ 1) ?_
        refine lv_if_eq (tgt := 27) hx hb dX4_wordsMask_14 (by decide) (fun c14_40 => ?_) (fun c14_40 => ?_)
        · have c14_40 : se / 2 ^ 3 % 2 = 0 := (nI_eqG (a := se / 2 ^ 3 % 2) (b := 0) (by omega) (by omega)).mp c14_40
          refine lv_iinc (v := nI 4) (lv' := [(3, .int (nI 4)), (1, .long (lN 15)), (0, .int (nI se))]) hx hb dX4_wordsMask_27 hl (k := 0) rfl (by decide) (by decide) rfl (fun ls hl => ?_)
          refine lv_goto (tgt := 4) hx hb dX4_wordsMask_30 (by decide) ?_
          refine lv_iload_n hx hb dX4_wordsMask_4 rfl (lv_at hl 0 rfl) ?_
          refine lv_iconst (v := nI 4) hx hb dX4_wordsMask_5 (by decide) ?_
          refine lv_icmp_ge (tgt := 33) hx hb dX4_wordsMask_6 (by decide) (fun c6_41 => ?_) (fun c6_41 => by first | exact absurd (by decide) c6_41 | exact absurd c6_41 (by decide))
          refine lv_lload_n hx hb dX4_wordsMask_33 rfl (lv_at hl 1 rfl) ?_
          subst hQ
          exact rtl hx hb hr hlocks rfl (congrArg lN (by unfold wmC; omega)) dX4_wordsMask_34
        · have c14_40 : ¬ (se / 2 ^ 3 % 2 = 0) := fun h9 => c14_40 ((nI_eqG (a := se / 2 ^ 3 % 2) (b := 0) (by omega) (by omega)).mpr h9)
          refine lv_lload_n hx hb dX4_wordsMask_17 rfl (lv_at hl 1 rfl) ?_
          refine lv_ldc2 (v := (3)) hx hb hown (hU _ mU_581) dX4_wordsMask_18 ?_
          refine lv_topEl (lN 3) (by decide) ?_
          refine lv_iconst (v := nI 2) hx hb dX4_wordsMask_21 (by decide) ?_
          refine lv_iload_n hx hb dX4_wordsMask_22 rfl (lv_at hl 0 rfl) ?_
          refine lv_imul hx hb dX4_wordsMask_23 ?_
          refine lv_topE (nI 6) (pk_mul _ _) ?_
          refine lv_lshl hx hb dX4_wordsMask_24 rfl ?_
          refine lv_topEl (lN 192) (by decide) ?_
          refine lv_lor hx hb dX4_wordsMask_25 ?_
          refine lv_topEl (lN 207) (by decide) ?_
          refine lv_lstore_n (lv' := [(1, .long (lN 207)), (3, .int (nI 3)), (0, .int (nI se))]) hx hb dX4_wordsMask_26 rfl hl (by decide) rfl (fun ls hl => ?_)
          refine lv_iinc (v := nI 4) (lv' := [(3, .int (nI 4)), (1, .long (lN 207)), (0, .int (nI se))]) hx hb dX4_wordsMask_27 hl (k := 1) rfl (by decide) (by decide) rfl (fun ls hl => ?_)
          refine lv_goto (tgt := 4) hx hb dX4_wordsMask_30 (by decide) ?_
          refine lv_iload_n hx hb dX4_wordsMask_4 rfl (lv_at hl 0 rfl) ?_
          refine lv_iconst (v := nI 4) hx hb dX4_wordsMask_5 (by decide) ?_
          refine lv_icmp_ge (tgt := 33) hx hb dX4_wordsMask_6 (by decide) (fun c6_42 => ?_) (fun c6_42 => by first | exact absurd (by decide) c6_42 | exact absurd c6_42 (by decide))
          refine lv_lload_n hx hb dX4_wordsMask_33 rfl (lv_at hl 1 rfl) ?_
          subst hQ
          exact rtl hx hb hr hlocks rfl (congrArg lN (by unfold wmC; omega)) dX4_wordsMask_34
      · have c14_38 : ¬ (se / 2 ^ 2 % 2 = 0) := fun h9 => c14_38 ((nI_eqG (a := se / 2 ^ 2 % 2) (b := 0) (by omega) (by omega)).mpr h9)
        refine lv_lload_n hx hb dX4_wordsMask_17 rfl (lv_at hl 1 rfl) ?_
        refine lv_ldc2 (v := (3)) hx hb hown (hU _ mU_581) dX4_wordsMask_18 ?_
        refine lv_topEl (lN 3) (by decide) ?_
        refine lv_iconst (v := nI 2) hx hb dX4_wordsMask_21 (by decide) ?_
        refine lv_iload_n hx hb dX4_wordsMask_22 rfl (lv_at hl 0 rfl) ?_
        refine lv_imul hx hb dX4_wordsMask_23 ?_
        refine lv_topE (nI 4) (pk_mul _ _) ?_
        refine lv_lshl hx hb dX4_wordsMask_24 rfl ?_
        refine lv_topEl (lN 48) (by decide) ?_
        refine lv_lor hx hb dX4_wordsMask_25 ?_
        refine lv_topEl (lN 63) (by decide) ?_
        refine lv_lstore_n (lv' := [(1, .long (lN 63)), (3, .int (nI 2)), (0, .int (nI se))]) hx hb dX4_wordsMask_26 rfl hl (by decide) rfl (fun ls hl => ?_)
        refine lv_iinc (v := nI 3) (lv' := [(3, .int (nI 3)), (1, .long (lN 63)), (0, .int (nI se))]) hx hb dX4_wordsMask_27 hl (k := 1) rfl (by decide) (by decide) rfl (fun ls hl => ?_)
        refine lv_goto (tgt := 4) hx hb dX4_wordsMask_30 (by decide) ?_
        refine lv_iload_n hx hb dX4_wordsMask_4 rfl (lv_at hl 0 rfl) ?_
        refine lv_iconst (v := nI 4) hx hb dX4_wordsMask_5 (by decide) ?_
        refine lv_icmp_ge (tgt := 33) hx hb dX4_wordsMask_6 (by decide) (fun c6_43 => by first | exact absurd c6_43 (by decide) | exact absurd (by decide) c6_43) (fun c6_43 => ?_)
        refine lv_iload_n hx hb dX4_wordsMask_9 rfl (lv_at hl 2 rfl) ?_
        refine lv_iload_n hx hb dX4_wordsMask_10 rfl (lv_at hl 0 rfl) ?_
        refine lv_ishr hx hb dX4_wordsMask_11 ?_
        refine lv_topE (nI (se / 2 ^ 3)) (z_shr32 (by omega) (by decide)) ?_
        refine lv_iconst (v := nI 1) hx hb dX4_wordsMask_12 (by decide) ?_
        refine lv_iand hx hb dX4_wordsMask_13 ?_
        refine lv_topE (nI (se / 2 ^ 3 % 2)) (fa_mask _ 1) ?_
        refine lv_if_eq (tgt := 27) hx hb dX4_wordsMask_14 (by decide) (fun c14_44 => ?_) (fun c14_44 => ?_)
        · have c14_44 : se / 2 ^ 3 % 2 = 0 := (nI_eqG (a := se / 2 ^ 3 % 2) (b := 0) (by omega) (by omega)).mp c14_44
          refine lv_iinc (v := nI 4) (lv' := [(3, .int (nI 4)), (1, .long (lN 63)), (0, .int (nI se))]) hx hb dX4_wordsMask_27 hl (k := 0) rfl (by decide) (by decide) rfl (fun ls hl => ?_)
          refine lv_goto (tgt := 4) hx hb dX4_wordsMask_30 (by decide) ?_
          refine lv_iload_n hx hb dX4_wordsMask_4 rfl (lv_at hl 0 rfl) ?_
          refine lv_iconst (v := nI 4) hx hb dX4_wordsMask_5 (by decide) ?_
          refine lv_icmp_ge (tgt := 33) hx hb dX4_wordsMask_6 (by decide) (fun c6_45 => ?_) (fun c6_45 => by first | exact absurd (by decide) c6_45 | exact absurd c6_45 (by decide))
          refine lv_lload_n hx hb dX4_wordsMask_33 rfl (lv_at hl 1 rfl) ?_
          subst hQ
          exact rtl hx hb hr hlocks rfl (congrArg lN (by unfold wmC; omega)) dX4_wordsMask_34
        · have c14_44 : ¬ (se / 2 ^ 3 % 2 = 0) := fun h9 => c14_44 ((nI_eqG (a := se / 2 ^ 3 % 2) (b := 0) (by omega) (by omega)).mpr h9)
          refine lv_lload_n hx hb dX4_wordsMask_17 rfl (lv_at hl 1 rfl) ?_
          refine lv_ldc2 (v := (3)) hx hb hown (hU _ mU_581) dX4_wordsMask_18 ?_
          refine lv_topEl (lN 3) (by decide) ?_
          refine lv_iconst (v := nI 2) hx hb dX4_wordsMask_21 (by decide) ?_
          refine lv_iload_n hx hb dX4_wordsMask_22 rfl (lv_at hl 0 rfl) ?_
          refine lv_imul hx hb dX4_wordsMask_23 ?_
          refine lv_topE (nI 6) (pk_mul _ _) ?_
          refine lv_lshl hx hb dX4_wordsMask_24 rfl ?_
          refine lv_topEl (lN 192) (by decide) ?_
          refine lv_lor hx hb dX4_wordsMask_25 ?_
          refine lv_topEl (lN 255) (by decide) ?_
          refine lv_lstore_n (lv' := [(1, .long (lN 255)), (3, .int (nI 3)), (0, .int (nI se))]) hx hb dX4_wordsMask_26 rfl hl (by decide) rfl (fun ls hl => ?_)
          refine lv_iinc (v := nI 4) (lv' := [(3, .int (nI 4)), (1, .long (lN 255)), (0, .int (nI se))]) hx hb dX4_wordsMask_27 hl (k := 1) rfl (by decide) (by decide) rfl (fun ls hl => ?_)
          refine lv_goto (tgt := 4) hx hb dX4_wordsMask_30 (by decide) ?_
          refine lv_iload_n hx hb dX4_wordsMask_4 rfl (lv_at hl 0 rfl) ?_
          refine lv_iconst (v := nI 4) hx hb dX4_wordsMask_5 (by decide) ?_
          refine lv_icmp_ge (tgt := 33) hx hb dX4_wordsMask_6 (by decide) (fun c6_46 => ?_) (fun c6_46 => by first | exact absurd (by decide) c6_46 | exact absurd c6_46 (by decide))
          refine lv_lload_n hx hb dX4_wordsMask_33 rfl (lv_at hl 1 rfl) ?_
          subst hQ
          exact rtl hx hb hr hlocks rfl (congrArg lN (by unfold wmC; omega)) dX4_wordsMask_34

theorem fence7 {g g2 : Nat → Nat → Nat} {fe h : Nat} (hp : prM g g2) (h7 : g 1 (fe / 8) ≤ 7) (hn : ¬ g 1 (fe / 8) = 7) (h8 : fe / 8 < 2) (q : fIn g2 fe h) : g2 1 h < 7 := by
  obtain ⟨q1, -⟩ := q
  subst q1
  rw [prM_len hp h8]; omega
theorem prM_sym {g g' : Nat → Nat → Nat} (h : prM g g') : prM g' g := ⟨⟨h.1.1.symm, h.1.2.symm⟩, fun j hj => (h.2.1 j hj).symm, fun j hj => (h.2.2 j hj).symm⟩
theorem walk_of {g g2 : Nat → Nat → Nat} {l s n t p q r : Nat → Nat} {mf fe : Nat} (hP : okP g2) (h7 : ∀ h, h < 2 → layL g2 fe h ≤ 7) (h4 : ∀ w, w < 4 → g2 4 w < 4) (hA : LayA g2 fe l s n) (hp : prM g g2) (e4 : g2 4 = g 4) (e5 : g2 5 = g 5) (b : BT) (hb : walkB mf (upA (upA (upA g2 1 l) 2 s) 3 n) t p q r = b) :
    eqB b (WALK mf g fe) ∧ eqL (upA (upA (upA g2 1 l) 2 s) 3 n) (layG g fe) := by
  have h7' : ∀ h, h < 2 → layL g fe h ≤ 7 := fun h hh => by rw [layL_congr (prM_sym hp) hh]; exact h7 h hh
  have hA' := LayA_congr (prM_sym hp) h7 hA
  have e : eqL (upA (upA (upA g2 1 l) 2 s) 3 n) (layG g fe) := eqL_lay h7' (fun h hh => (hA'.2.2.2 h hh).1) (fun h hh => (hA'.2.2.2 h hh).2) (fun w hw => ⟨congrFun e4 w, congrFun e5 w⟩)
  have w := (walk_congr (mf := mf) (t := t) (p := p) (s := q) (q := r) (t' := fun _ => 0) (p' := fun _ => 0) (s' := fun _ => 0) (q' := fun _ => 0) e (okL_of hP h7 hA) h4).1
  rw [hb] at w
  exact ⟨w, e⟩
theorem findN_congr {P Q : Nat → Bool} {n : Nat} (h : ∀ i, i < n → P i = Q i) : findN P n = findN Q n := by
  have : (List.range n).find? P = (List.range n).find? Q := by
    have key : ∀ l : List Nat, (∀ i, i ∈ l → P i = Q i) → l.find? P = l.find? Q := by
      intro l
      induction l with
      | nil => intro _; rfl
      | cons a l ih =>
        intro hl
        rw [List.find?_cons, List.find?_cons, hl a List.mem_cons_self, ih (fun i hi => hl i (List.mem_cons_of_mem _ hi))]
    exact key _ (fun i hi => h i (List.mem_range.mp hi))
  unfold findN
  rw [this]
theorem isEnd_congr {mf : Nat} {g g' : Nat → Nat → Nat} {x : Nat} (hE : eqL g g') (hL : okL g) (hx : wfM g x) : isEndM mf g x ↔ isEndM mf g' x := ⟨fun h k hk => by rw [← step_congr hE hL hx (by omega)]; exact h k hk, fun h k hk => by rw [step_congr hE hL hx (by omega)]; exact h k hk⟩
theorem isGood_congr {mf : Nat} {g g' : Nat → Nat → Nat} {x : Nat} (hE : eqL g g') (hL : okL g) (hx : wfM g x) : isGoodM mf g x ↔ isGoodM mf g' x := by
  have e2 : g 1 2 = g' 1 2 := (hE.1 0 (by decide)).1
  have e3 : g 1 3 = g' 1 3 := (hE.1 1 (by decide)).1
  unfold isGoodM
  rw [e2, e3, isEnd_congr hE hL hx]
theorem endM_congr {mf : Nat} {g g' : Nat → Nat → Nat} {va se x : Nat} (hE : eqL g g') (hL : okL g) (hx : wfM g x) : endM mf g va se x = endM mf g' va se x := by
  apply Bool.eq_iff_iff.mpr
  rw [endM_iff, endM_iff, isGood_congr hE hL hx]
theorem bar_congr {mf : Nat} {g g' : Nat → Nat → Nat} {b b' : BT} {fe en pa pb : Nat} (hE : eqL g g') (hL : okL g) (hw : ∀ i, i < b.1 → wfM g (b.2.1 i)) (h : eqB b b') : barN mf g b.1 b.2.1 fe en pa pb = barN mf g' b'.1 b'.2.1 fe en pa pb := by
  unfold barN
  rw [← h.1]
  split
  · exact findN_congr (fun i hi => by rw [(h.2 i hi).1])
  · exact findN_congr (fun i hi => by rw [endM_congr hE hL (hw i hi), (h.2 i hi).1])
theorem bar_ab {g : Nat → Nat → Nat} {fe en pa pb : Nat} (h : (en = 0 → pa ≤ g 1 0 ∧ pb ≤ g 1 1) ∧ (¬ en = 0 → pa < 256 ∧ pb < 16)) (hP : okP g) (h16 : fe < 16) (h7 : g 1 (fe / 8) ≤ 7) (hn : ¬ g 1 (fe / 8) = 7) : (en = 0 → pa < 8 ∧ pb < 8 ∧ (if fe / 8 = 0 ∧ fe % 8 ≤ pa then pa + 1 else pa) < 8 ∧ (if fe / 8 = 1 ∧ fe % 8 ≤ pb then pb + 1 else pb) < 8) ∧ (¬ en = 0 → pa < 256 ∧ pb < 16) := by
  refine ⟨fun h0 => ?_, h.2⟩
  have a := h.1 h0
  have l0 := (hP 0 (by decide)).1
  have l1 := (hP 1 (by decide)).1
  refine ⟨by omega, by omega, ?_, ?_⟩
  · split
    · rename_i q; rw [q.1] at h7 hn; omega
    · omega
  · split
    · rename_i q; rw [q.1] at h7 hn; omega
    · omega
/-- the least fence that bars, from fe on; n are left -/
def findR (mf : Nat) (g : Nat → Nat → Nat) (en pa pb : Nat) : Nat → Nat → Nat
  | 0, _ => 4294967295
  | n + 1, fe => if g 1 (fe / 8) = 7 then findR mf g en pa pb n (fe + 1) else if fe % 8 < g 1 (fe / 8) then (if 12000 < (WALK mf g fe).1 then 4294967294 else if 2147483648 ≤ barN mf (layG g fe) (WALK mf g fe).1 (WALK mf g fe).2.1 fe en pa pb then fe else findR mf g en pa pb n (fe + 1)) else findR mf g en pa pb n (fe + 1)
theorem findR_0 {mf : Nat} {g : Nat → Nat → Nat} {en pa pb fe : Nat} (h : 16 ≤ fe) : findR mf g en pa pb (16 - fe) fe = 4294967295 := by rw [show 16 - fe = 0 by omega]; rfl
theorem findR_s {fe : Nat} (h : fe < 16) : 16 - fe = (16 - (fe + 1)) + 1 := by omega
theorem findR_7 {mf : Nat} {g : Nat → Nat → Nat} {en pa pb fe r : Nat} (h : findR mf g en pa pb (16 - fe) fe = r) (h16 : fe < 16) (h1 : g 1 (fe / 8) = 7) : findR mf g en pa pb (16 - (fe + 1)) (fe + 1) = r := by
  rw [findR_s h16, findR, if_pos h1] at h; exact h
theorem findR_no {mf : Nat} {g : Nat → Nat → Nat} {en pa pb fe r : Nat} (h : findR mf g en pa pb (16 - fe) fe = r) (h16 : fe < 16) (h1 : ¬ g 1 (fe / 8) = 7) (h2 : ¬ fe % 8 < g 1 (fe / 8)) : findR mf g en pa pb (16 - (fe + 1)) (fe + 1) = r := by
  rw [findR_s h16, findR, if_neg h1, if_neg h2] at h; exact h
theorem findR_on {mf : Nat} {g : Nat → Nat → Nat} {en pa pb fe r : Nat} (h : findR mf g en pa pb (16 - fe) fe = r) (h16 : fe < 16) (h1 : ¬ g 1 (fe / 8) = 7) (h2 : fe % 8 < g 1 (fe / 8)) (h3 : ¬ 12000 < (WALK mf g fe).1) (h4 : ¬ 2147483648 ≤ barN mf (layG g fe) (WALK mf g fe).1 (WALK mf g fe).2.1 fe en pa pb) : findR mf g en pa pb (16 - (fe + 1)) (fe + 1) = r := by
  rw [findR_s h16, findR, if_neg h1, if_pos h2, if_neg h3, if_neg h4] at h; exact h
theorem findR_m {mf : Nat} {g : Nat → Nat → Nat} {en pa pb fe : Nat} (h16 : fe < 16) (h1 : ¬ g 1 (fe / 8) = 7) (h2 : fe % 8 < g 1 (fe / 8)) (h3 : 12000 < (WALK mf g fe).1) : findR mf g en pa pb (16 - fe) fe = 4294967294 := by
  rw [findR_s h16, findR, if_neg h1, if_pos h2, if_pos h3]
theorem findR_y {mf : Nat} {g : Nat → Nat → Nat} {en pa pb fe : Nat} (h16 : fe < 16) (h1 : ¬ g 1 (fe / 8) = 7) (h2 : fe % 8 < g 1 (fe / 8)) (h3 : ¬ 12000 < (WALK mf g fe).1) (h4 : 2147483648 ≤ barN mf (layG g fe) (WALK mf g fe).1 (WALK mf g fe).2.1 fe en pa pb) : findR mf g en pa pb (16 - fe) fe = fe := by
  rw [findR_s h16, findR, if_neg h1, if_pos h2, if_neg h3, if_pos h4]
set_option maxHeartbeats 4000000 in
set_option maxRecDepth 100000 in
theorem c_X5_find (l : Launch) (D : va_G) (ad : Nat → Nat) (ka : Nat → ClassId) (f : Nat → Nat) (g : Nat → Nat → Nat) (t : Nat → Nat) (sz : Nat) (en : Nat) (pa : Nat) (pb : Nat) (hM : MBase f g) (hen : en < 2) (hab : (en = 0 → pa ≤ g 1 0 ∧ pb ≤ g 1 1) ∧ (¬ en = 0 → pa < 256 ∧ pb < 16)) : Met l yX5_find (.code yX5_find cX5_find 6 (some .int) :: wsL_law) ({ frames := 9, cells := 0, slots := 0, locals := 219 }) (va_Pc [.ref (ad 0), .int (nI en), .int (nI pa), .int (nI pb)] (PW D (mW ad ka f g t) (mT ka) sz)) (va_Qi (fun (r : Int32) (u : MSt) => sameM f u.1 g u.2.1 ∧ MBase u.1 u.2.1 ∧ r = nI (findR (f 5) g en pa pb 16 0)) (QW D (fun u : MSt => mW ad ka u.1 u.2.1 u.2.2) (fun _ => mT ka) (va_A (mW ad ka f g t) sz)) (va_A (mW ad ka f g t) sz)) 0 0 (va_A (mW ad ka f g t) sz) := by
  refine Met.ofW (cc := cX5_find) (maxL := 6) (ret := (some .int)) (by decide) rfl ?_
  intro p e s m args below meth c s₁ B hml hv
  obtain ⟨rfl, hsz, hP, hK, hD0⟩ := hv
  have hx := B.exec
  have hb := B.bytes
  have hr := B.returns
  have hts := atoms_spec (ws := .code yX5_find cX5_find 6 (some .int) :: wsL_law) B.pre
  have hU : ∀ w ∈ wsL_law, w.before _ s = true := fun w h => hts w (List.mem_cons_of_mem _ h)
  have hown : s.vm.findClass RX5 = some m.cls := findClass_of_methodNamed B.named
  have hlocks := B.notSynchronized
  subst hsz
  have hD := hD0.self (sz := s.heap.size)
  generalize hAe : va_A (mW ad ka f g t) s.heap.size = Ar at hD ⊢
  have hA : ∀ q : Nat, s.heap.size ≤ q → Ar q := fun q h => by rw [← hAe]; exact Or.inr h
  have hS : va_S Ar s.heap s.heap [] := va_S.rf
  have hP : va_P D vwCl [(ad 0, .inr (5, [.ref (ad 1), .ref (ad 2), .ref (ad 3), .ref (ad 4), .ref (ad 5), .int (nI (f 5)), .ref (ad 6), .int (nI (f 7)), .int (nI (f 8)), .int (nI (f 9)), .int (nI (f 10)), .int (nI (f 11)), .int (nI (f 12)), .int (nI (f 13)), .ref (ad 7), .ref (ad 8), .ref (ad 9), .ref (ad 10), .ref (ad 11), .int (nI (f 19)), .int (nI (f 20)), .int (nI (f 21)), .ref (ad 12)])), (ad 1, .inl (ka 1, 5, .inl (nA (g 1)))), (ad 2, .inl (ka 2, 40, .inl (nA (g 2)))), (ad 3, .inl (ka 3, 160, .inl (nA (g 3)))), (ad 4, .inl (ka 4, 4, .inl (nA (g 4)))), (ad 5, .inl (ka 5, 4, .inl (nA (g 5)))), (ad 6, .inl (ka 6, 200, .inl (nA (g 6)))), (ad 7, .inl (ka 7, 12001, .inr (.inl (lA t)))), (ad 8, .inl (ka 8, 12001, .inl (nA (g 8)))), (ad 9, .inl (ka 9, 12001, .inl (nA (g 9)))), (ad 10, .inl (ka 10, 12001, .inl (nA (g 10)))), (ad 11, .inl (ka 11, 32768, .inl (nA (g 11)))), (ad 12, .inl (ka 12, 64, .inl (nA (g 12))))] s.heap := hP
  have hD : va_D Ar [(ad 0, .inr (5, [.ref (ad 1), .ref (ad 2), .ref (ad 3), .ref (ad 4), .ref (ad 5), .int (nI (f 5)), .ref (ad 6), .int (nI (f 7)), .int (nI (f 8)), .int (nI (f 9)), .int (nI (f 10)), .int (nI (f 11)), .int (nI (f 12)), .int (nI (f 13)), .ref (ad 7), .ref (ad 8), .ref (ad 9), .ref (ad 10), .ref (ad 11), .int (nI (f 19)), .int (nI (f 20)), .int (nI (f 21)), .ref (ad 12)])), (ad 1, .inl (ka 1, 5, .inl (nA (g 1)))), (ad 2, .inl (ka 2, 40, .inl (nA (g 2)))), (ad 3, .inl (ka 3, 160, .inl (nA (g 3)))), (ad 4, .inl (ka 4, 4, .inl (nA (g 4)))), (ad 5, .inl (ka 5, 4, .inl (nA (g 5)))), (ad 6, .inl (ka 6, 200, .inl (nA (g 6)))), (ad 7, .inl (ka 7, 12001, .inr (.inl (lA t)))), (ad 8, .inl (ka 8, 12001, .inl (nA (g 8)))), (ad 9, .inl (ka 9, 12001, .inl (nA (g 9)))), (ad 10, .inl (ka 10, 12001, .inl (nA (g 10)))), (ad 11, .inl (ka 11, 32768, .inl (nA (g 11)))), (ad 12, .inl (ka 12, 64, .inl (nA (g 12))))] := hD
  generalize hQ : MQ _ _ _ _ _ _ _ = Q
  have hl := lv_entry ([.ref (ad 0), .int (nI en), .int (nI pa), .int (nI pb)]) (n := 6) (Nat.le_of_ble_eq_true rfl)
  rw [lg_entry_eq]
  generalize (lg_sl ([.ref (ad 0), .int (nI en), .int (nI pa), .int (nI pb)]) ++ List.replicate (6 - (lg_sl ([.ref (ad 0), .int (nI en), .int (nI pa), .int (nI pb)])).length) Slot.unset).toArray = ls at hl ⊢
  have hl : lv_has ls 6 [(0, .ref (ad 0)), (1, .int (nI en)), (2, .int (nI pa)), (3, .int (nI pb))] := hl
  refine lv_iconst (v := nI 0) hx hb dX5_find_0 (by decide) ?_
  refine lv_istore (lv' := [(4, .int (nI 0)), (0, .ref (ad 0)), (1, .int (nI en)), (2, .int (nI pa)), (3, .int (nI pb))]) hx hb dX5_find_1 hl (by decide) rfl (fun ls hl => ?_)
  have L3_24 : ∀ (n : Nat) (fe : Nat) (f2 : Nat → Nat) (g2 : Nat → Nat → Nat) (t2 : Nat → Nat), (fe ≤ 16) → (sameM f f2 g g2) → (MBase f2 g2) → (findR (f 5) g en pa pb (16 - fe) fe = findR (f 5) g en pa pb 16 0) → (16 - fe) < n → ∀ (H : Heap) (locs : List Loc), va_P D vwCl [(ad 0, .inr (5, [.ref (ad 1), .ref (ad 2), .ref (ad 3), .ref (ad 4), .ref (ad 5), .int (nI (f2 5)), .ref (ad 6), .int (nI (f2 7)), .int (nI (f2 8)), .int (nI (f2 9)), .int (nI (f2 10)), .int (nI (f2 11)), .int (nI (f2 12)), .int (nI (f2 13)), .ref (ad 7), .ref (ad 8), .ref (ad 9), .ref (ad 10), .ref (ad 11), .int (nI (f2 19)), .int (nI (f2 20)), .int (nI (f2 21)), .ref (ad 12)])), (ad 1, .inl (ka 1, 5, .inl (nA (g2 1)))), (ad 2, .inl (ka 2, 40, .inl (nA (g2 2)))), (ad 3, .inl (ka 3, 160, .inl (nA (g2 3)))), (ad 4, .inl (ka 4, 4, .inl (nA (g2 4)))), (ad 5, .inl (ka 5, 4, .inl (nA (g2 5)))), (ad 6, .inl (ka 6, 200, .inl (nA (g2 6)))), (ad 7, .inl (ka 7, 12001, .inr (.inl (lA t2)))), (ad 8, .inl (ka 8, 12001, .inl (nA (g2 8)))), (ad 9, .inl (ka 9, 12001, .inl (nA (g2 9)))), (ad 10, .inl (ka 10, 12001, .inl (nA (g2 10)))), (ad 11, .inl (ka 11, 32768, .inl (nA (g2 11)))), (ad 12, .inl (ka 12, 64, .inl (nA (g2 12))))] H → va_D Ar [(ad 0, .inr (5, [.ref (ad 1), .ref (ad 2), .ref (ad 3), .ref (ad 4), .ref (ad 5), .int (nI (f2 5)), .ref (ad 6), .int (nI (f2 7)), .int (nI (f2 8)), .int (nI (f2 9)), .int (nI (f2 10)), .int (nI (f2 11)), .int (nI (f2 12)), .int (nI (f2 13)), .ref (ad 7), .ref (ad 8), .ref (ad 9), .ref (ad 10), .ref (ad 11), .int (nI (f2 19)), .int (nI (f2 20)), .int (nI (f2 21)), .ref (ad 12)])), (ad 1, .inl (ka 1, 5, .inl (nA (g2 1)))), (ad 2, .inl (ka 2, 40, .inl (nA (g2 2)))), (ad 3, .inl (ka 3, 160, .inl (nA (g2 3)))), (ad 4, .inl (ka 4, 4, .inl (nA (g2 4)))), (ad 5, .inl (ka 5, 4, .inl (nA (g2 5)))), (ad 6, .inl (ka 6, 200, .inl (nA (g2 6)))), (ad 7, .inl (ka 7, 12001, .inr (.inl (lA t2)))), (ad 8, .inl (ka 8, 12001, .inl (nA (g2 8)))), (ad 9, .inl (ka 9, 12001, .inl (nA (g2 9)))), (ad 10, .inl (ka 10, 12001, .inl (nA (g2 10)))), (ad 11, .inl (ka 11, 32768, .inl (nA (g2 11)))), (ad 12, .inl (ka 12, 64, .inl (nA (g2 12))))] → va_S Ar s.heap H locs → ∀ ls : Array Slot, lv_has ls 6 [(0, .ref (ad 0)), (1, .int (nI en)), (2, .int (nI pa)), (3, .int (nI pb)), (4, .int (nI fe))] → W p l e ({ frames := 9, cells := 0, slots := 0, locals := 219 } : Room) s m (([.ref (ad 0), .int (nI en), .int (nI pa), .int (nI pb)] : List Value).toArray) below meth c H locs 0 0 Q (F0 m 3 ls []) := by
    intro n3
    induction n3 with
    | zero => intro fe f2 g2 t2 hfe hsm hMB hR hm3; exact absurd hm3 (Nat.not_lt_zero _)
    | succ n3 ih3 =>
      intro fe f2 g2 t2 hfe hsm hMB hR hm3 H locs hP hD hS ls hl
      refine lv_iload hx hb dX5_find_3 (lv_at hl 4 rfl) ?_
      refine lv_bipush (v := nI 16) hx hb dX5_find_5 (by decide) ?_
      refine lv_icmp_ge (tgt := 91) hx hb dX5_find_7 (by decide) (fun c7_1 => ?_) (fun c7_1 => ?_)
      · have c7_1 : 16 ≤ fe := (nI_leI (a := 16) (b := fe) (by omega) (by omega)).mp c7_1
        refine lv_iconst (v := nI 4294967295) hx hb dX5_find_91 (by decide) ?_
        subst hQ
        exact rwi (f2, g2, t2) hx hb hr hlocks (⟨hsm, hMB, by rw [← hR]; exact congrArg nI ((findR_0 (by omega)).symm)⟩) hP hK hD hS dX5_find_92
      · have c7_1 : ¬ (16 ≤ fe) := fun h9 => c7_1 ((nI_leI (a := 16) (b := fe) (by omega) (by omega)).mpr h9)
        refine lv_iload hx hb dX5_find_10 (lv_at hl 4 rfl) ?_
        refine lv_bipush (v := nI 8) hx hb dX5_find_12 (by decide) ?_
        refine lv_idiv hx hb dX5_find_14 (nI_ne0 (by omega) (by omega)) ?_
        refine lv_topE (nI (fe / 8)) (pk_div (by omega) (by omega) (by omega)) ?_
        refine lv_istore (lv' := [(5, .int (nI (fe / 8))), (0, .ref (ad 0)), (1, .int (nI en)), (2, .int (nI pa)), (3, .int (nI pb)), (4, .int (nI fe))]) hx hb dX5_find_15 hl (by decide) rfl (fun ls hl => ?_)
        have hl7 := (hM.1 (fe / 8) (by omega)).1
        refine lv_aload_n hx hb dX5_find_17 rfl (lv_at hl 1 rfl) ?_
        refine va_get (D := D) (ci := 5) (v := .ref (ad 1)) (C := RX5) (T := TX5) (N := 23) hx hb hU iX5 hown hK hP 0 rfl rfl 0 (by decide) (hU _ mU_75) (fun _ h9 => h9) rfl dX5_find_18 ?_
        refine lv_iload hx hb dX5_find_21 (lv_at hl 0 rfl) ?_
        refine n_iald hx hb hK hP 1 0 rfl rfl (i := fe / 8) (by omega) (by decide) dX5_find_23 ?_
        refine lv_topE (nI (g 1 (fe / 8))) (congrArg nI (prM_len hsm.2.1 (by omega))) ?_
        refine lv_bipush (v := nI 7) hx hb dX5_find_24 (by decide) ?_
        refine lv_icmp_eq (tgt := 85) hx hb dX5_find_26 (by decide) (fun c26_2 => ?_) (fun c26_2 => ?_)
        · have c26_2 : g 1 (fe / 8) = 7 := (nI_eqG (a := g 1 (fe / 8)) (b := 7) (by omega) (by omega)).mp c26_2
          refine lv_iinc (v := nI (fe + 1)) (lv' := [(4, .int (nI (fe + 1))), (5, .int (nI (fe / 8))), (0, .ref (ad 0)), (1, .int (nI en)), (2, .int (nI pa)), (3, .int (nI pb))]) hx hb dX5_find_85 hl (k := 5) rfl (by rw [show Int32.ofInt 1 = nI 1 from by decide, nI_add]) (by decide) rfl (fun ls hl => ?_)
          refine lv_goto (tgt := 3) hx hb dX5_find_88 (by decide) ?_
          exact ih3 (fe + 1) f2 g2 t2 (by omega) (hsm) (hMB) (findR_7 hR (by omega) c26_2) (by omega) _ _ hP hD hS _ (lv_sub hl [2, 3, 4, 5, 0] rfl)
        · have c26_2 : ¬ (g 1 (fe / 8) = 7) := fun h9 => c26_2 ((nI_eqG (a := g 1 (fe / 8)) (b := 7) (by omega) (by omega)).mpr h9)
          refine lv_iload hx hb dX5_find_29 (lv_at hl 5 rfl) ?_
          refine lv_bipush (v := nI 8) hx hb dX5_find_31 (by decide) ?_
          refine lv_irem hx hb dX5_find_33 (nI_ne0 (by omega) (by omega)) ?_
          refine lv_topE (nI (fe % 8)) (pk_rem (by omega) (by omega) (by omega)) ?_
          refine lv_aload_n hx hb dX5_find_34 rfl (lv_at hl 1 rfl) ?_
          refine va_get (D := D) (ci := 5) (v := .ref (ad 1)) (C := RX5) (T := TX5) (N := 23) hx hb hU iX5 hown hK hP 0 rfl rfl 0 (by decide) (hU _ mU_75) (fun _ h9 => h9) rfl dX5_find_35 ?_
          refine lv_iload hx hb dX5_find_38 (lv_at hl 0 rfl) ?_
          refine n_iald hx hb hK hP 1 0 rfl rfl (i := fe / 8) (by omega) (by decide) dX5_find_40 ?_
          refine lv_topE (nI (g 1 (fe / 8))) (congrArg nI (prM_len hsm.2.1 (by omega))) ?_
          refine lv_icmp_lt (tgt := 47) hx hb dX5_find_41 (by decide) (fun c41_3 => ?_) (fun c41_3 => ?_)
          · have c41_3 : fe % 8 < g 1 (fe / 8) := (nI_ltI (a := fe % 8) (b := g 1 (fe / 8)) (by omega) (by omega)).mp c41_3
            refine lv_aload_n hx hb dX5_find_47 rfl (lv_at hl 1 rfl) ?_
            refine lv_iload hx hb dX5_find_48 (lv_at hl 5 rfl) ?_
            refine kVv (As := [.int (nI fe)]) (rest := []) (wr := []) ⟨hx, hb, hml, hown, hts⟩ (c_X5_lay l D ad ka f2 g2 t2 H.size fe (show ∀ a, a < 6 → ∀ i, g2 a i < 2147483648 from hMB.2.1) (show okP g2 from hMB.1) (show ∀ h, h < 2 → layL g2 fe h ≤ 7 from (lay7 hMB.1 (fun h hh q => fence7 hsm.2.1 hl7 c26_2 (by omega) q))) (show fe = 4294967295 ∨ (fe < 16 ∧ fe % 8 < (g2 1) (fe / 8)) from Or.inr ⟨by omega, by rw [prM_len hsm.2.1 (by omega)]; exact c41_3⟩)) (cwV 1 hts (gV mU_472 mU_473 mU_474 mU_6 mU_475) rfl rfl rfl (by decide +kernel) ⟨Nat.le_of_ble_eq_true rfl, Nat.le_of_ble_eq_true rfl⟩) (va_recv hK hP (ci := 5) (q0 := 0) rfl rfl) hP hK hD hS hA [0, 1, 2, 3, 4, 5, 6, 7, 8, 9, 10, 11, 12] [] [0, 1, 2, 3, 4, 5, 6, 7, 8, 9, 10, 11] [] rfl rfl rfl rfl (by decide) rfl rfl rfl hl.1 rfl (Nat.le_of_ble_eq_true rfl) dX5_find_50 ⟨by decide, by decide⟩ (fun u H locs hw hP hD hK hS => ?_)
            obtain ⟨l1, s2, n3, hu, hLA, hLB⟩ := hw
            subst hu
            have hP : va_P D vwCl [(ad 0, .inr (5, [.ref (ad 1), .ref (ad 2), .ref (ad 3), .ref (ad 4), .ref (ad 5), .int (nI (f2 5)), .ref (ad 6), .int (nI (f2 7)), .int (nI (f2 8)), .int (nI (f2 9)), .int (nI (f2 10)), .int (nI (f2 11)), .int (nI (f2 12)), .int (nI (f2 13)), .ref (ad 7), .ref (ad 8), .ref (ad 9), .ref (ad 10), .ref (ad 11), .int (nI (f2 19)), .int (nI (f2 20)), .int (nI (f2 21)), .ref (ad 12)])), (ad 1, .inl (ka 1, 5, .inl (nA l1))), (ad 2, .inl (ka 2, 40, .inl (nA s2))), (ad 3, .inl (ka 3, 160, .inl (nA n3))), (ad 4, .inl (ka 4, 4, .inl (nA (g2 4)))), (ad 5, .inl (ka 5, 4, .inl (nA (g2 5)))), (ad 6, .inl (ka 6, 200, .inl (nA (g2 6)))), (ad 7, .inl (ka 7, 12001, .inr (.inl (lA t2)))), (ad 8, .inl (ka 8, 12001, .inl (nA (g2 8)))), (ad 9, .inl (ka 9, 12001, .inl (nA (g2 9)))), (ad 10, .inl (ka 10, 12001, .inl (nA (g2 10)))), (ad 11, .inl (ka 11, 32768, .inl (nA (g2 11)))), (ad 12, .inl (ka 12, 64, .inl (nA (g2 12))))] H := hP
            have hD : va_D Ar [(ad 0, .inr (5, [.ref (ad 1), .ref (ad 2), .ref (ad 3), .ref (ad 4), .ref (ad 5), .int (nI (f2 5)), .ref (ad 6), .int (nI (f2 7)), .int (nI (f2 8)), .int (nI (f2 9)), .int (nI (f2 10)), .int (nI (f2 11)), .int (nI (f2 12)), .int (nI (f2 13)), .ref (ad 7), .ref (ad 8), .ref (ad 9), .ref (ad 10), .ref (ad 11), .int (nI (f2 19)), .int (nI (f2 20)), .int (nI (f2 21)), .ref (ad 12)])), (ad 1, .inl (ka 1, 5, .inl (nA l1))), (ad 2, .inl (ka 2, 40, .inl (nA s2))), (ad 3, .inl (ka 3, 160, .inl (nA n3))), (ad 4, .inl (ka 4, 4, .inl (nA (g2 4)))), (ad 5, .inl (ka 5, 4, .inl (nA (g2 5)))), (ad 6, .inl (ka 6, 200, .inl (nA (g2 6)))), (ad 7, .inl (ka 7, 12001, .inr (.inl (lA t2)))), (ad 8, .inl (ka 8, 12001, .inl (nA (g2 8)))), (ad 9, .inl (ka 9, 12001, .inl (nA (g2 9)))), (ad 10, .inl (ka 10, 12001, .inl (nA (g2 10)))), (ad 11, .inl (ka 11, 32768, .inl (nA (g2 11)))), (ad 12, .inl (ka 12, 64, .inl (nA (g2 12))))] := hD
            have hK : va_K D vwCl (mT ka) s := hK.sub [0, 1, 2, 3, 4, 5, 6, 7, 8, 9, 10, 11] rfl
            refine lv_aload_n hx hb dX5_find_53 rfl (lv_at hl 1 rfl) ?_
            refine kVv (As := []) (rest := []) (wr := []) ⟨hx, hb, hml, hown, hts⟩ (c_X5_walkOn l D ad ka f2 (upA (upA (upA (g2) 1 (l1)) 2 (s2)) 3 (n3)) t2 H.size  (show ∀ a, a < 6 → ∀ i, (upA (upA (upA (g2) 1 (l1)) 2 (s2)) 3 (n3)) a i < 2147483648 from hg_lay0 hMB.2.1 hLB) (show okL (upA (upA (upA (g2) 1 (l1)) 2 (s2)) 3 (n3)) from okL_of hMB.1 (lay7 hMB.1 (fun h hh q => fence7 hsm.2.1 hl7 c26_2 (by omega) q)) hLA) (show (f2 5) < 2 from hMB.2.2.1) (show ∀ w, w < 4 → (g2 4) w < 4 from hMB.2.2.2.1)) (cwV 0 hts (gV mU_476 mU_477 mU_478 mU_6 mU_479) rfl rfl rfl (by decide +kernel) ⟨Nat.le_of_ble_eq_true rfl, Nat.le_of_ble_eq_true rfl⟩) (va_recv hK hP (ci := 5) (q0 := 0) rfl rfl) hP hK hD hS hA [0, 1, 2, 3, 4, 5, 6, 7, 8, 9, 10, 11, 12] [] [0, 1, 2, 3, 4, 5, 6, 7, 8, 9, 10, 11] [] rfl rfl rfl rfl (by decide) rfl rfl rfl hl.1 rfl (Nat.le_of_ble_eq_true rfl) dX5_find_54 ⟨by decide, by decide⟩ (fun u H locs hw hP hD hK hS => ?_)
            obtain ⟨tw5, htw5, hu⟩ := hw
            subst hu
            have hP : va_P D vwCl [(ad 0, .inr (5, [.ref (ad 1), .ref (ad 2), .ref (ad 3), .ref (ad 4), .ref (ad 5), .int (nI (f2 5)), .ref (ad 6), .int (nI (f2 7)), .int (nI (f2 8)), .int (nI (f2 9)), .int (nI (f2 10)), .int (nI (f2 11)), .int (nI (f2 12)), .int (nI (f2 13)), .ref (ad 7), .ref (ad 8), .ref (ad 9), .ref (ad 10), .ref (ad 11), .int (nI ((walkB (f2 5) (upA (upA (upA (g2) 1 (l1)) 2 (s2)) 3 (n3)) t2 (g2 8) (g2 9) (g2 10)).1)), .int (nI (f2 20)), .int (nI (f2 21)), .ref (ad 12)])), (ad 1, .inl (ka 1, 5, .inl (nA l1))), (ad 2, .inl (ka 2, 40, .inl (nA s2))), (ad 3, .inl (ka 3, 160, .inl (nA n3))), (ad 4, .inl (ka 4, 4, .inl (nA (g2 4)))), (ad 5, .inl (ka 5, 4, .inl (nA (g2 5)))), (ad 6, .inl (ka 6, 200, .inl (nA (g2 6)))), (ad 7, .inl (ka 7, 12001, .inr (.inl (lA ((walkB (f2 5) (upA (upA (upA (g2) 1 (l1)) 2 (s2)) 3 (n3)) t2 (g2 8) (g2 9) (g2 10)).2.1))))), (ad 8, .inl (ka 8, 12001, .inl (nA ((walkB (f2 5) (upA (upA (upA (g2) 1 (l1)) 2 (s2)) 3 (n3)) t2 (g2 8) (g2 9) (g2 10)).2.2.1)))), (ad 9, .inl (ka 9, 12001, .inl (nA ((walkB (f2 5) (upA (upA (upA (g2) 1 (l1)) 2 (s2)) 3 (n3)) t2 (g2 8) (g2 9) (g2 10)).2.2.2.1)))), (ad 10, .inl (ka 10, 12001, .inl (nA ((walkB (f2 5) (upA (upA (upA (g2) 1 (l1)) 2 (s2)) 3 (n3)) t2 (g2 8) (g2 9) (g2 10)).2.2.2.2)))), (ad 11, .inl (ka 11, 32768, .inl (nA tw5))), (ad 12, .inl (ka 12, 64, .inl (nA (g2 12))))] H := hP
            have hD : va_D Ar [(ad 0, .inr (5, [.ref (ad 1), .ref (ad 2), .ref (ad 3), .ref (ad 4), .ref (ad 5), .int (nI (f2 5)), .ref (ad 6), .int (nI (f2 7)), .int (nI (f2 8)), .int (nI (f2 9)), .int (nI (f2 10)), .int (nI (f2 11)), .int (nI (f2 12)), .int (nI (f2 13)), .ref (ad 7), .ref (ad 8), .ref (ad 9), .ref (ad 10), .ref (ad 11), .int (nI ((walkB (f2 5) (upA (upA (upA (g2) 1 (l1)) 2 (s2)) 3 (n3)) t2 (g2 8) (g2 9) (g2 10)).1)), .int (nI (f2 20)), .int (nI (f2 21)), .ref (ad 12)])), (ad 1, .inl (ka 1, 5, .inl (nA l1))), (ad 2, .inl (ka 2, 40, .inl (nA s2))), (ad 3, .inl (ka 3, 160, .inl (nA n3))), (ad 4, .inl (ka 4, 4, .inl (nA (g2 4)))), (ad 5, .inl (ka 5, 4, .inl (nA (g2 5)))), (ad 6, .inl (ka 6, 200, .inl (nA (g2 6)))), (ad 7, .inl (ka 7, 12001, .inr (.inl (lA ((walkB (f2 5) (upA (upA (upA (g2) 1 (l1)) 2 (s2)) 3 (n3)) t2 (g2 8) (g2 9) (g2 10)).2.1))))), (ad 8, .inl (ka 8, 12001, .inl (nA ((walkB (f2 5) (upA (upA (upA (g2) 1 (l1)) 2 (s2)) 3 (n3)) t2 (g2 8) (g2 9) (g2 10)).2.2.1)))), (ad 9, .inl (ka 9, 12001, .inl (nA ((walkB (f2 5) (upA (upA (upA (g2) 1 (l1)) 2 (s2)) 3 (n3)) t2 (g2 8) (g2 9) (g2 10)).2.2.2.1)))), (ad 10, .inl (ka 10, 12001, .inl (nA ((walkB (f2 5) (upA (upA (upA (g2) 1 (l1)) 2 (s2)) 3 (n3)) t2 (g2 8) (g2 9) (g2 10)).2.2.2.2)))), (ad 11, .inl (ka 11, 32768, .inl (nA tw5))), (ad 12, .inl (ka 12, 64, .inl (nA (g2 12))))] := hD
            obtain ⟨bw5, ebw5⟩ : ∃ b : BT, walkB (f2 5) (upA (upA (upA (g2) 1 (l1)) 2 (s2)) 3 (n3)) t2 (g2 8) (g2 9) (g2 10) = b := ⟨_, rfl⟩
            rw [ebw5] at hP hD
            have hP : va_P D vwCl [(ad 0, .inr (5, [.ref (ad 1), .ref (ad 2), .ref (ad 3), .ref (ad 4), .ref (ad 5), .int (nI (f2 5)), .ref (ad 6), .int (nI (f2 7)), .int (nI (f2 8)), .int (nI (f2 9)), .int (nI (f2 10)), .int (nI (f2 11)), .int (nI (f2 12)), .int (nI (f2 13)), .ref (ad 7), .ref (ad 8), .ref (ad 9), .ref (ad 10), .ref (ad 11), .int (nI bw5.1), .int (nI (f2 20)), .int (nI (f2 21)), .ref (ad 12)])), (ad 1, .inl (ka 1, 5, .inl (nA l1))), (ad 2, .inl (ka 2, 40, .inl (nA s2))), (ad 3, .inl (ka 3, 160, .inl (nA n3))), (ad 4, .inl (ka 4, 4, .inl (nA (g2 4)))), (ad 5, .inl (ka 5, 4, .inl (nA (g2 5)))), (ad 6, .inl (ka 6, 200, .inl (nA (g2 6)))), (ad 7, .inl (ka 7, 12001, .inr (.inl (lA bw5.2.1)))), (ad 8, .inl (ka 8, 12001, .inl (nA bw5.2.2.1))), (ad 9, .inl (ka 9, 12001, .inl (nA bw5.2.2.2.1))), (ad 10, .inl (ka 10, 12001, .inl (nA bw5.2.2.2.2))), (ad 11, .inl (ka 11, 32768, .inl (nA tw5))), (ad 12, .inl (ka 12, 64, .inl (nA (g2 12))))] H := hP
            have hD : va_D Ar [(ad 0, .inr (5, [.ref (ad 1), .ref (ad 2), .ref (ad 3), .ref (ad 4), .ref (ad 5), .int (nI (f2 5)), .ref (ad 6), .int (nI (f2 7)), .int (nI (f2 8)), .int (nI (f2 9)), .int (nI (f2 10)), .int (nI (f2 11)), .int (nI (f2 12)), .int (nI (f2 13)), .ref (ad 7), .ref (ad 8), .ref (ad 9), .ref (ad 10), .ref (ad 11), .int (nI bw5.1), .int (nI (f2 20)), .int (nI (f2 21)), .ref (ad 12)])), (ad 1, .inl (ka 1, 5, .inl (nA l1))), (ad 2, .inl (ka 2, 40, .inl (nA s2))), (ad 3, .inl (ka 3, 160, .inl (nA n3))), (ad 4, .inl (ka 4, 4, .inl (nA (g2 4)))), (ad 5, .inl (ka 5, 4, .inl (nA (g2 5)))), (ad 6, .inl (ka 6, 200, .inl (nA (g2 6)))), (ad 7, .inl (ka 7, 12001, .inr (.inl (lA bw5.2.1)))), (ad 8, .inl (ka 8, 12001, .inl (nA bw5.2.2.1))), (ad 9, .inl (ka 9, 12001, .inl (nA bw5.2.2.2.1))), (ad 10, .inl (ka 10, 12001, .inl (nA bw5.2.2.2.2))), (ad 11, .inl (ka 11, 32768, .inl (nA tw5))), (ad 12, .inl (ka 12, 64, .inl (nA (g2 12))))] := hD
            have hK : va_K D vwCl (mT ka) s := hK.sub [0, 1, 2, 3, 4, 5, 6, 7, 8, 9, 10, 11] rfl
            have hwl := walked_lay (tb := tw5) (mf := f2 5) (t := t2) (p := g2 8) (q := g2 9) (r := g2 10) hMB.1 (lay7 hMB.1 (fun h hh q => fence7 hsm.2.1 hl7 c26_2 (by omega) q)) hMB.2.2.2.1 hLA bw5 ebw5
            have h12 := hwl.2.1.1
            have hwo := walk_of (mf := f2 5) (t := t2) (p := g2 8) (q := g2 9) (r := g2 10) hMB.1 (lay7 hMB.1 (fun h hh q => fence7 hsm.2.1 hl7 c26_2 (by omega) q)) hMB.2.2.2.1 hLA hsm.2.1 hsm.2.2.1 hsm.2.2.2.1 bw5 ebw5
            rw [show f2 5 = f 5 from hsm.1 5 (by decide) (by decide)] at hwo
            refine lv_aload_n hx hb dX5_find_57 rfl (lv_at hl 1 rfl) ?_
            refine va_get (D := D) (ci := 5) (v := .int (nI bw5.1)) (C := RX5) (T := TX5) (N := 23) hx hb hU iX5 hown hK hP 0 rfl rfl 19 (by decide) (hU _ mU_467) (fun _ h9 => h9) rfl dX5_find_58 ?_
            refine lv_sipush (v := nI 12000) hx hb dX5_find_61 (by decide) ?_
            refine lv_icmp_le (tgt := 70) hx hb dX5_find_64 (by decide) (fun c64_7 => ?_) (fun c64_7 => ?_)
            · have c64_7 : bw5.1 ≤ 12000 := (nI_leI (a := bw5.1) (b := 12000) (by omega) (by omega)).mp c64_7
              refine lv_aload_n hx hb dX5_find_70 rfl (lv_at hl 1 rfl) ?_
              refine lv_iload hx hb dX5_find_71 (lv_at hl 5 rfl) ?_
              refine lv_iload_n hx hb dX5_find_73 rfl (lv_at hl 2 rfl) ?_
              refine lv_iload_n hx hb dX5_find_74 rfl (lv_at hl 3 rfl) ?_
              refine lv_iload_n hx hb dX5_find_75 rfl (lv_at hl 4 rfl) ?_
              refine cVi (As := [.int (nI fe), .int (nI en), .int (nI pa), .int (nI pb)]) (rest := []) ⟨hx, hb, hml, hown, hts⟩ (c_X5_isBarred l D ad ka (upN (f2) 19 (bw5.1)) (upA (upA (upA (upA (upA (upA (upA (g2) 1 (l1)) 2 (s2)) 3 (n3)) 8 (bw5.2.2.1)) 9 (bw5.2.2.2.1)) 10 (bw5.2.2.2.2)) 11 (tw5)) bw5.2.1 fe en pa pb (show ∀ a, a < 6 → ∀ i, (upA (upA (upA (upA (upA (upA (upA (g2) 1 (l1)) 2 (s2)) 3 (n3)) 8 (bw5.2.2.1)) 9 (bw5.2.2.2.1)) 10 (bw5.2.2.2.2)) 11 (tw5)) a i < 2147483648 from hg_lay hMB.2.1 hLB) (show okL (upA (upA (upA (upA (upA (upA (upA (g2) 1 (l1)) 2 (s2)) 3 (n3)) 8 (bw5.2.2.1)) 9 (bw5.2.2.2.1)) 10 (bw5.2.2.2.2)) 11 (tw5)) from okL_of hMB.1 (lay7 hMB.1 (fun h hh q => fence7 hsm.2.1 hl7 c26_2 (by omega) q)) hLA) (show (f2 5) < 2 from hMB.2.2.1) (show ∀ i, i < bw5.1 → wfM (upA (upA (upA (upA (upA (upA (upA (g2) 1 (l1)) 2 (s2)) 3 (n3)) 8 (bw5.2.2.1)) 9 (bw5.2.2.2.1)) 10 (bw5.2.2.2.2)) 11 (tw5)) (bw5.2.1 i) from fun i hi => (hwl.2.1.2 i hi).1) (show bw5.1 ≤ 12001 from hwl.2.1.1) (show fe < 16 from by omega) (show en < 2 from by omega) (show (en = 0 → pa < 8 ∧ pb < 8 ∧ (if fe / 8 = 0 ∧ fe % 8 ≤ pa then pa + 1 else pa) < 8 ∧ (if fe / 8 = 1 ∧ fe % 8 ≤ pb then pb + 1 else pb) < 8) ∧ (¬ en = 0 → pa < 256 ∧ pb < 16) from bar_ab hab hM.1 (by omega) hl7 c26_2)) (cwV 4 hts (gV mU_652 mU_653 mU_654 mU_6 mU_655) rfl rfl rfl (by decide +kernel) ⟨Nat.le_of_ble_eq_true rfl, Nat.le_of_ble_eq_true rfl⟩) fbR (va_recv hK hP (ci := 5) (q0 := 0) rfl rfl) (PR.of hP hK) rfl hl.1 rfl (Nat.le_of_ble_eq_true rfl) dX5_find_76 ⟨Nat.zero_le _, Nat.zero_le _⟩ ?_
              refine lv_topE (bP (2147483648 ≤ barN (f 5) (upA (upA (upA (upA (upA (upA (upA (g2) 1 (l1)) 2 (s2)) 3 (n3)) 8 (bw5.2.2.1)) 9 (bw5.2.2.2.1)) 10 (bw5.2.2.2.2)) 11 (tw5)) bw5.1 bw5.2.1 fe en pa pb)) (by rw [show f 5 = f2 5 from (hsm.1 5 (by decide) (by decide)).symm]; rfl) ?_
              have hbe := bar_congr (mf := f 5) (fe := fe) (en := en) (pa := pa) (pb := pb) (g := upA (upA (upA (upA (upA (upA (upA (g2) 1 (l1)) 2 (s2)) 3 (n3)) 8 (bw5.2.2.1)) 9 (bw5.2.2.2.1)) 10 (bw5.2.2.2.2)) 11 (tw5)) hwo.2 (okL_of hMB.1 (lay7 hMB.1 (fun h hh q => fence7 hsm.2.1 hl7 c26_2 (by omega) q)) hLA) (fun i hi => (hwl.2.1.2 i hi).1) hwo.1
              refine lv_if_eq (tgt := 85) hx hb dX5_find_79 (by decide) (fun c79_8 => ?_) (fun c79_8 => ?_)
              · have c79_8 : ¬ (2147483648 ≤ barN (f 5) (upA (upA (upA (upA (upA (upA (upA (g2) 1 (l1)) 2 (s2)) 3 (n3)) 8 (bw5.2.2.1)) 9 (bw5.2.2.2.1)) 10 (bw5.2.2.2.2)) 11 (tw5)) bw5.1 bw5.2.1 fe en pa pb) := bP_f c79_8
                refine lv_iinc (v := nI (fe + 1)) (lv' := [(4, .int (nI (fe + 1))), (5, .int (nI (fe / 8))), (0, .ref (ad 0)), (1, .int (nI en)), (2, .int (nI pa)), (3, .int (nI pb))]) hx hb dX5_find_85 hl (k := 5) rfl (by rw [show Int32.ofInt 1 = nI 1 from by decide, nI_add]) (by decide) rfl (fun ls hl => ?_)
                refine lv_goto (tgt := 3) hx hb dX5_find_88 (by decide) ?_
                exact ih3 (fe + 1) (upN (f2) 19 (bw5.1)) (upA (upA (upA (upA (upA (upA (upA (g2) 1 (l1)) 2 (s2)) 3 (n3)) 8 (bw5.2.2.1)) 9 (bw5.2.2.2.1)) 10 (bw5.2.2.2.2)) 11 (tw5)) bw5.2.1 (by omega) (sameM_trans hsm ⟨fun k h1 h2 => upN_n h1, ⟨hLA.1, hLA.2.1, hLA.2.2.1⟩, rfl, rfl, rfl, rfl⟩) (MBase_same hMB ⟨fun k h1 h2 => upN_n h1, ⟨hLA.1, hLA.2.1, hLA.2.2.1⟩, rfl, rfl, rfl, rfl⟩ (hg_lay hMB.2.1 hLB) hMB.2.2.2.2.2.2.2.2.2.1) (findR_on hR (by omega) c26_2 c41_3 (by rw [← hwo.1.1]; omega) (by rw [← hbe]; exact c79_8)) (by omega) _ _ hP hD hS _ (lv_sub hl [2, 3, 4, 5, 0] rfl)
              · have c79_8 : 2147483648 ≤ barN (f 5) (upA (upA (upA (upA (upA (upA (upA (g2) 1 (l1)) 2 (s2)) 3 (n3)) 8 (bw5.2.2.1)) 9 (bw5.2.2.2.1)) 10 (bw5.2.2.2.2)) 11 (tw5)) bw5.1 bw5.2.1 fe en pa pb := bP_t c79_8
                refine lv_iload hx hb dX5_find_82 (lv_at hl 5 rfl) ?_
                subst hQ
                exact rwi (upN (f2) 19 (bw5.1), upA (upA (upA (upA (upA (upA (upA (g2) 1 (l1)) 2 (s2)) 3 (n3)) 8 (bw5.2.2.1)) 9 (bw5.2.2.2.1)) 10 (bw5.2.2.2.2)) 11 (tw5), bw5.2.1) hx hb hr hlocks (⟨sameM_trans hsm ⟨fun k h1 h2 => upN_n h1, ⟨hLA.1, hLA.2.1, hLA.2.2.1⟩, rfl, rfl, rfl, rfl⟩, MBase_same hMB ⟨fun k h1 h2 => upN_n h1, ⟨hLA.1, hLA.2.1, hLA.2.2.1⟩, rfl, rfl, rfl, rfl⟩ (hg_lay hMB.2.1 hLB) hMB.2.2.2.2.2.2.2.2.2.1, by rw [← hR]; exact congrArg nI ((findR_y (by omega) c26_2 c41_3 (by rw [← hwo.1.1]; omega) (by rw [← hbe]; exact c79_8)).symm)⟩) hP hK hD hS dX5_find_84
            · have c64_7 : ¬ (bw5.1 ≤ 12000) := fun h9 => c64_7 ((nI_leI (a := bw5.1) (b := 12000) (by omega) (by omega)).mpr h9)
              refine lv_bipush (v := nI 4294967294) hx hb dX5_find_67 (by decide) ?_
              subst hQ
              exact rwi (upN (f2) 19 (bw5.1), upA (upA (upA (upA (upA (upA (upA (g2) 1 (l1)) 2 (s2)) 3 (n3)) 8 (bw5.2.2.1)) 9 (bw5.2.2.2.1)) 10 (bw5.2.2.2.2)) 11 (tw5), bw5.2.1) hx hb hr hlocks (⟨sameM_trans hsm ⟨fun k h1 h2 => upN_n h1, ⟨hLA.1, hLA.2.1, hLA.2.2.1⟩, rfl, rfl, rfl, rfl⟩, MBase_same hMB ⟨fun k h1 h2 => upN_n h1, ⟨hLA.1, hLA.2.1, hLA.2.2.1⟩, rfl, rfl, rfl, rfl⟩ (hg_lay hMB.2.1 hLB) hMB.2.2.2.2.2.2.2.2.2.1, by rw [← hR]; exact congrArg nI ((findR_m (by omega) c26_2 c41_3 (by rw [← hwo.1.1]; omega)).symm)⟩) hP hK hD hS dX5_find_69
          · have c41_3 : ¬ (fe % 8 < g 1 (fe / 8)) := fun h9 => c41_3 ((nI_ltI (a := fe % 8) (b := g 1 (fe / 8)) (by omega) (by omega)).mpr h9)
            refine lv_goto (tgt := 85) hx hb dX5_find_44 (by decide) ?_
            refine lv_iinc (v := nI (fe + 1)) (lv' := [(4, .int (nI (fe + 1))), (5, .int (nI (fe / 8))), (0, .ref (ad 0)), (1, .int (nI en)), (2, .int (nI pa)), (3, .int (nI pb))]) hx hb dX5_find_85 hl (k := 5) rfl (by rw [show Int32.ofInt 1 = nI 1 from by decide, nI_add]) (by decide) rfl (fun ls hl => ?_)
            refine lv_goto (tgt := 3) hx hb dX5_find_88 (by decide) ?_
            exact ih3 (fe + 1) f2 g2 t2 (by omega) (hsm) (hMB) (findR_no hR (by omega) c26_2 c41_3) (by omega) _ _ hP hD hS _ (lv_sub hl [2, 3, 4, 5, 0] rfl)
  exact L3_24 (16 + 1) 0 f g t (Nat.zero_le _) (sameM_rfl f g) (hM) (rfl) (Nat.lt_succ_self _) _ _ hP hD hS _ (lv_sub hl [1, 2, 3, 4, 0] rfl)

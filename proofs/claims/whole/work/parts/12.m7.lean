theorem bnd_u {q : Nat → Nat} {k v : Nat} (h : ∀ j, q j < 2147483648) (hv : v < 2147483648) : ∀ j, upN q k v j < 2147483648 := fun j => by
  by_cases e : j = k
  · rw [e, upN_s]; exact hv
  · rw [upN_n e]; exact h j
theorem bnd_s {q : Nat → Nat} {k a : Nat} (h : ∀ j, q j < 2147483648) : ∀ j, upN q k (q a) j < 2147483648 := bnd_u h (h a)
theorem bnd_c {q : Nat → Nat} {a b : Nat} (h : ∀ j, q j < 2147483648) : ∀ j, cp4 q a b j < 2147483648 := fun j => by
  unfold cp4; split <;> exact h _
theorem cp4_at {q : Nat → Nat} {a b w : Nat} (h : w < 4) : cp4 q a b (4 * b + w) = q (4 * a + w) := by
  unfold cp4; rw [if_pos (by omega)]; congr 1; omega
theorem lay_mle {g : Nat → Nat → Nat} {fe h i m : Nat} (hm : m = if fIn g fe h ∧ fe % 8 < i then i + 1 else i) : m ≤ i + 1 := by split at hm <;> omega
theorem lay_mA {g : Nat → Nat → Nat} {fe h i m : Nat} (hm : m = if fIn g fe h ∧ fe % 8 < i then i + 1 else i) (e : fe = 8 * h + i) (hi : i < g 1 h) (h8 : i < 8) : m = i ∧ m + 1 + 1 = if fIn g fe h ∧ fe % 8 < i + 1 then i + 1 + 1 else i + 1 := by
  have e1 : fe / 8 = h := by omega
  have e2 : fe % 8 = i := by omega
  rw [if_neg (fun q => by omega)] at hm
  rw [if_pos ⟨⟨e1, by omega⟩, by omega⟩]
  omega
theorem lay_mA2 {g : Nat → Nat → Nat} {fe h i : Nat} (e : fe = 8 * h + i) (hi : i < g 1 h) (h8 : i < 8) : i + 1 = if fIn g fe h ∧ fe % 8 ≤ i then i + 1 else i := by
  have e1 : fe / 8 = h := by omega
  have e2 : fe % 8 = i := by omega
  rw [if_pos ⟨⟨e1, by omega⟩, by omega⟩]
theorem lay_mB {g : Nat → Nat → Nat} {fe h i m : Nat} (hm : m = if fIn g fe h ∧ fe % 8 < i then i + 1 else i) (e : ¬ fe = 8 * h + i) : m + 1 = if fIn g fe h ∧ fe % 8 < i + 1 then i + 1 + 1 else i + 1 := by
  by_cases q : fIn g fe h ∧ fe % 8 < i
  · rw [if_pos q] at hm; rw [if_pos ⟨q.1, by omega⟩]; omega
  · rw [if_neg q] at hm
    rw [if_neg (fun y => q ⟨y.1, by have := y.1.1; omega⟩)]; omega
theorem lay_mB2 {g : Nat → Nat → Nat} {fe h i m : Nat} (hm : m = if fIn g fe h ∧ fe % 8 < i then i + 1 else i) (e : ¬ fe = 8 * h + i) : m = if fIn g fe h ∧ fe % 8 ≤ i then i + 1 else i := by
  by_cases q : fIn g fe h ∧ fe % 8 < i
  · rw [if_pos q] at hm; rw [if_pos ⟨q.1, by omega⟩]; omega
  · rw [if_neg q] at hm
    rw [if_neg (fun y => q ⟨y.1, by have := y.1.1; omega⟩)]; omega
theorem lay_end {g : Nat → Nat → Nat} {fe h i m : Nat} {s n : Nat → Nat} (hm : m = if fIn g fe h ∧ fe % 8 < i then i + 1 else i) (hP : LayP g fe h m s n) (hi : i ≤ g 1 h) (hc : g 1 h ≤ i) : LayP g fe h (layL g fe h) s n := by
  have : m = layL g fe h := by
    unfold layL
    by_cases q : fIn g fe h
    · rw [if_pos q]; rw [if_pos ⟨q, by have := q.2; omega⟩] at hm; omega
    · rw [if_neg q]; rw [if_neg (fun y => q y.1)] at hm; omega
  rw [← this]; exact hP
theorem lay_next {g : Nat → Nat → Nat} {fe h : Nat} {s n : Nat → Nat} (hP : LayP g fe h (layL g fe h) s n) : LayP g fe (h + 1) 0 s n := by
  obtain ⟨a, b, c, d⟩ := hP
  refine ⟨a, b, fun h' hh' => ?_, fun j hj => absurd hj (Nat.not_lt_zero _)⟩
  by_cases e : h' = h
  · subst e; exact d
  · exact c h' (by omega)
theorem upN_id (q : Nat → Nat) (j : Nat) : upN q j (q j + 0) = q := by
  funext i
  by_cases e : i = j
  · subst e; rw [upN_s]; rfl
  · rw [upN_n e]
theorem lay_copy0 {g : Nat → Nat → Nat} {fe h i m : Nat} {s2 n3 : Nat → Nat} (hh : h < 2) (hi : i < g 1 h) (h7 : ∀ h, h < 2 → layL g fe h ≤ 7) (hm : m = if fIn g fe h ∧ fe % 8 ≤ i then i + 1 else i) (hP : LayP g fe h m s2 n3)
    (hx : 0 = if g 2 (8 * h + i) = 8 ∧ fIn g fe h ∧ i < fe % 8 ∧ fe % 8 ≤ i + g 3 (4 * (8 * h + i) + 2) then 1 else 0) :
    LayP g fe h (m + 1) (upN s2 (16 + 8 * h + m) (s2 (8 * h + i))) (cp4 n3 (8 * h + i) (16 + 8 * h + m)) := by
  have := lay_copy hh hi h7 hm hP 0 hx
  rw [upN_id] at this
  exact this
theorem lay_copy1 {g : Nat → Nat → Nat} {fe h i m : Nat} {s2 n3 : Nat → Nat} (hh : h < 2) (hi : i < g 1 h) (h7 : ∀ h, h < 2 → layL g fe h ≤ 7) (hm : m = if fIn g fe h ∧ fe % 8 ≤ i then i + 1 else i) (hP : LayP g fe h m s2 n3)
    (hx : 1 = if g 2 (8 * h + i) = 8 ∧ fIn g fe h ∧ i < fe % 8 ∧ fe % 8 ≤ i + g 3 (4 * (8 * h + i) + 2) then 1 else 0) :
    LayP g fe h (m + 1) (upN s2 (16 + 8 * h + m) (s2 (8 * h + i))) (upN (cp4 n3 (8 * h + i) (16 + 8 * h + m)) (4 * (16 + 8 * h + m) + 2) (g 3 (4 * (8 * h + i) + 2) + 1)) := by
  have := lay_copy hh hi h7 hm hP 1 hx
  have h8 : g 1 h ≤ 7 := by
    have := h7 h hh
    unfold layL at this
    split at this <;> omega
  rw [cp4_at (by decide), hP.2.1 _ (by omega)] at this
  exact this
theorem lay_x1 {g : Nat → Nat → Nat} {fe h i : Nat} (a : g 2 (8 * h + i) = 8) (b : 8 * h + i < fe) (c : fe ≤ 8 * h + i + g 3 (4 * (8 * h + i) + 2)) (d : fe / 8 = h) (hh : h < 2) (hfe : fe = 4294967295 ∨ (fe < 16 ∧ fe % 8 < g 1 (fe / 8))) : 1 = if g 2 (8 * h + i) = 8 ∧ fIn g fe h ∧ i < fe % 8 ∧ fe % 8 ≤ i + g 3 (4 * (8 * h + i) + 2) then 1 else 0 := by
  have h0 : fe % 8 < g 1 h := by
    rcases hfe with q | q
    · exfalso; omega
    · rw [d] at q; exact q.2
  rw [if_pos ⟨a, ⟨d, h0⟩, by omega, by omega⟩]
theorem lay_x0 {g : Nat → Nat → Nat} {fe h i : Nat} (o : ¬ g 2 (8 * h + i) = 8 ∨ ¬ 8 * h + i < fe ∨ ¬ fe ≤ 8 * h + i + g 3 (4 * (8 * h + i) + 2) ∨ ¬ fe / 8 = h) : 0 = if g 2 (8 * h + i) = 8 ∧ fIn g fe h ∧ i < fe % 8 ∧ fe % 8 ≤ i + g 3 (4 * (8 * h + i) + 2) then 1 else 0 := by
  rw [if_neg (fun q => ?_)]
  obtain ⟨q1, q2, q3, q4⟩ := q
  have := q2.1
  rcases o with o | o | o | o
  · exact o q1
  · omega
  · omega
  · exact o this
theorem lay_xs {g : Nat → Nat → Nat} {fe h i : Nat} (o : fe = 4294967295 ∨ fe ≤ 8 * h + i) (hh : h < 2) : 0 = if g 2 (8 * h + i) = 8 ∧ fIn g fe h ∧ i < fe % 8 ∧ fe % 8 ≤ i + g 3 (4 * (8 * h + i) + 2) then 1 else 0 := by
  rcases o with o | o
  · exact lay_x0 (Or.inr (Or.inr (Or.inr (by omega))))
  · exact lay_x0 (Or.inr (Or.inl (by omega)))
def LayA (g : Nat → Nat → Nat) (fe : Nat) (l1 s2 n3 : Nat → Nat) : Prop := (l1 0 = g 1 0 ∧ l1 1 = g 1 1) ∧ (∀ j, j < 16 → s2 j = g 2 j) ∧ (∀ j, j < 64 → n3 j = g 3 j) ∧ ∀ h, h < 2 → l1 (2 + h) = layL g fe h ∧ LayH g fe h (layL g fe h) s2 n3
theorem lay_len {g : Nat → Nat → Nat} {fe h i m : Nat} (hm : m = if fIn g fe h ∧ fe % 8 < i then i + 1 else i) (hi : i ≤ g 1 h) (hc : g 1 h ≤ i) : m = layL g fe h := by
  unfold layL
  by_cases q : fIn g fe h
  · rw [if_pos q]; rw [if_pos ⟨q, by have := q.2; omega⟩] at hm; omega
  · rw [if_neg q]; rw [if_neg (fun y => q y.1)] at hm; omega
theorem lay_fin {g : Nat → Nat → Nat} {fe i0 m0 i1 m1 : Nat} {s n : Nat → Nat} (hm0 : m0 = if fIn g fe 0 ∧ fe % 8 < i0 then i0 + 1 else i0) (hi0 : i0 ≤ g 1 0) (hc0 : g 1 0 ≤ i0) (hm1 : m1 = if fIn g fe 1 ∧ fe % 8 < i1 then i1 + 1 else i1) (hP : LayP g fe 1 m1 s n) (hi1 : i1 ≤ g 1 1) (hc1 : g 1 1 ≤ i1) : LayA g fe (upN (upN (g 1) 2 m0) 3 m1) s n := by
  have e0 := lay_len hm0 hi0 hc0
  have e1 := lay_len hm1 hi1 hc1
  obtain ⟨a, b, c, d⟩ := hP
  refine ⟨⟨rfl, rfl⟩, a, b, fun h hh => ?_⟩
  rcases (show h = 0 ∨ h = 1 by omega) with rfl | rfl
  · exact ⟨e0, c 0 (by decide)⟩
  · exact ⟨e1, e1 ▸ d⟩
set_option maxHeartbeats 4000000 in
set_option maxRecDepth 100000 in
theorem c_X5_copyTo (l : Launch) (D : va_G) (ad : Nat → Nat) (ka : Nat → ClassId) (f : Nat → Nat) (g : Nat → Nat → Nat) (t : Nat → Nat) (sz : Nat) (pa : Nat) (pb : Nat) (hpa : pa < 40) (hpb : pb < 40) (hpn : pa ≠ pb) : Met l yX5_copyTo (.code yX5_copyTo cX5_copyTo 4 none :: wsL_law) ({ frames := 0, cells := 0, slots := 0, locals := 0 }) (va_Pc [.ref (ad 0), .int (nI pa), .int (nI pb)] (PW D (mW ad ka f g t) (mT ka) sz)) (va_Qv (fun u : MSt => u = (f, upA (upA g 2 (upN (g 2) pb (g 2 pa))) 3 (cp4 (g 3) pa pb), t)) (QW D (fun u : MSt => mW ad ka u.1 u.2.1 u.2.2) (fun _ => mT ka) (va_A (mW ad ka f g t) sz)) (va_A (mW ad ka f g t) sz)) 0 0 (va_A (mW ad ka f g t) sz) := by
  refine Met.ofW (cc := cX5_copyTo) (maxL := 4) (ret := none) (by decide) rfl ?_
  intro p e s m args below meth c s₁ B hml hv
  obtain ⟨rfl, hsz, hP, hK, hD0⟩ := hv
  have hx := B.exec
  have hb := B.bytes
  have hr := B.returns
  have hts := atoms_spec (ws := .code yX5_copyTo cX5_copyTo 4 none :: wsL_law) B.pre
  have hU : ∀ w ∈ wsL_law, w.before _ s = true := fun w h => hts w (List.mem_cons_of_mem _ h)
  have hown : s.vm.findClass RX5 = some m.cls := findClass_of_methodNamed B.named
  have hlocks := B.notSynchronized
  subst hsz
  have hD := hD0.self (sz := s.heap.size)
  generalize hAe : va_A (mW ad ka f g t) s.heap.size = Ar at hD ⊢
  have hA : ∀ q : Nat, s.heap.size ≤ q → Ar q := fun q h => by rw [← hAe]; exact Or.inr h
  have hS : va_S Ar s.heap s.heap [] := va_S.rf
  have hP : va_P D vwCl [(ad 0, .inr (5, [.ref (ad 1), .ref (ad 2), .ref (ad 3), .ref (ad 4), .ref (ad 5), .int (nI (f 5)), .ref (ad 6), .int (nI (f 7)), .int (nI (f 8)), .int (nI (f 9)), .int (nI (f 10)), .int (nI (f 11)), .int (nI (f 12)), .int (nI (f 13)), .ref (ad 7), .ref (ad 8), .ref (ad 9), .ref (ad 10), .ref (ad 11), .int (nI (f 19)), .int (nI (f 20)), .int (nI (f 21)), .ref (ad 12)])), (ad 1, .inl (ka 1, 5, .inl (nA (g 1)))), (ad 2, .inl (ka 2, 40, .inl (nA (g 2)))), (ad 3, .inl (ka 3, 160, .inl (nA (g 3)))), (ad 4, .inl (ka 4, 4, .inl (nA (g 4)))), (ad 5, .inl (ka 5, 4, .inl (nA (g 5)))), (ad 6, .inl (ka 6, 200, .inl (nA (g 6)))), (ad 7, .inl (ka 7, 12001, .inr (.inl (lA t)))), (ad 8, .inl (ka 8, 12001, .inl (nA (g 8)))), (ad 9, .inl (ka 9, 12001, .inl (nA (g 9)))), (ad 10, .inl (ka 10, 12001, .inl (nA (g 10)))), (ad 11, .inl (ka 11, 32768, .inl (nA (g 11)))), (ad 12, .inl (ka 12, 64, .inl (nA (g 12))))] s.heap := hP
  have hD : va_D Ar [(ad 0, .inr (5, [.ref (ad 1), .ref (ad 2), .ref (ad 3), .ref (ad 4), .ref (ad 5), .int (nI (f 5)), .ref (ad 6), .int (nI (f 7)), .int (nI (f 8)), .int (nI (f 9)), .int (nI (f 10)), .int (nI (f 11)), .int (nI (f 12)), .int (nI (f 13)), .ref (ad 7), .ref (ad 8), .ref (ad 9), .ref (ad 10), .ref (ad 11), .int (nI (f 19)), .int (nI (f 20)), .int (nI (f 21)), .ref (ad 12)])), (ad 1, .inl (ka 1, 5, .inl (nA (g 1)))), (ad 2, .inl (ka 2, 40, .inl (nA (g 2)))), (ad 3, .inl (ka 3, 160, .inl (nA (g 3)))), (ad 4, .inl (ka 4, 4, .inl (nA (g 4)))), (ad 5, .inl (ka 5, 4, .inl (nA (g 5)))), (ad 6, .inl (ka 6, 200, .inl (nA (g 6)))), (ad 7, .inl (ka 7, 12001, .inr (.inl (lA t)))), (ad 8, .inl (ka 8, 12001, .inl (nA (g 8)))), (ad 9, .inl (ka 9, 12001, .inl (nA (g 9)))), (ad 10, .inl (ka 10, 12001, .inl (nA (g 10)))), (ad 11, .inl (ka 11, 32768, .inl (nA (g 11)))), (ad 12, .inl (ka 12, 64, .inl (nA (g 12))))] := hD
  generalize hQ : MQ _ _ _ _ _ _ _ = Q
  have hl := lv_entry ([.ref (ad 0), .int (nI pa), .int (nI pb)]) (n := 4) (Nat.le_of_ble_eq_true rfl)
  rw [lg_entry_eq]
  generalize (lg_sl ([.ref (ad 0), .int (nI pa), .int (nI pb)]) ++ List.replicate (4 - (lg_sl ([.ref (ad 0), .int (nI pa), .int (nI pb)])).length) Slot.unset).toArray = ls at hl ⊢
  have hl : lv_has ls 4 [(0, .ref (ad 0)), (1, .int (nI pa)), (2, .int (nI pb))] := hl
  refine lv_aload_n hx hb dX5_copyTo_0 rfl (lv_at hl 0 rfl) ?_
  refine va_get (D := D) (ci := 5) (v := .ref (ad 2)) (C := RX5) (T := TX5) (N := 23) hx hb hU iX5 hown hK hP 0 rfl rfl 1 (by decide) (hU _ mU_76) (fun _ h9 => h9) rfl dX5_copyTo_1 ?_
  refine lv_iload_n hx hb dX5_copyTo_4 rfl (lv_at hl 2 rfl) ?_
  refine lv_aload_n hx hb dX5_copyTo_5 rfl (lv_at hl 0 rfl) ?_
  refine va_get (D := D) (ci := 5) (v := .ref (ad 2)) (C := RX5) (T := TX5) (N := 23) hx hb hU iX5 hown hK hP 0 rfl rfl 1 (by decide) (hU _ mU_76) (fun _ h9 => h9) rfl dX5_copyTo_6 ?_
  refine lv_iload_n hx hb dX5_copyTo_9 rfl (lv_at hl 1 rfl) ?_
  refine n_iald hx hb hK hP 2 1 rfl rfl (i := pa) (by omega) (by decide) dX5_copyTo_10 ?_
  refine n_iast hx hb hK hP hD hS 2 1 rfl rfl (i := pb) (v := (g 2) pa) (by omega) (by decide) dX5_copyTo_11 (fun H locs hP hD hS => ?_)
  have hP : va_P D vwCl [(ad 0, .inr (5, [.ref (ad 1), .ref (ad 2), .ref (ad 3), .ref (ad 4), .ref (ad 5), .int (nI (f 5)), .ref (ad 6), .int (nI (f 7)), .int (nI (f 8)), .int (nI (f 9)), .int (nI (f 10)), .int (nI (f 11)), .int (nI (f 12)), .int (nI (f 13)), .ref (ad 7), .ref (ad 8), .ref (ad 9), .ref (ad 10), .ref (ad 11), .int (nI (f 19)), .int (nI (f 20)), .int (nI (f 21)), .ref (ad 12)])), (ad 1, .inl (ka 1, 5, .inl (nA (g 1)))), (ad 2, .inl (ka 2, 40, .inl (nA (upN (g 2) pb ((g 2) pa))))), (ad 3, .inl (ka 3, 160, .inl (nA (g 3)))), (ad 4, .inl (ka 4, 4, .inl (nA (g 4)))), (ad 5, .inl (ka 5, 4, .inl (nA (g 5)))), (ad 6, .inl (ka 6, 200, .inl (nA (g 6)))), (ad 7, .inl (ka 7, 12001, .inr (.inl (lA t)))), (ad 8, .inl (ka 8, 12001, .inl (nA (g 8)))), (ad 9, .inl (ka 9, 12001, .inl (nA (g 9)))), (ad 10, .inl (ka 10, 12001, .inl (nA (g 10)))), (ad 11, .inl (ka 11, 32768, .inl (nA (g 11)))), (ad 12, .inl (ka 12, 64, .inl (nA (g 12))))] H := hP
  have hD : va_D Ar [(ad 0, .inr (5, [.ref (ad 1), .ref (ad 2), .ref (ad 3), .ref (ad 4), .ref (ad 5), .int (nI (f 5)), .ref (ad 6), .int (nI (f 7)), .int (nI (f 8)), .int (nI (f 9)), .int (nI (f 10)), .int (nI (f 11)), .int (nI (f 12)), .int (nI (f 13)), .ref (ad 7), .ref (ad 8), .ref (ad 9), .ref (ad 10), .ref (ad 11), .int (nI (f 19)), .int (nI (f 20)), .int (nI (f 21)), .ref (ad 12)])), (ad 1, .inl (ka 1, 5, .inl (nA (g 1)))), (ad 2, .inl (ka 2, 40, .inl (nA (upN (g 2) pb ((g 2) pa))))), (ad 3, .inl (ka 3, 160, .inl (nA (g 3)))), (ad 4, .inl (ka 4, 4, .inl (nA (g 4)))), (ad 5, .inl (ka 5, 4, .inl (nA (g 5)))), (ad 6, .inl (ka 6, 200, .inl (nA (g 6)))), (ad 7, .inl (ka 7, 12001, .inr (.inl (lA t)))), (ad 8, .inl (ka 8, 12001, .inl (nA (g 8)))), (ad 9, .inl (ka 9, 12001, .inl (nA (g 9)))), (ad 10, .inl (ka 10, 12001, .inl (nA (g 10)))), (ad 11, .inl (ka 11, 32768, .inl (nA (g 11)))), (ad 12, .inl (ka 12, 64, .inl (nA (g 12))))] := hD
  refine lv_iconst (v := nI 0) hx hb dX5_copyTo_12 (by decide) ?_
  refine lv_istore_n (lv' := [(3, .int (nI 0)), (0, .ref (ad 0)), (1, .int (nI pa)), (2, .int (nI pb))]) hx hb dX5_copyTo_13 rfl hl (by decide) rfl (fun ls hl => ?_)
  refine lv_iload_n hx hb dX5_copyTo_14 rfl (lv_at hl 0 rfl) ?_
  refine lv_iconst (v := nI 4) hx hb dX5_copyTo_15 (by decide) ?_
  refine lv_icmp_ge (tgt := 45) hx hb dX5_copyTo_16 (by decide) (fun c16_1 => absurd c16_1 (by decide)) (fun c16_1 => ?_)
  refine lv_aload_n hx hb dX5_copyTo_19 rfl (lv_at hl 1 rfl) ?_
  refine va_get (D := D) (ci := 5) (v := .ref (ad 3)) (C := RX5) (T := TX5) (N := 23) hx hb hU iX5 hown hK hP 0 rfl rfl 2 (by decide) (hU _ mU_77) (fun _ h9 => h9) rfl dX5_copyTo_20 ?_
  refine lv_iconst (v := nI 4) hx hb dX5_copyTo_23 (by decide) ?_
  refine lv_iload_n hx hb dX5_copyTo_24 rfl (lv_at hl 3 rfl) ?_
  refine lv_imul hx hb dX5_copyTo_25 ?_
  refine lv_topE (nI (4 * pb)) (pk_mul _ _) ?_
  refine lv_iload_n hx hb dX5_copyTo_26 rfl (lv_at hl 0 rfl) ?_
  refine lv_iadd hx hb dX5_copyTo_27 ?_
  refine lv_topE (nI ((4 * pb) + 0)) (nI_add _ _) ?_
  refine lv_aload_n hx hb dX5_copyTo_28 rfl (lv_at hl 1 rfl) ?_
  refine va_get (D := D) (ci := 5) (v := .ref (ad 3)) (C := RX5) (T := TX5) (N := 23) hx hb hU iX5 hown hK hP 0 rfl rfl 2 (by decide) (hU _ mU_77) (fun _ h9 => h9) rfl dX5_copyTo_29 ?_
  refine lv_iconst (v := nI 4) hx hb dX5_copyTo_32 (by decide) ?_
  refine lv_iload_n hx hb dX5_copyTo_33 rfl (lv_at hl 2 rfl) ?_
  refine lv_imul hx hb dX5_copyTo_34 ?_
  refine lv_topE (nI (4 * pa)) (pk_mul _ _) ?_
  refine lv_iload_n hx hb dX5_copyTo_35 rfl (lv_at hl 0 rfl) ?_
  refine lv_iadd hx hb dX5_copyTo_36 ?_
  refine lv_topE (nI ((4 * pa) + 0)) (nI_add _ _) ?_
  refine n_iald hx hb hK hP 3 2 rfl rfl (i := (4 * pa) + 0) (by omega) (by decide) dX5_copyTo_37 ?_
  refine n_iast hx hb hK hP hD hS 3 2 rfl rfl (i := (4 * pb) + 0) (v := (g 3) ((4 * pa) + 0)) (by omega) (by decide) dX5_copyTo_38 (fun H locs hP hD hS => ?_)
  have hP : va_P D vwCl [(ad 0, .inr (5, [.ref (ad 1), .ref (ad 2), .ref (ad 3), .ref (ad 4), .ref (ad 5), .int (nI (f 5)), .ref (ad 6), .int (nI (f 7)), .int (nI (f 8)), .int (nI (f 9)), .int (nI (f 10)), .int (nI (f 11)), .int (nI (f 12)), .int (nI (f 13)), .ref (ad 7), .ref (ad 8), .ref (ad 9), .ref (ad 10), .ref (ad 11), .int (nI (f 19)), .int (nI (f 20)), .int (nI (f 21)), .ref (ad 12)])), (ad 1, .inl (ka 1, 5, .inl (nA (g 1)))), (ad 2, .inl (ka 2, 40, .inl (nA (upN (g 2) pb ((g 2) pa))))), (ad 3, .inl (ka 3, 160, .inl (nA (upN (g 3) ((4 * pb) + 0) ((g 3) ((4 * pa) + 0)))))), (ad 4, .inl (ka 4, 4, .inl (nA (g 4)))), (ad 5, .inl (ka 5, 4, .inl (nA (g 5)))), (ad 6, .inl (ka 6, 200, .inl (nA (g 6)))), (ad 7, .inl (ka 7, 12001, .inr (.inl (lA t)))), (ad 8, .inl (ka 8, 12001, .inl (nA (g 8)))), (ad 9, .inl (ka 9, 12001, .inl (nA (g 9)))), (ad 10, .inl (ka 10, 12001, .inl (nA (g 10)))), (ad 11, .inl (ka 11, 32768, .inl (nA (g 11)))), (ad 12, .inl (ka 12, 64, .inl (nA (g 12))))] H := hP
  have hD : va_D Ar [(ad 0, .inr (5, [.ref (ad 1), .ref (ad 2), .ref (ad 3), .ref (ad 4), .ref (ad 5), .int (nI (f 5)), .ref (ad 6), .int (nI (f 7)), .int (nI (f 8)), .int (nI (f 9)), .int (nI (f 10)), .int (nI (f 11)), .int (nI (f 12)), .int (nI (f 13)), .ref (ad 7), .ref (ad 8), .ref (ad 9), .ref (ad 10), .ref (ad 11), .int (nI (f 19)), .int (nI (f 20)), .int (nI (f 21)), .ref (ad 12)])), (ad 1, .inl (ka 1, 5, .inl (nA (g 1)))), (ad 2, .inl (ka 2, 40, .inl (nA (upN (g 2) pb ((g 2) pa))))), (ad 3, .inl (ka 3, 160, .inl (nA (upN (g 3) ((4 * pb) + 0) ((g 3) ((4 * pa) + 0)))))), (ad 4, .inl (ka 4, 4, .inl (nA (g 4)))), (ad 5, .inl (ka 5, 4, .inl (nA (g 5)))), (ad 6, .inl (ka 6, 200, .inl (nA (g 6)))), (ad 7, .inl (ka 7, 12001, .inr (.inl (lA t)))), (ad 8, .inl (ka 8, 12001, .inl (nA (g 8)))), (ad 9, .inl (ka 9, 12001, .inl (nA (g 9)))), (ad 10, .inl (ka 10, 12001, .inl (nA (g 10)))), (ad 11, .inl (ka 11, 32768, .inl (nA (g 11)))), (ad 12, .inl (ka 12, 64, .inl (nA (g 12))))] := hD
  refine lv_iinc (v := nI 1) (lv' := [(3, .int (nI 1)), (0, .ref (ad 0)), (1, .int (nI pa)), (2, .int (nI pb))]) hx hb dX5_copyTo_39 hl (k := 0) rfl (by decide) (by decide) rfl (fun ls hl => ?_)
  refine lv_goto (tgt := 14) hx hb dX5_copyTo_42 (by decide) ?_
  refine lv_iload_n hx hb dX5_copyTo_14 rfl (lv_at hl 0 rfl) ?_
  refine lv_iconst (v := nI 4) hx hb dX5_copyTo_15 (by decide) ?_
  refine lv_icmp_ge (tgt := 45) hx hb dX5_copyTo_16 (by decide) (fun c16_2 => absurd c16_2 (by decide)) (fun c16_2 => ?_)
  refine lv_aload_n hx hb dX5_copyTo_19 rfl (lv_at hl 1 rfl) ?_
  refine va_get (D := D) (ci := 5) (v := .ref (ad 3)) (C := RX5) (T := TX5) (N := 23) hx hb hU iX5 hown hK hP 0 rfl rfl 2 (by decide) (hU _ mU_77) (fun _ h9 => h9) rfl dX5_copyTo_20 ?_
  refine lv_iconst (v := nI 4) hx hb dX5_copyTo_23 (by decide) ?_
  refine lv_iload_n hx hb dX5_copyTo_24 rfl (lv_at hl 3 rfl) ?_
  refine lv_imul hx hb dX5_copyTo_25 ?_
  refine lv_topE (nI (4 * pb)) (pk_mul _ _) ?_
  refine lv_iload_n hx hb dX5_copyTo_26 rfl (lv_at hl 0 rfl) ?_
  refine lv_iadd hx hb dX5_copyTo_27 ?_
  refine lv_topE (nI ((4 * pb) + 1)) (nI_add _ _) ?_
  refine lv_aload_n hx hb dX5_copyTo_28 rfl (lv_at hl 1 rfl) ?_
  refine va_get (D := D) (ci := 5) (v := .ref (ad 3)) (C := RX5) (T := TX5) (N := 23) hx hb hU iX5 hown hK hP 0 rfl rfl 2 (by decide) (hU _ mU_77) (fun _ h9 => h9) rfl dX5_copyTo_29 ?_
  refine lv_iconst (v := nI 4) hx hb dX5_copyTo_32 (by decide) ?_
  refine lv_iload_n hx hb dX5_copyTo_33 rfl (lv_at hl 2 rfl) ?_
  refine lv_imul hx hb dX5_copyTo_34 ?_
  refine lv_topE (nI (4 * pa)) (pk_mul _ _) ?_
  refine lv_iload_n hx hb dX5_copyTo_35 rfl (lv_at hl 0 rfl) ?_
  refine lv_iadd hx hb dX5_copyTo_36 ?_
  refine lv_topE (nI ((4 * pa) + 1)) (nI_add _ _) ?_
  refine n_iald hx hb hK hP 3 2 rfl rfl (i := (4 * pa) + 1) (by omega) (by decide) dX5_copyTo_37 ?_
  refine n_iast hx hb hK hP hD hS 3 2 rfl rfl (i := (4 * pb) + 1) (v := (upN (g 3) ((4 * pb) + 0) ((g 3) ((4 * pa) + 0))) ((4 * pa) + 1)) (by omega) (by decide) dX5_copyTo_38 (fun H locs hP hD hS => ?_)
  have hP : va_P D vwCl [(ad 0, .inr (5, [.ref (ad 1), .ref (ad 2), .ref (ad 3), .ref (ad 4), .ref (ad 5), .int (nI (f 5)), .ref (ad 6), .int (nI (f 7)), .int (nI (f 8)), .int (nI (f 9)), .int (nI (f 10)), .int (nI (f 11)), .int (nI (f 12)), .int (nI (f 13)), .ref (ad 7), .ref (ad 8), .ref (ad 9), .ref (ad 10), .ref (ad 11), .int (nI (f 19)), .int (nI (f 20)), .int (nI (f 21)), .ref (ad 12)])), (ad 1, .inl (ka 1, 5, .inl (nA (g 1)))), (ad 2, .inl (ka 2, 40, .inl (nA (upN (g 2) pb ((g 2) pa))))), (ad 3, .inl (ka 3, 160, .inl (nA (upN (upN (g 3) ((4 * pb) + 0) ((g 3) ((4 * pa) + 0))) ((4 * pb) + 1) ((upN (g 3) ((4 * pb) + 0) ((g 3) ((4 * pa) + 0))) ((4 * pa) + 1)))))), (ad 4, .inl (ka 4, 4, .inl (nA (g 4)))), (ad 5, .inl (ka 5, 4, .inl (nA (g 5)))), (ad 6, .inl (ka 6, 200, .inl (nA (g 6)))), (ad 7, .inl (ka 7, 12001, .inr (.inl (lA t)))), (ad 8, .inl (ka 8, 12001, .inl (nA (g 8)))), (ad 9, .inl (ka 9, 12001, .inl (nA (g 9)))), (ad 10, .inl (ka 10, 12001, .inl (nA (g 10)))), (ad 11, .inl (ka 11, 32768, .inl (nA (g 11)))), (ad 12, .inl (ka 12, 64, .inl (nA (g 12))))] H := hP
  have hD : va_D Ar [(ad 0, .inr (5, [.ref (ad 1), .ref (ad 2), .ref (ad 3), .ref (ad 4), .ref (ad 5), .int (nI (f 5)), .ref (ad 6), .int (nI (f 7)), .int (nI (f 8)), .int (nI (f 9)), .int (nI (f 10)), .int (nI (f 11)), .int (nI (f 12)), .int (nI (f 13)), .ref (ad 7), .ref (ad 8), .ref (ad 9), .ref (ad 10), .ref (ad 11), .int (nI (f 19)), .int (nI (f 20)), .int (nI (f 21)), .ref (ad 12)])), (ad 1, .inl (ka 1, 5, .inl (nA (g 1)))), (ad 2, .inl (ka 2, 40, .inl (nA (upN (g 2) pb ((g 2) pa))))), (ad 3, .inl (ka 3, 160, .inl (nA (upN (upN (g 3) ((4 * pb) + 0) ((g 3) ((4 * pa) + 0))) ((4 * pb) + 1) ((upN (g 3) ((4 * pb) + 0) ((g 3) ((4 * pa) + 0))) ((4 * pa) + 1)))))), (ad 4, .inl (ka 4, 4, .inl (nA (g 4)))), (ad 5, .inl (ka 5, 4, .inl (nA (g 5)))), (ad 6, .inl (ka 6, 200, .inl (nA (g 6)))), (ad 7, .inl (ka 7, 12001, .inr (.inl (lA t)))), (ad 8, .inl (ka 8, 12001, .inl (nA (g 8)))), (ad 9, .inl (ka 9, 12001, .inl (nA (g 9)))), (ad 10, .inl (ka 10, 12001, .inl (nA (g 10)))), (ad 11, .inl (ka 11, 32768, .inl (nA (g 11)))), (ad 12, .inl (ka 12, 64, .inl (nA (g 12))))] := hD
  refine lv_iinc (v := nI 2) (lv' := [(3, .int (nI 2)), (0, .ref (ad 0)), (1, .int (nI pa)), (2, .int (nI pb))]) hx hb dX5_copyTo_39 hl (k := 0) rfl (by decide) (by decide) rfl (fun ls hl => ?_)
  refine lv_goto (tgt := 14) hx hb dX5_copyTo_42 (by decide) ?_
  refine lv_iload_n hx hb dX5_copyTo_14 rfl (lv_at hl 0 rfl) ?_
  refine lv_iconst (v := nI 4) hx hb dX5_copyTo_15 (by decide) ?_
  refine lv_icmp_ge (tgt := 45) hx hb dX5_copyTo_16 (by decide) (fun c16_3 => absurd c16_3 (by decide)) (fun c16_3 => ?_)
  refine lv_aload_n hx hb dX5_copyTo_19 rfl (lv_at hl 1 rfl) ?_
  refine va_get (D := D) (ci := 5) (v := .ref (ad 3)) (C := RX5) (T := TX5) (N := 23) hx hb hU iX5 hown hK hP 0 rfl rfl 2 (by decide) (hU _ mU_77) (fun _ h9 => h9) rfl dX5_copyTo_20 ?_
  refine lv_iconst (v := nI 4) hx hb dX5_copyTo_23 (by decide) ?_
  refine lv_iload_n hx hb dX5_copyTo_24 rfl (lv_at hl 3 rfl) ?_
  refine lv_imul hx hb dX5_copyTo_25 ?_
  refine lv_topE (nI (4 * pb)) (pk_mul _ _) ?_
  refine lv_iload_n hx hb dX5_copyTo_26 rfl (lv_at hl 0 rfl) ?_
  refine lv_iadd hx hb dX5_copyTo_27 ?_
  refine lv_topE (nI ((4 * pb) + 2)) (nI_add _ _) ?_
  refine lv_aload_n hx hb dX5_copyTo_28 rfl (lv_at hl 1 rfl) ?_
  refine va_get (D := D) (ci := 5) (v := .ref (ad 3)) (C := RX5) (T := TX5) (N := 23) hx hb hU iX5 hown hK hP 0 rfl rfl 2 (by decide) (hU _ mU_77) (fun _ h9 => h9) rfl dX5_copyTo_29 ?_
  refine lv_iconst (v := nI 4) hx hb dX5_copyTo_32 (by decide) ?_
  refine lv_iload_n hx hb dX5_copyTo_33 rfl (lv_at hl 2 rfl) ?_
  refine lv_imul hx hb dX5_copyTo_34 ?_
  refine lv_topE (nI (4 * pa)) (pk_mul _ _) ?_
  refine lv_iload_n hx hb dX5_copyTo_35 rfl (lv_at hl 0 rfl) ?_
  refine lv_iadd hx hb dX5_copyTo_36 ?_
  refine lv_topE (nI ((4 * pa) + 2)) (nI_add _ _) ?_
  refine n_iald hx hb hK hP 3 2 rfl rfl (i := (4 * pa) + 2) (by omega) (by decide) dX5_copyTo_37 ?_
  refine n_iast hx hb hK hP hD hS 3 2 rfl rfl (i := (4 * pb) + 2) (v := (upN (upN (g 3) ((4 * pb) + 0) ((g 3) ((4 * pa) + 0))) ((4 * pb) + 1) ((upN (g 3) ((4 * pb) + 0) ((g 3) ((4 * pa) + 0))) ((4 * pa) + 1))) ((4 * pa) + 2)) (by omega) (by decide) dX5_copyTo_38 (fun H locs hP hD hS => ?_)
  have hP : va_P D vwCl [(ad 0, .inr (5, [.ref (ad 1), .ref (ad 2), .ref (ad 3), .ref (ad 4), .ref (ad 5), .int (nI (f 5)), .ref (ad 6), .int (nI (f 7)), .int (nI (f 8)), .int (nI (f 9)), .int (nI (f 10)), .int (nI (f 11)), .int (nI (f 12)), .int (nI (f 13)), .ref (ad 7), .ref (ad 8), .ref (ad 9), .ref (ad 10), .ref (ad 11), .int (nI (f 19)), .int (nI (f 20)), .int (nI (f 21)), .ref (ad 12)])), (ad 1, .inl (ka 1, 5, .inl (nA (g 1)))), (ad 2, .inl (ka 2, 40, .inl (nA (upN (g 2) pb ((g 2) pa))))), (ad 3, .inl (ka 3, 160, .inl (nA (upN (upN (upN (g 3) ((4 * pb) + 0) ((g 3) ((4 * pa) + 0))) ((4 * pb) + 1) ((upN (g 3) ((4 * pb) + 0) ((g 3) ((4 * pa) + 0))) ((4 * pa) + 1))) ((4 * pb) + 2) ((upN (upN (g 3) ((4 * pb) + 0) ((g 3) ((4 * pa) + 0))) ((4 * pb) + 1) ((upN (g 3) ((4 * pb) + 0) ((g 3) ((4 * pa) + 0))) ((4 * pa) + 1))) ((4 * pa) + 2)))))), (ad 4, .inl (ka 4, 4, .inl (nA (g 4)))), (ad 5, .inl (ka 5, 4, .inl (nA (g 5)))), (ad 6, .inl (ka 6, 200, .inl (nA (g 6)))), (ad 7, .inl (ka 7, 12001, .inr (.inl (lA t)))), (ad 8, .inl (ka 8, 12001, .inl (nA (g 8)))), (ad 9, .inl (ka 9, 12001, .inl (nA (g 9)))), (ad 10, .inl (ka 10, 12001, .inl (nA (g 10)))), (ad 11, .inl (ka 11, 32768, .inl (nA (g 11)))), (ad 12, .inl (ka 12, 64, .inl (nA (g 12))))] H := hP
  have hD : va_D Ar [(ad 0, .inr (5, [.ref (ad 1), .ref (ad 2), .ref (ad 3), .ref (ad 4), .ref (ad 5), .int (nI (f 5)), .ref (ad 6), .int (nI (f 7)), .int (nI (f 8)), .int (nI (f 9)), .int (nI (f 10)), .int (nI (f 11)), .int (nI (f 12)), .int (nI (f 13)), .ref (ad 7), .ref (ad 8), .ref (ad 9), .ref (ad 10), .ref (ad 11), .int (nI (f 19)), .int (nI (f 20)), .int (nI (f 21)), .ref (ad 12)])), (ad 1, .inl (ka 1, 5, .inl (nA (g 1)))), (ad 2, .inl (ka 2, 40, .inl (nA (upN (g 2) pb ((g 2) pa))))), (ad 3, .inl (ka 3, 160, .inl (nA (upN (upN (upN (g 3) ((4 * pb) + 0) ((g 3) ((4 * pa) + 0))) ((4 * pb) + 1) ((upN (g 3) ((4 * pb) + 0) ((g 3) ((4 * pa) + 0))) ((4 * pa) + 1))) ((4 * pb) + 2) ((upN (upN (g 3) ((4 * pb) + 0) ((g 3) ((4 * pa) + 0))) ((4 * pb) + 1) ((upN (g 3) ((4 * pb) + 0) ((g 3) ((4 * pa) + 0))) ((4 * pa) + 1))) ((4 * pa) + 2)))))), (ad 4, .inl (ka 4, 4, .inl (nA (g 4)))), (ad 5, .inl (ka 5, 4, .inl (nA (g 5)))), (ad 6, .inl (ka 6, 200, .inl (nA (g 6)))), (ad 7, .inl (ka 7, 12001, .inr (.inl (lA t)))), (ad 8, .inl (ka 8, 12001, .inl (nA (g 8)))), (ad 9, .inl (ka 9, 12001, .inl (nA (g 9)))), (ad 10, .inl (ka 10, 12001, .inl (nA (g 10)))), (ad 11, .inl (ka 11, 32768, .inl (nA (g 11)))), (ad 12, .inl (ka 12, 64, .inl (nA (g 12))))] := hD
  refine lv_iinc (v := nI 3) (lv' := [(3, .int (nI 3)), (0, .ref (ad 0)), (1, .int (nI pa)), (2, .int (nI pb))]) hx hb dX5_copyTo_39 hl (k := 0) rfl (by decide) (by decide) rfl (fun ls hl => ?_)
  refine lv_goto (tgt := 14) hx hb dX5_copyTo_42 (by decide) ?_
  refine lv_iload_n hx hb dX5_copyTo_14 rfl (lv_at hl 0 rfl) ?_
  refine lv_iconst (v := nI 4) hx hb dX5_copyTo_15 (by decide) ?_
  refine lv_icmp_ge (tgt := 45) hx hb dX5_copyTo_16 (by decide) (fun c16_4 => absurd c16_4 (by decide)) (fun c16_4 => ?_)
  refine lv_aload_n hx hb dX5_copyTo_19 rfl (lv_at hl 1 rfl) ?_
  refine va_get (D := D) (ci := 5) (v := .ref (ad 3)) (C := RX5) (T := TX5) (N := 23) hx hb hU iX5 hown hK hP 0 rfl rfl 2 (by decide) (hU _ mU_77) (fun _ h9 => h9) rfl dX5_copyTo_20 ?_
  refine lv_iconst (v := nI 4) hx hb dX5_copyTo_23 (by decide) ?_
  refine lv_iload_n hx hb dX5_copyTo_24 rfl (lv_at hl 3 rfl) ?_
  refine lv_imul hx hb dX5_copyTo_25 ?_
  refine lv_topE (nI (4 * pb)) (pk_mul _ _) ?_
  refine lv_iload_n hx hb dX5_copyTo_26 rfl (lv_at hl 0 rfl) ?_
  refine lv_iadd hx hb dX5_copyTo_27 ?_
  refine lv_topE (nI ((4 * pb) + 3)) (nI_add _ _) ?_
  refine lv_aload_n hx hb dX5_copyTo_28 rfl (lv_at hl 1 rfl) ?_
  refine va_get (D := D) (ci := 5) (v := .ref (ad 3)) (C := RX5) (T := TX5) (N := 23) hx hb hU iX5 hown hK hP 0 rfl rfl 2 (by decide) (hU _ mU_77) (fun _ h9 => h9) rfl dX5_copyTo_29 ?_
  refine lv_iconst (v := nI 4) hx hb dX5_copyTo_32 (by decide) ?_
  refine lv_iload_n hx hb dX5_copyTo_33 rfl (lv_at hl 2 rfl) ?_
  refine lv_imul hx hb dX5_copyTo_34 ?_
  refine lv_topE (nI (4 * pa)) (pk_mul _ _) ?_
  refine lv_iload_n hx hb dX5_copyTo_35 rfl (lv_at hl 0 rfl) ?_
  refine lv_iadd hx hb dX5_copyTo_36 ?_
  refine lv_topE (nI ((4 * pa) + 3)) (nI_add _ _) ?_
  refine n_iald hx hb hK hP 3 2 rfl rfl (i := (4 * pa) + 3) (by omega) (by decide) dX5_copyTo_37 ?_
  refine n_iast hx hb hK hP hD hS 3 2 rfl rfl (i := (4 * pb) + 3) (v := (upN (upN (upN (g 3) ((4 * pb) + 0) ((g 3) ((4 * pa) + 0))) ((4 * pb) + 1) ((upN (g 3) ((4 * pb) + 0) ((g 3) ((4 * pa) + 0))) ((4 * pa) + 1))) ((4 * pb) + 2) ((upN (upN (g 3) ((4 * pb) + 0) ((g 3) ((4 * pa) + 0))) ((4 * pb) + 1) ((upN (g 3) ((4 * pb) + 0) ((g 3) ((4 * pa) + 0))) ((4 * pa) + 1))) ((4 * pa) + 2))) ((4 * pa) + 3)) (by omega) (by decide) dX5_copyTo_38 (fun H locs hP hD hS => ?_)
  have hP : va_P D vwCl [(ad 0, .inr (5, [.ref (ad 1), .ref (ad 2), .ref (ad 3), .ref (ad 4), .ref (ad 5), .int (nI (f 5)), .ref (ad 6), .int (nI (f 7)), .int (nI (f 8)), .int (nI (f 9)), .int (nI (f 10)), .int (nI (f 11)), .int (nI (f 12)), .int (nI (f 13)), .ref (ad 7), .ref (ad 8), .ref (ad 9), .ref (ad 10), .ref (ad 11), .int (nI (f 19)), .int (nI (f 20)), .int (nI (f 21)), .ref (ad 12)])), (ad 1, .inl (ka 1, 5, .inl (nA (g 1)))), (ad 2, .inl (ka 2, 40, .inl (nA (upN (g 2) pb ((g 2) pa))))), (ad 3, .inl (ka 3, 160, .inl (nA (upN (upN (upN (upN (g 3) ((4 * pb) + 0) ((g 3) ((4 * pa) + 0))) ((4 * pb) + 1) ((upN (g 3) ((4 * pb) + 0) ((g 3) ((4 * pa) + 0))) ((4 * pa) + 1))) ((4 * pb) + 2) ((upN (upN (g 3) ((4 * pb) + 0) ((g 3) ((4 * pa) + 0))) ((4 * pb) + 1) ((upN (g 3) ((4 * pb) + 0) ((g 3) ((4 * pa) + 0))) ((4 * pa) + 1))) ((4 * pa) + 2))) ((4 * pb) + 3) ((upN (upN (upN (g 3) ((4 * pb) + 0) ((g 3) ((4 * pa) + 0))) ((4 * pb) + 1) ((upN (g 3) ((4 * pb) + 0) ((g 3) ((4 * pa) + 0))) ((4 * pa) + 1))) ((4 * pb) + 2) ((upN (upN (g 3) ((4 * pb) + 0) ((g 3) ((4 * pa) + 0))) ((4 * pb) + 1) ((upN (g 3) ((4 * pb) + 0) ((g 3) ((4 * pa) + 0))) ((4 * pa) + 1))) ((4 * pa) + 2))) ((4 * pa) + 3)))))), (ad 4, .inl (ka 4, 4, .inl (nA (g 4)))), (ad 5, .inl (ka 5, 4, .inl (nA (g 5)))), (ad 6, .inl (ka 6, 200, .inl (nA (g 6)))), (ad 7, .inl (ka 7, 12001, .inr (.inl (lA t)))), (ad 8, .inl (ka 8, 12001, .inl (nA (g 8)))), (ad 9, .inl (ka 9, 12001, .inl (nA (g 9)))), (ad 10, .inl (ka 10, 12001, .inl (nA (g 10)))), (ad 11, .inl (ka 11, 32768, .inl (nA (g 11)))), (ad 12, .inl (ka 12, 64, .inl (nA (g 12))))] H := hP
  have hD : va_D Ar [(ad 0, .inr (5, [.ref (ad 1), .ref (ad 2), .ref (ad 3), .ref (ad 4), .ref (ad 5), .int (nI (f 5)), .ref (ad 6), .int (nI (f 7)), .int (nI (f 8)), .int (nI (f 9)), .int (nI (f 10)), .int (nI (f 11)), .int (nI (f 12)), .int (nI (f 13)), .ref (ad 7), .ref (ad 8), .ref (ad 9), .ref (ad 10), .ref (ad 11), .int (nI (f 19)), .int (nI (f 20)), .int (nI (f 21)), .ref (ad 12)])), (ad 1, .inl (ka 1, 5, .inl (nA (g 1)))), (ad 2, .inl (ka 2, 40, .inl (nA (upN (g 2) pb ((g 2) pa))))), (ad 3, .inl (ka 3, 160, .inl (nA (upN (upN (upN (upN (g 3) ((4 * pb) + 0) ((g 3) ((4 * pa) + 0))) ((4 * pb) + 1) ((upN (g 3) ((4 * pb) + 0) ((g 3) ((4 * pa) + 0))) ((4 * pa) + 1))) ((4 * pb) + 2) ((upN (upN (g 3) ((4 * pb) + 0) ((g 3) ((4 * pa) + 0))) ((4 * pb) + 1) ((upN (g 3) ((4 * pb) + 0) ((g 3) ((4 * pa) + 0))) ((4 * pa) + 1))) ((4 * pa) + 2))) ((4 * pb) + 3) ((upN (upN (upN (g 3) ((4 * pb) + 0) ((g 3) ((4 * pa) + 0))) ((4 * pb) + 1) ((upN (g 3) ((4 * pb) + 0) ((g 3) ((4 * pa) + 0))) ((4 * pa) + 1))) ((4 * pb) + 2) ((upN (upN (g 3) ((4 * pb) + 0) ((g 3) ((4 * pa) + 0))) ((4 * pb) + 1) ((upN (g 3) ((4 * pb) + 0) ((g 3) ((4 * pa) + 0))) ((4 * pa) + 1))) ((4 * pa) + 2))) ((4 * pa) + 3)))))), (ad 4, .inl (ka 4, 4, .inl (nA (g 4)))), (ad 5, .inl (ka 5, 4, .inl (nA (g 5)))), (ad 6, .inl (ka 6, 200, .inl (nA (g 6)))), (ad 7, .inl (ka 7, 12001, .inr (.inl (lA t)))), (ad 8, .inl (ka 8, 12001, .inl (nA (g 8)))), (ad 9, .inl (ka 9, 12001, .inl (nA (g 9)))), (ad 10, .inl (ka 10, 12001, .inl (nA (g 10)))), (ad 11, .inl (ka 11, 32768, .inl (nA (g 11)))), (ad 12, .inl (ka 12, 64, .inl (nA (g 12))))] := hD
  refine lv_iinc (v := nI 4) (lv' := [(3, .int (nI 4)), (0, .ref (ad 0)), (1, .int (nI pa)), (2, .int (nI pb))]) hx hb dX5_copyTo_39 hl (k := 0) rfl (by decide) (by decide) rfl (fun ls hl => ?_)
  refine lv_goto (tgt := 14) hx hb dX5_copyTo_42 (by decide) ?_
  refine lv_iload_n hx hb dX5_copyTo_14 rfl (lv_at hl 0 rfl) ?_
  refine lv_iconst (v := nI 4) hx hb dX5_copyTo_15 (by decide) ?_
  refine lv_icmp_ge (tgt := 45) hx hb dX5_copyTo_16 (by decide) (fun c16_5 => ?_) (fun c16_5 => absurd (by decide) c16_5)
  subst hQ
  exact rwv (f, upA (upA (g) 2 (upN (g 2) pb ((g 2) pa))) 3 (upN (upN (upN (upN (g 3) ((4 * pb) + 0) ((g 3) ((4 * pa) + 0))) ((4 * pb) + 1) ((upN (g 3) ((4 * pb) + 0) ((g 3) ((4 * pa) + 0))) ((4 * pa) + 1))) ((4 * pb) + 2) ((upN (upN (g 3) ((4 * pb) + 0) ((g 3) ((4 * pa) + 0))) ((4 * pb) + 1) ((upN (g 3) ((4 * pb) + 0) ((g 3) ((4 * pa) + 0))) ((4 * pa) + 1))) ((4 * pa) + 2))) ((4 * pb) + 3) ((upN (upN (upN (g 3) ((4 * pb) + 0) ((g 3) ((4 * pa) + 0))) ((4 * pb) + 1) ((upN (g 3) ((4 * pb) + 0) ((g 3) ((4 * pa) + 0))) ((4 * pa) + 1))) ((4 * pb) + 2) ((upN (upN (g 3) ((4 * pb) + 0) ((g 3) ((4 * pa) + 0))) ((4 * pb) + 1) ((upN (g 3) ((4 * pb) + 0) ((g 3) ((4 * pa) + 0))) ((4 * pa) + 1))) ((4 * pa) + 2))) ((4 * pa) + 3))), t) hx hb hr hlocks (by rw [← cp4_eq hpn]; rfl) hP hK hD hS dX5_copyTo_45

set_option maxHeartbeats 4000000 in
set_option maxRecDepth 100000 in
theorem c_X5_lay (l : Launch) (D : va_G) (ad : Nat → Nat) (ka : Nat → ClassId) (f : Nat → Nat) (g : Nat → Nat → Nat) (t : Nat → Nat) (sz : Nat) (fe : Nat) (hg : ∀ a, a < 6 → ∀ i, g a i < 2147483648) (hP9 : okP g) (h7 : ∀ h, h < 2 → layL g fe h ≤ 7) (hfe : fe = 4294967295 ∨ (fe < 16 ∧ fe % 8 < g 1 (fe / 8))) : Met l yX5_lay (.code yX5_lay cX5_lay 7 none :: wsL_law) ({ frames := 1, cells := 0, slots := 0, locals := 23 }) (va_Pc [.ref (ad 0), .int (nI fe)] (PW D (mW ad ka f g t) (mT ka) sz)) (va_Qv (fun u : MSt => ∃ l1 s2 n3, u = (f, upA (upA (upA g 1 l1) 2 s2) 3 n3, t) ∧ LayA g fe l1 s2 n3 ∧ ∀ j, l1 j < 2147483648 ∧ s2 j < 2147483648 ∧ n3 j < 2147483648) (QW D (fun u : MSt => mW ad ka u.1 u.2.1 u.2.2) (fun _ => mT ka) (va_A (mW ad ka f g t) sz)) (va_A (mW ad ka f g t) sz)) 0 0 (va_A (mW ad ka f g t) sz) := by
  refine Met.ofW (cc := cX5_lay) (maxL := 7) (ret := none) (by decide) rfl ?_
  intro p e s m args below meth c s₁ B hml hv
  obtain ⟨rfl, hsz, hP, hK, hD0⟩ := hv
  have hx := B.exec
  have hb := B.bytes
  have hr := B.returns
  have hts := atoms_spec (ws := .code yX5_lay cX5_lay 7 none :: wsL_law) B.pre
  have hU : ∀ w ∈ wsL_law, w.before _ s = true := fun w h => hts w (List.mem_cons_of_mem _ h)
  have hown : s.vm.findClass RX5 = some m.cls := findClass_of_methodNamed B.named
  have hlocks := B.notSynchronized
  subst hsz
  have hD := hD0.self (sz := s.heap.size)
  generalize hAe : va_A (mW ad ka f g t) s.heap.size = Ar at hD ⊢
  have hA : ∀ q : Nat, s.heap.size ≤ q → Ar q := fun q h => by rw [← hAe]; exact Or.inr h
  have hS : va_S Ar s.heap s.heap [] := va_S.rf
  have hP : va_P D vwCl [(ad 0, .inr (5, [.ref (ad 1), .ref (ad 2), .ref (ad 3), .ref (ad 4), .ref (ad 5), .int (nI (f 5)), .ref (ad 6), .int (nI (f 7)), .int (nI (f 8)), .int (nI (f 9)), .int (nI (f 10)), .int (nI (f 11)), .int (nI (f 12)), .int (nI (f 13)), .ref (ad 7), .ref (ad 8), .ref (ad 9), .ref (ad 10), .ref (ad 11), .int (nI (f 19)), .int (nI (f 20)), .int (nI (f 21)), .ref (ad 12)])), (ad 1, .inl (ka 1, 5, .inl (nA (g 1)))), (ad 2, .inl (ka 2, 40, .inl (nA (g 2)))), (ad 3, .inl (ka 3, 160, .inl (nA (g 3)))), (ad 4, .inl (ka 4, 4, .inl (nA (g 4)))), (ad 5, .inl (ka 5, 4, .inl (nA (g 5)))), (ad 6, .inl (ka 6, 200, .inl (nA (g 6)))), (ad 7, .inl (ka 7, 12001, .inr (.inl (lA t)))), (ad 8, .inl (ka 8, 12001, .inl (nA (g 8)))), (ad 9, .inl (ka 9, 12001, .inl (nA (g 9)))), (ad 10, .inl (ka 10, 12001, .inl (nA (g 10)))), (ad 11, .inl (ka 11, 32768, .inl (nA (g 11)))), (ad 12, .inl (ka 12, 64, .inl (nA (g 12))))] s.heap := hP
  have hD : va_D Ar [(ad 0, .inr (5, [.ref (ad 1), .ref (ad 2), .ref (ad 3), .ref (ad 4), .ref (ad 5), .int (nI (f 5)), .ref (ad 6), .int (nI (f 7)), .int (nI (f 8)), .int (nI (f 9)), .int (nI (f 10)), .int (nI (f 11)), .int (nI (f 12)), .int (nI (f 13)), .ref (ad 7), .ref (ad 8), .ref (ad 9), .ref (ad 10), .ref (ad 11), .int (nI (f 19)), .int (nI (f 20)), .int (nI (f 21)), .ref (ad 12)])), (ad 1, .inl (ka 1, 5, .inl (nA (g 1)))), (ad 2, .inl (ka 2, 40, .inl (nA (g 2)))), (ad 3, .inl (ka 3, 160, .inl (nA (g 3)))), (ad 4, .inl (ka 4, 4, .inl (nA (g 4)))), (ad 5, .inl (ka 5, 4, .inl (nA (g 5)))), (ad 6, .inl (ka 6, 200, .inl (nA (g 6)))), (ad 7, .inl (ka 7, 12001, .inr (.inl (lA t)))), (ad 8, .inl (ka 8, 12001, .inl (nA (g 8)))), (ad 9, .inl (ka 9, 12001, .inl (nA (g 9)))), (ad 10, .inl (ka 10, 12001, .inl (nA (g 10)))), (ad 11, .inl (ka 11, 32768, .inl (nA (g 11)))), (ad 12, .inl (ka 12, 64, .inl (nA (g 12))))] := hD
  generalize hQ : MQ _ _ _ _ _ _ _ = Q
  have hl := lv_entry ([.ref (ad 0), .int (nI fe)]) (n := 7) (Nat.le_of_ble_eq_true rfl)
  rw [lg_entry_eq]
  generalize (lg_sl ([.ref (ad 0), .int (nI fe)]) ++ List.replicate (7 - (lg_sl ([.ref (ad 0), .int (nI fe)])).length) Slot.unset).toArray = ls at hl ⊢
  have hl : lv_has ls 7 [(0, .ref (ad 0)), (1, .int (nI fe))] := hl
  refine lv_iconst (v := nI 0) hx hb dX5_lay_0 (by decide) ?_
  refine lv_istore_n (lv' := [(2, .int (nI 0)), (0, .ref (ad 0)), (1, .int (nI fe))]) hx hb dX5_lay_1 rfl hl (by decide) rfl (fun ls hl => ?_)
  refine lv_iload_n hx hb dX5_lay_2 rfl (lv_at hl 0 rfl) ?_
  refine lv_iconst (v := nI 2) hx hb dX5_lay_3 (by decide) ?_
  refine lv_icmp_ge (tgt := 173) hx hb dX5_lay_4 (by decide) (fun c4_1 => absurd c4_1 (by decide)) (fun c4_1 => ?_)
  refine lv_iconst (v := nI 0) hx hb dX5_lay_7 (by decide) ?_
  refine lv_istore_n (lv' := [(3, .int (nI 0)), (2, .int (nI 0)), (0, .ref (ad 0)), (1, .int (nI fe))]) hx hb dX5_lay_8 rfl hl (by decide) rfl (fun ls hl => ?_)
  refine lv_iconst (v := nI 0) hx hb dX5_lay_9 (by decide) ?_
  refine lv_istore (lv' := [(4, .int (nI 0)), (3, .int (nI 0)), (2, .int (nI 0)), (0, .ref (ad 0)), (1, .int (nI fe))]) hx hb dX5_lay_10 hl (by decide) rfl (fun ls hl => ?_)
  have Lh0_31 : ∀ (n : Nat) (i0 : Nat) (m0 : Nat) (s0 : Nat → Nat) (n0 : Nat → Nat), (i0 ≤ g 1 0) → (m0 = if fIn g fe 0 ∧ fe % 8 < i0 then i0 + 1 else i0) → (LayP g fe 0 m0 s0 n0) → (∀ j, s0 j < 2147483648 ∧ n0 j < 2147483648) → (g 1 0 - i0) < n → ∀ (H : Heap) (locs : List Loc), va_P D vwCl [(ad 0, .inr (5, [.ref (ad 1), .ref (ad 2), .ref (ad 3), .ref (ad 4), .ref (ad 5), .int (nI (f 5)), .ref (ad 6), .int (nI (f 7)), .int (nI (f 8)), .int (nI (f 9)), .int (nI (f 10)), .int (nI (f 11)), .int (nI (f 12)), .int (nI (f 13)), .ref (ad 7), .ref (ad 8), .ref (ad 9), .ref (ad 10), .ref (ad 11), .int (nI (f 19)), .int (nI (f 20)), .int (nI (f 21)), .ref (ad 12)])), (ad 1, .inl (ka 1, 5, .inl (nA (g 1)))), (ad 2, .inl (ka 2, 40, .inl (nA s0))), (ad 3, .inl (ka 3, 160, .inl (nA n0))), (ad 4, .inl (ka 4, 4, .inl (nA (g 4)))), (ad 5, .inl (ka 5, 4, .inl (nA (g 5)))), (ad 6, .inl (ka 6, 200, .inl (nA (g 6)))), (ad 7, .inl (ka 7, 12001, .inr (.inl (lA t)))), (ad 8, .inl (ka 8, 12001, .inl (nA (g 8)))), (ad 9, .inl (ka 9, 12001, .inl (nA (g 9)))), (ad 10, .inl (ka 10, 12001, .inl (nA (g 10)))), (ad 11, .inl (ka 11, 32768, .inl (nA (g 11)))), (ad 12, .inl (ka 12, 64, .inl (nA (g 12))))] H → va_D Ar [(ad 0, .inr (5, [.ref (ad 1), .ref (ad 2), .ref (ad 3), .ref (ad 4), .ref (ad 5), .int (nI (f 5)), .ref (ad 6), .int (nI (f 7)), .int (nI (f 8)), .int (nI (f 9)), .int (nI (f 10)), .int (nI (f 11)), .int (nI (f 12)), .int (nI (f 13)), .ref (ad 7), .ref (ad 8), .ref (ad 9), .ref (ad 10), .ref (ad 11), .int (nI (f 19)), .int (nI (f 20)), .int (nI (f 21)), .ref (ad 12)])), (ad 1, .inl (ka 1, 5, .inl (nA (g 1)))), (ad 2, .inl (ka 2, 40, .inl (nA s0))), (ad 3, .inl (ka 3, 160, .inl (nA n0))), (ad 4, .inl (ka 4, 4, .inl (nA (g 4)))), (ad 5, .inl (ka 5, 4, .inl (nA (g 5)))), (ad 6, .inl (ka 6, 200, .inl (nA (g 6)))), (ad 7, .inl (ka 7, 12001, .inr (.inl (lA t)))), (ad 8, .inl (ka 8, 12001, .inl (nA (g 8)))), (ad 9, .inl (ka 9, 12001, .inl (nA (g 9)))), (ad 10, .inl (ka 10, 12001, .inl (nA (g 10)))), (ad 11, .inl (ka 11, 32768, .inl (nA (g 11)))), (ad 12, .inl (ka 12, 64, .inl (nA (g 12))))] → va_S Ar s.heap H locs → ∀ ls : Array Slot, lv_has ls 7 [(0, .ref (ad 0)), (1, .int (nI fe)), (2, .int (nI 0)), (3, .int (nI m0)), (4, .int (nI i0))] → W p l e ({ frames := 1, cells := 0, slots := 0, locals := 23 } : Room) s m (([.ref (ad 0), .int (nI fe)] : List Value).toArray) below meth c H locs 0 0 Q (F0 m 12 ls []) := by
    intro nh0
    induction nh0 with
    | zero => intro i0 m0 s0 n0 hi0 hm0 hLP0 hbd0 hmh0; exact absurd hmh0 (Nat.not_lt_zero _)
    | succ nh0 ihh0 =>
      intro i0 m0 s0 n0 hi0 hm0 hLP0 hbd0 hmh0 H locs hP hD hS ls hl
      refine lv_iload hx hb dX5_lay_12 (lv_at hl 4 rfl) ?_
      refine lv_aload_n hx hb dX5_lay_14 rfl (lv_at hl 0 rfl) ?_
      refine va_get (D := D) (ci := 5) (v := .ref (ad 1)) (C := RX5) (T := TX5) (N := 23) hx hb hU iX5 hown hK hP 0 rfl rfl 0 (by decide) (hU _ mU_75) (fun _ h9 => h9) rfl dX5_lay_15 ?_
      refine lv_iload_n hx hb dX5_lay_18 rfl (lv_at hl 2 rfl) ?_
      refine n_iald hx hb hK hP 1 0 rfl rfl (i := 0) (by omega) (by decide) dX5_lay_19 ?_
      refine lv_topE (nI (g 1 0)) (rfl) ?_
      have hlb : g 1 0 ≤ 7 := (hP9 0 (by decide)).1
      refine lv_icmp_ge (tgt := 158) hx hb dX5_lay_20 (by decide) (fun c20_2 => ?_) (fun c20_2 => ?_)
      · have c20_2 : g 1 0 ≤ i0 := (nI_leI (a := g 1 0) (b := i0) (by omega) (by omega)).mp c20_2
        refine lv_aload_n hx hb dX5_lay_158 rfl (lv_at hl 0 rfl) ?_
        refine va_get (D := D) (ci := 5) (v := .ref (ad 1)) (C := RX5) (T := TX5) (N := 23) hx hb hU iX5 hown hK hP 0 rfl rfl 0 (by decide) (hU _ mU_75) (fun _ h9 => h9) rfl dX5_lay_159 ?_
        refine lv_iconst (v := nI 2) hx hb dX5_lay_162 (by decide) ?_
        refine lv_iload_n hx hb dX5_lay_163 rfl (lv_at hl 2 rfl) ?_
        refine lv_iadd hx hb dX5_lay_164 ?_
        refine lv_topE (nI 2) (nI_add _ _) ?_
        refine lv_iload_n hx hb dX5_lay_165 rfl (lv_at hl 3 rfl) ?_
        refine n_iast hx hb hK hP hD hS 1 0 rfl rfl (i := 2) (v := m0) (by omega) (by decide) dX5_lay_166 (fun H locs hP hD hS => ?_)
        have hP : va_P D vwCl [(ad 0, .inr (5, [.ref (ad 1), .ref (ad 2), .ref (ad 3), .ref (ad 4), .ref (ad 5), .int (nI (f 5)), .ref (ad 6), .int (nI (f 7)), .int (nI (f 8)), .int (nI (f 9)), .int (nI (f 10)), .int (nI (f 11)), .int (nI (f 12)), .int (nI (f 13)), .ref (ad 7), .ref (ad 8), .ref (ad 9), .ref (ad 10), .ref (ad 11), .int (nI (f 19)), .int (nI (f 20)), .int (nI (f 21)), .ref (ad 12)])), (ad 1, .inl (ka 1, 5, .inl (nA (upN (g 1) 2 m0)))), (ad 2, .inl (ka 2, 40, .inl (nA s0))), (ad 3, .inl (ka 3, 160, .inl (nA n0))), (ad 4, .inl (ka 4, 4, .inl (nA (g 4)))), (ad 5, .inl (ka 5, 4, .inl (nA (g 5)))), (ad 6, .inl (ka 6, 200, .inl (nA (g 6)))), (ad 7, .inl (ka 7, 12001, .inr (.inl (lA t)))), (ad 8, .inl (ka 8, 12001, .inl (nA (g 8)))), (ad 9, .inl (ka 9, 12001, .inl (nA (g 9)))), (ad 10, .inl (ka 10, 12001, .inl (nA (g 10)))), (ad 11, .inl (ka 11, 32768, .inl (nA (g 11)))), (ad 12, .inl (ka 12, 64, .inl (nA (g 12))))] H := hP
        have hD : va_D Ar [(ad 0, .inr (5, [.ref (ad 1), .ref (ad 2), .ref (ad 3), .ref (ad 4), .ref (ad 5), .int (nI (f 5)), .ref (ad 6), .int (nI (f 7)), .int (nI (f 8)), .int (nI (f 9)), .int (nI (f 10)), .int (nI (f 11)), .int (nI (f 12)), .int (nI (f 13)), .ref (ad 7), .ref (ad 8), .ref (ad 9), .ref (ad 10), .ref (ad 11), .int (nI (f 19)), .int (nI (f 20)), .int (nI (f 21)), .ref (ad 12)])), (ad 1, .inl (ka 1, 5, .inl (nA (upN (g 1) 2 m0)))), (ad 2, .inl (ka 2, 40, .inl (nA s0))), (ad 3, .inl (ka 3, 160, .inl (nA n0))), (ad 4, .inl (ka 4, 4, .inl (nA (g 4)))), (ad 5, .inl (ka 5, 4, .inl (nA (g 5)))), (ad 6, .inl (ka 6, 200, .inl (nA (g 6)))), (ad 7, .inl (ka 7, 12001, .inr (.inl (lA t)))), (ad 8, .inl (ka 8, 12001, .inl (nA (g 8)))), (ad 9, .inl (ka 9, 12001, .inl (nA (g 9)))), (ad 10, .inl (ka 10, 12001, .inl (nA (g 10)))), (ad 11, .inl (ka 11, 32768, .inl (nA (g 11)))), (ad 12, .inl (ka 12, 64, .inl (nA (g 12))))] := hD
        refine lv_iinc (v := nI 1) (lv' := [(2, .int (nI 1)), (0, .ref (ad 0)), (1, .int (nI fe)), (3, .int (nI m0)), (4, .int (nI i0))]) hx hb dX5_lay_167 hl (k := 2) rfl (by decide) (by decide) rfl (fun ls hl => ?_)
        refine lv_goto (tgt := 2) hx hb dX5_lay_170 (by decide) ?_
        refine lv_iload_n hx hb dX5_lay_2 rfl (lv_at hl 0 rfl) ?_
        refine lv_iconst (v := nI 2) hx hb dX5_lay_3 (by decide) ?_
        refine lv_icmp_ge (tgt := 173) hx hb dX5_lay_4 (by decide) (fun c4_3 => absurd c4_3 (by decide)) (fun c4_3 => ?_)
        refine lv_iconst (v := nI 0) hx hb dX5_lay_7 (by decide) ?_
        refine lv_istore_n (lv' := [(3, .int (nI 0)), (2, .int (nI 1)), (0, .ref (ad 0)), (1, .int (nI fe)), (4, .int (nI i0))]) hx hb dX5_lay_8 rfl hl (by decide) rfl (fun ls hl => ?_)
        refine lv_iconst (v := nI 0) hx hb dX5_lay_9 (by decide) ?_
        refine lv_istore (lv' := [(4, .int (nI 0)), (3, .int (nI 0)), (2, .int (nI 1)), (0, .ref (ad 0)), (1, .int (nI fe))]) hx hb dX5_lay_10 hl (by decide) rfl (fun ls hl => ?_)
        have Lh1_65 : ∀ (n : Nat) (i1 : Nat) (m1 : Nat) (s1 : Nat → Nat) (n1 : Nat → Nat), (i1 ≤ g 1 1) → (m1 = if fIn g fe 1 ∧ fe % 8 < i1 then i1 + 1 else i1) → (LayP g fe 1 m1 s1 n1) → (∀ j, s1 j < 2147483648 ∧ n1 j < 2147483648) → (g 1 1 - i1) < n → ∀ (H : Heap) (locs : List Loc), va_P D vwCl [(ad 0, .inr (5, [.ref (ad 1), .ref (ad 2), .ref (ad 3), .ref (ad 4), .ref (ad 5), .int (nI (f 5)), .ref (ad 6), .int (nI (f 7)), .int (nI (f 8)), .int (nI (f 9)), .int (nI (f 10)), .int (nI (f 11)), .int (nI (f 12)), .int (nI (f 13)), .ref (ad 7), .ref (ad 8), .ref (ad 9), .ref (ad 10), .ref (ad 11), .int (nI (f 19)), .int (nI (f 20)), .int (nI (f 21)), .ref (ad 12)])), (ad 1, .inl (ka 1, 5, .inl (nA (upN (g 1) 2 m0)))), (ad 2, .inl (ka 2, 40, .inl (nA s1))), (ad 3, .inl (ka 3, 160, .inl (nA n1))), (ad 4, .inl (ka 4, 4, .inl (nA (g 4)))), (ad 5, .inl (ka 5, 4, .inl (nA (g 5)))), (ad 6, .inl (ka 6, 200, .inl (nA (g 6)))), (ad 7, .inl (ka 7, 12001, .inr (.inl (lA t)))), (ad 8, .inl (ka 8, 12001, .inl (nA (g 8)))), (ad 9, .inl (ka 9, 12001, .inl (nA (g 9)))), (ad 10, .inl (ka 10, 12001, .inl (nA (g 10)))), (ad 11, .inl (ka 11, 32768, .inl (nA (g 11)))), (ad 12, .inl (ka 12, 64, .inl (nA (g 12))))] H → va_D Ar [(ad 0, .inr (5, [.ref (ad 1), .ref (ad 2), .ref (ad 3), .ref (ad 4), .ref (ad 5), .int (nI (f 5)), .ref (ad 6), .int (nI (f 7)), .int (nI (f 8)), .int (nI (f 9)), .int (nI (f 10)), .int (nI (f 11)), .int (nI (f 12)), .int (nI (f 13)), .ref (ad 7), .ref (ad 8), .ref (ad 9), .ref (ad 10), .ref (ad 11), .int (nI (f 19)), .int (nI (f 20)), .int (nI (f 21)), .ref (ad 12)])), (ad 1, .inl (ka 1, 5, .inl (nA (upN (g 1) 2 m0)))), (ad 2, .inl (ka 2, 40, .inl (nA s1))), (ad 3, .inl (ka 3, 160, .inl (nA n1))), (ad 4, .inl (ka 4, 4, .inl (nA (g 4)))), (ad 5, .inl (ka 5, 4, .inl (nA (g 5)))), (ad 6, .inl (ka 6, 200, .inl (nA (g 6)))), (ad 7, .inl (ka 7, 12001, .inr (.inl (lA t)))), (ad 8, .inl (ka 8, 12001, .inl (nA (g 8)))), (ad 9, .inl (ka 9, 12001, .inl (nA (g 9)))), (ad 10, .inl (ka 10, 12001, .inl (nA (g 10)))), (ad 11, .inl (ka 11, 32768, .inl (nA (g 11)))), (ad 12, .inl (ka 12, 64, .inl (nA (g 12))))] → va_S Ar s.heap H locs → ∀ ls : Array Slot, lv_has ls 7 [(0, .ref (ad 0)), (1, .int (nI fe)), (2, .int (nI 1)), (3, .int (nI m1)), (4, .int (nI i1))] → W p l e ({ frames := 1, cells := 0, slots := 0, locals := 23 } : Room) s m (([.ref (ad 0), .int (nI fe)] : List Value).toArray) below meth c H locs 0 0 Q (F0 m 12 ls []) := by
          intro nh1
          induction nh1 with
          | zero => intro i1 m1 s1 n1 hi1 hm1 hLP1 hbd1 hmh1; exact absurd hmh1 (Nat.not_lt_zero _)
          | succ nh1 ihh1 =>
            intro i1 m1 s1 n1 hi1 hm1 hLP1 hbd1 hmh1 H locs hP hD hS ls hl
            refine lv_iload hx hb dX5_lay_12 (lv_at hl 4 rfl) ?_
            refine lv_aload_n hx hb dX5_lay_14 rfl (lv_at hl 0 rfl) ?_
            refine va_get (D := D) (ci := 5) (v := .ref (ad 1)) (C := RX5) (T := TX5) (N := 23) hx hb hU iX5 hown hK hP 0 rfl rfl 0 (by decide) (hU _ mU_75) (fun _ h9 => h9) rfl dX5_lay_15 ?_
            refine lv_iload_n hx hb dX5_lay_18 rfl (lv_at hl 2 rfl) ?_
            refine n_iald hx hb hK hP 1 0 rfl rfl (i := 1) (by omega) (by decide) dX5_lay_19 ?_
            refine lv_topE (nI (g 1 1)) (rfl) ?_
            have hlb : g 1 1 ≤ 7 := (hP9 1 (by decide)).1
            refine lv_icmp_ge (tgt := 158) hx hb dX5_lay_20 (by decide) (fun c20_4 => ?_) (fun c20_4 => ?_)
            · have c20_4 : g 1 1 ≤ i1 := (nI_leI (a := g 1 1) (b := i1) (by omega) (by omega)).mp c20_4
              refine lv_aload_n hx hb dX5_lay_158 rfl (lv_at hl 0 rfl) ?_
              refine va_get (D := D) (ci := 5) (v := .ref (ad 1)) (C := RX5) (T := TX5) (N := 23) hx hb hU iX5 hown hK hP 0 rfl rfl 0 (by decide) (hU _ mU_75) (fun _ h9 => h9) rfl dX5_lay_159 ?_
              refine lv_iconst (v := nI 2) hx hb dX5_lay_162 (by decide) ?_
              refine lv_iload_n hx hb dX5_lay_163 rfl (lv_at hl 2 rfl) ?_
              refine lv_iadd hx hb dX5_lay_164 ?_
              refine lv_topE (nI 3) (nI_add _ _) ?_
              refine lv_iload_n hx hb dX5_lay_165 rfl (lv_at hl 3 rfl) ?_
              refine n_iast hx hb hK hP hD hS 1 0 rfl rfl (i := 3) (v := m1) (by omega) (by decide) dX5_lay_166 (fun H locs hP hD hS => ?_)
              have hP : va_P D vwCl [(ad 0, .inr (5, [.ref (ad 1), .ref (ad 2), .ref (ad 3), .ref (ad 4), .ref (ad 5), .int (nI (f 5)), .ref (ad 6), .int (nI (f 7)), .int (nI (f 8)), .int (nI (f 9)), .int (nI (f 10)), .int (nI (f 11)), .int (nI (f 12)), .int (nI (f 13)), .ref (ad 7), .ref (ad 8), .ref (ad 9), .ref (ad 10), .ref (ad 11), .int (nI (f 19)), .int (nI (f 20)), .int (nI (f 21)), .ref (ad 12)])), (ad 1, .inl (ka 1, 5, .inl (nA (upN (upN (g 1) 2 m0) 3 m1)))), (ad 2, .inl (ka 2, 40, .inl (nA s1))), (ad 3, .inl (ka 3, 160, .inl (nA n1))), (ad 4, .inl (ka 4, 4, .inl (nA (g 4)))), (ad 5, .inl (ka 5, 4, .inl (nA (g 5)))), (ad 6, .inl (ka 6, 200, .inl (nA (g 6)))), (ad 7, .inl (ka 7, 12001, .inr (.inl (lA t)))), (ad 8, .inl (ka 8, 12001, .inl (nA (g 8)))), (ad 9, .inl (ka 9, 12001, .inl (nA (g 9)))), (ad 10, .inl (ka 10, 12001, .inl (nA (g 10)))), (ad 11, .inl (ka 11, 32768, .inl (nA (g 11)))), (ad 12, .inl (ka 12, 64, .inl (nA (g 12))))] H := hP
              have hD : va_D Ar [(ad 0, .inr (5, [.ref (ad 1), .ref (ad 2), .ref (ad 3), .ref (ad 4), .ref (ad 5), .int (nI (f 5)), .ref (ad 6), .int (nI (f 7)), .int (nI (f 8)), .int (nI (f 9)), .int (nI (f 10)), .int (nI (f 11)), .int (nI (f 12)), .int (nI (f 13)), .ref (ad 7), .ref (ad 8), .ref (ad 9), .ref (ad 10), .ref (ad 11), .int (nI (f 19)), .int (nI (f 20)), .int (nI (f 21)), .ref (ad 12)])), (ad 1, .inl (ka 1, 5, .inl (nA (upN (upN (g 1) 2 m0) 3 m1)))), (ad 2, .inl (ka 2, 40, .inl (nA s1))), (ad 3, .inl (ka 3, 160, .inl (nA n1))), (ad 4, .inl (ka 4, 4, .inl (nA (g 4)))), (ad 5, .inl (ka 5, 4, .inl (nA (g 5)))), (ad 6, .inl (ka 6, 200, .inl (nA (g 6)))), (ad 7, .inl (ka 7, 12001, .inr (.inl (lA t)))), (ad 8, .inl (ka 8, 12001, .inl (nA (g 8)))), (ad 9, .inl (ka 9, 12001, .inl (nA (g 9)))), (ad 10, .inl (ka 10, 12001, .inl (nA (g 10)))), (ad 11, .inl (ka 11, 32768, .inl (nA (g 11)))), (ad 12, .inl (ka 12, 64, .inl (nA (g 12))))] := hD
              refine lv_iinc (v := nI 2) (lv' := [(2, .int (nI 2)), (0, .ref (ad 0)), (1, .int (nI fe)), (3, .int (nI m1)), (4, .int (nI i1))]) hx hb dX5_lay_167 hl (k := 2) rfl (by decide) (by decide) rfl (fun ls hl => ?_)
              refine lv_goto (tgt := 2) hx hb dX5_lay_170 (by decide) ?_
              refine lv_iload_n hx hb dX5_lay_2 rfl (lv_at hl 0 rfl) ?_
              refine lv_iconst (v := nI 2) hx hb dX5_lay_3 (by decide) ?_
              refine lv_icmp_ge (tgt := 173) hx hb dX5_lay_4 (by decide) (fun c4_5 => ?_) (fun c4_5 => absurd (by decide) c4_5)
              subst hQ
              exact rwv (f, upA (upA (upA (g) 1 (upN (upN (g 1) 2 m0) 3 m1)) 2 (s1)) 3 (n1), t) hx hb hr hlocks (⟨_, _, _, rfl, lay_fin hm0 hi0 c20_2 hm1 hLP1 hi1 c20_4, fun j => ⟨bnd_u (bnd_u (hg 1 (by decide)) (by have := lay_mle hm0; omega)) (by have := lay_mle hm1; omega) j, (hbd1 j).1, (hbd1 j).2⟩⟩) hP hK hD hS dX5_lay_173
            · have c20_4 : ¬ (g 1 1 ≤ i1) := fun h9 => c20_4 ((nI_leI (a := g 1 1) (b := i1) (by omega) (by omega)).mpr h9)
              have hl7 := (hP9 1 (by decide)).1
              have hmb : m1 ≤ i1 + 1 := lay_mle hm1
              refine lv_iload_n hx hb dX5_lay_23 rfl (lv_at hl 1 rfl) ?_
              refine lv_bipush (v := nI 8) hx hb dX5_lay_24 (by decide) ?_
              refine lv_iload_n hx hb dX5_lay_26 rfl (lv_at hl 2 rfl) ?_
              refine lv_imul hx hb dX5_lay_27 ?_
              refine lv_topE (nI 8) (pk_mul _ _) ?_
              refine lv_iload hx hb dX5_lay_28 (lv_at hl 4 rfl) ?_
              refine lv_iadd hx hb dX5_lay_30 ?_
              refine lv_topE (nI (8 + i1)) (nI_add _ _) ?_
              refine lv_icmp_ne (tgt := 52) hx hb dX5_lay_31 (by decide) (fun c31_6 => ?_) (fun c31_6 => ?_)
              · have c31_6 : ¬ (fe = 8 + i1) := fun h9 => c31_6 ((nI_eqG (a := fe) (b := 8 + i1) (by omega) (by omega)).mpr h9)
                refine lv_bipush (v := nI 16) hx hb dX5_lay_52 (by decide) ?_
                refine lv_bipush (v := nI 8) hx hb dX5_lay_54 (by decide) ?_
                refine lv_iload_n hx hb dX5_lay_56 rfl (lv_at hl 2 rfl) ?_
                refine lv_imul hx hb dX5_lay_57 ?_
                refine lv_topE (nI 8) (pk_mul _ _) ?_
                refine lv_iadd hx hb dX5_lay_58 ?_
                refine lv_topE (nI 24) (nI_add _ _) ?_
                refine lv_iload_n hx hb dX5_lay_59 rfl (lv_at hl 3 rfl) ?_
                refine lv_iadd hx hb dX5_lay_60 ?_
                refine lv_topE (nI (24 + m1)) (nI_add _ _) ?_
                refine lv_istore (lv' := [(5, .int (nI (24 + m1))), (0, .ref (ad 0)), (1, .int (nI fe)), (2, .int (nI 1)), (3, .int (nI m1)), (4, .int (nI i1))]) hx hb dX5_lay_61 hl (by decide) rfl (fun ls hl => ?_)
                refine lv_aload_n hx hb dX5_lay_63 rfl (lv_at hl 1 rfl) ?_
                refine lv_bipush (v := nI 8) hx hb dX5_lay_64 (by decide) ?_
                refine lv_iload_n hx hb dX5_lay_66 rfl (lv_at hl 3 rfl) ?_
                refine lv_imul hx hb dX5_lay_67 ?_
                refine lv_topE (nI 8) (pk_mul _ _) ?_
                refine lv_iload hx hb dX5_lay_68 (lv_at hl 5 rfl) ?_
                refine lv_iadd hx hb dX5_lay_70 ?_
                refine lv_topE (nI (8 + i1)) (nI_add _ _) ?_
                refine lv_iload hx hb dX5_lay_71 (lv_at hl 0 rfl) ?_
                refine kVv (As := [.int (nI (8 + i1)), .int (nI (24 + m1))]) (rest := []) (wr := []) ⟨hx, hb, hml, hown, hts⟩ (c_X5_copyTo l D ad ka f (upA (upA (upA (g) 1 (upN (g 1) 2 m0)) 2 (s1)) 3 (n1)) t H.size (8 + i1) (24 + m1) (show (8 + i1) < 40 from by omega) (show (24 + m1) < 40 from by omega) (show (8 + i1) ≠ (24 + m1) from by omega)) (cwV 2 hts (gV mU_288 mU_289 mU_290 mU_6 mU_291) rfl rfl rfl (by decide +kernel) ⟨Nat.le_of_ble_eq_true rfl, Nat.le_of_ble_eq_true rfl⟩) (va_recv hK hP (ci := 5) (q0 := 0) rfl rfl) hP hK hD hS hA [0, 1, 2, 3, 4, 5, 6, 7, 8, 9, 10, 11, 12] [] [0, 1, 2, 3, 4, 5, 6, 7, 8, 9, 10, 11] [] rfl rfl rfl rfl (by decide) rfl rfl rfl hl.1 rfl (Nat.le_of_ble_eq_true rfl) dX5_lay_73 ⟨by decide, by decide⟩ (fun u H locs hw hP hD hK hS => ?_)
                subst hw
                have hP : va_P D vwCl [(ad 0, .inr (5, [.ref (ad 1), .ref (ad 2), .ref (ad 3), .ref (ad 4), .ref (ad 5), .int (nI (f 5)), .ref (ad 6), .int (nI (f 7)), .int (nI (f 8)), .int (nI (f 9)), .int (nI (f 10)), .int (nI (f 11)), .int (nI (f 12)), .int (nI (f 13)), .ref (ad 7), .ref (ad 8), .ref (ad 9), .ref (ad 10), .ref (ad 11), .int (nI (f 19)), .int (nI (f 20)), .int (nI (f 21)), .ref (ad 12)])), (ad 1, .inl (ka 1, 5, .inl (nA (upN (g 1) 2 m0)))), (ad 2, .inl (ka 2, 40, .inl (nA (upN s1 (24 + m1) (s1 (8 + i1)))))), (ad 3, .inl (ka 3, 160, .inl (nA (cp4 n1 (8 + i1) (24 + m1))))), (ad 4, .inl (ka 4, 4, .inl (nA (g 4)))), (ad 5, .inl (ka 5, 4, .inl (nA (g 5)))), (ad 6, .inl (ka 6, 200, .inl (nA (g 6)))), (ad 7, .inl (ka 7, 12001, .inr (.inl (lA t)))), (ad 8, .inl (ka 8, 12001, .inl (nA (g 8)))), (ad 9, .inl (ka 9, 12001, .inl (nA (g 9)))), (ad 10, .inl (ka 10, 12001, .inl (nA (g 10)))), (ad 11, .inl (ka 11, 32768, .inl (nA (g 11)))), (ad 12, .inl (ka 12, 64, .inl (nA (g 12))))] H := hP
                have hD : va_D Ar [(ad 0, .inr (5, [.ref (ad 1), .ref (ad 2), .ref (ad 3), .ref (ad 4), .ref (ad 5), .int (nI (f 5)), .ref (ad 6), .int (nI (f 7)), .int (nI (f 8)), .int (nI (f 9)), .int (nI (f 10)), .int (nI (f 11)), .int (nI (f 12)), .int (nI (f 13)), .ref (ad 7), .ref (ad 8), .ref (ad 9), .ref (ad 10), .ref (ad 11), .int (nI (f 19)), .int (nI (f 20)), .int (nI (f 21)), .ref (ad 12)])), (ad 1, .inl (ka 1, 5, .inl (nA (upN (g 1) 2 m0)))), (ad 2, .inl (ka 2, 40, .inl (nA (upN s1 (24 + m1) (s1 (8 + i1)))))), (ad 3, .inl (ka 3, 160, .inl (nA (cp4 n1 (8 + i1) (24 + m1))))), (ad 4, .inl (ka 4, 4, .inl (nA (g 4)))), (ad 5, .inl (ka 5, 4, .inl (nA (g 5)))), (ad 6, .inl (ka 6, 200, .inl (nA (g 6)))), (ad 7, .inl (ka 7, 12001, .inr (.inl (lA t)))), (ad 8, .inl (ka 8, 12001, .inl (nA (g 8)))), (ad 9, .inl (ka 9, 12001, .inl (nA (g 9)))), (ad 10, .inl (ka 10, 12001, .inl (nA (g 10)))), (ad 11, .inl (ka 11, 32768, .inl (nA (g 11)))), (ad 12, .inl (ka 12, 64, .inl (nA (g 12))))] := hD
                have hK : va_K D vwCl (mT ka) s := hK.sub [0, 1, 2, 3, 4, 5, 6, 7, 8, 9, 10, 11] rfl
                refine lv_aload_n hx hb dX5_lay_76 rfl (lv_at hl 1 rfl) ?_
                refine va_get (D := D) (ci := 5) (v := .ref (ad 3)) (C := RX5) (T := TX5) (N := 23) hx hb hU iX5 hown hK hP 0 rfl rfl 2 (by decide) (hU _ mU_77) (fun _ h9 => h9) rfl dX5_lay_77 ?_
                refine lv_iconst (v := nI 4) hx hb dX5_lay_80 (by decide) ?_
                refine lv_iload hx hb dX5_lay_81 (lv_at hl 0 rfl) ?_
                refine lv_imul hx hb dX5_lay_83 ?_
                refine lv_topE (nI (4 * (24 + m1))) (pk_mul _ _) ?_
                refine lv_iconst (v := nI 2) hx hb dX5_lay_84 (by decide) ?_
                refine lv_iadd hx hb dX5_lay_85 ?_
                refine lv_topE (nI ((4 * (24 + m1)) + 2)) (nI_add _ _) ?_
                refine n_iald hx hb hK hP 3 2 rfl rfl (i := (4 * (24 + m1)) + 2) (by omega) (by decide) dX5_lay_86 ?_
                refine lv_topE (nI (g 3 (4 * (8 + i1) + 2))) (congrArg nI ((cp4_at (by decide)).trans (hLP1.2.1 _ (by omega)))) ?_
                refine lv_istore (lv' := [(6, .int (nI (g 3 (4 * (8 + i1) + 2)))), (5, .int (nI (24 + m1))), (0, .ref (ad 0)), (1, .int (nI fe)), (2, .int (nI 1)), (3, .int (nI m1)), (4, .int (nI i1))]) hx hb dX5_lay_87 hl (by decide) rfl (fun ls hl => ?_)
                refine lv_aload_n hx hb dX5_lay_89 rfl (lv_at hl 2 rfl) ?_
                refine va_get (D := D) (ci := 5) (v := .ref (ad 2)) (C := RX5) (T := TX5) (N := 23) hx hb hU iX5 hown hK hP 0 rfl rfl 1 (by decide) (hU _ mU_76) (fun _ h9 => h9) rfl dX5_lay_90 ?_
                refine lv_iload hx hb dX5_lay_93 (lv_at hl 1 rfl) ?_
                refine n_iald hx hb hK hP 2 1 rfl rfl (i := 24 + m1) (by omega) (by decide) dX5_lay_95 ?_
                refine lv_topE (nI (g 2 (8 + i1))) (congrArg nI (by rw [upN_s]; first | exact hLP1.1 _ (by omega) | (rw [upN_n (by omega)]; exact hLP1.1 _ (by omega)))) ?_
                refine lv_bipush (v := nI 8) hx hb dX5_lay_96 (by decide) ?_
                have hnb : g 3 (4 * (8 + i1) + 2) < 2147483648 := hg 3 (by decide) _
                have hsb : g 2 (8 + i1) < 2147483648 := hg 2 (by decide) _
                refine lv_icmp_ne (tgt := 149) hx hb dX5_lay_98 (by decide) (fun c98_8 => ?_) (fun c98_8 => ?_)
                · have c98_8 : ¬ (g 2 (8 + i1) = 8) := fun h9 => c98_8 ((nI_eqG (a := g 2 (8 + i1)) (b := 8) (by omega) (by omega)).mpr h9)
                  refine lv_iinc (v := nI (m1 + 1)) (lv' := [(3, .int (nI (m1 + 1))), (6, .int (nI (g 3 (4 * (8 + i1) + 2)))), (5, .int (nI (24 + m1))), (0, .ref (ad 0)), (1, .int (nI fe)), (2, .int (nI 1)), (4, .int (nI i1))]) hx hb dX5_lay_149 hl (k := 5) rfl (by rw [show Int32.ofInt 1 = nI 1 from by decide, nI_add]) (by decide) rfl (fun ls hl => ?_)
                  refine lv_iinc (v := nI (i1 + 1)) (lv' := [(4, .int (nI (i1 + 1))), (3, .int (nI (m1 + 1))), (6, .int (nI (g 3 (4 * (8 + i1) + 2)))), (5, .int (nI (24 + m1))), (0, .ref (ad 0)), (1, .int (nI fe)), (2, .int (nI 1))]) hx hb dX5_lay_152 hl (k := 6) rfl (by rw [show Int32.ofInt 1 = nI 1 from by decide, nI_add]) (by decide) rfl (fun ls hl => ?_)
                  refine lv_goto (tgt := 12) hx hb dX5_lay_155 (by decide) ?_
                  exact ihh1 (i1 + 1) (m1 + 1) (upN s1 (24 + m1) (s1 (8 + i1))) (cp4 n1 (8 + i1) (24 + m1)) (by omega) (lay_mB hm1 c31_6) (lay_copy0 (h := 1) (by decide) (by omega) h7 (lay_mB2 hm1 c31_6) hLP1 (lay_x0 (Or.inl c98_8))) (fun j => ⟨bnd_s (fun j => (hbd1 j).1) j, (bnd_c (fun j => (hbd1 j).2)) j⟩) (by omega) _ _ hP hD hS _ (lv_sub hl [4, 5, 6, 1, 0] rfl)
                · have c98_8 : g 2 (8 + i1) = 8 := (nI_eqG (a := g 2 (8 + i1)) (b := 8) (by omega) (by omega)).mp c98_8
                  refine lv_iload_n hx hb dX5_lay_101 rfl (lv_at hl 3 rfl) ?_
                  refine lv_bipush (v := nI 8) hx hb dX5_lay_102 (by decide) ?_
                  refine lv_iload_n hx hb dX5_lay_104 rfl (lv_at hl 4 rfl) ?_
                  refine lv_imul hx hb dX5_lay_105 ?_
                  refine lv_topE (nI 8) (pk_mul _ _) ?_
                  refine lv_iload hx hb dX5_lay_106 (lv_at hl 6 rfl) ?_
                  refine lv_iadd hx hb dX5_lay_108 ?_
                  refine lv_topE (nI (8 + i1)) (nI_add _ _) ?_
                  refine lv_icmp_le (tgt := 149) hx hb dX5_lay_109 (by decide) (fun c109_9 => ?_) (fun c109_9 => ?_)
                  · have c109_9 : (fe ≤ 8 + i1 ∧ (2147483648 ≤ fe ∨ 8 + i1 < 2147483648)) ∨ (2147483648 ≤ fe ∧ 8 + i1 < 2147483648) := (nI_leG (a := fe) (b := 8 + i1) (by omega) (by omega)).mp c109_9
                    refine lv_iinc (v := nI (m1 + 1)) (lv' := [(3, .int (nI (m1 + 1))), (6, .int (nI (g 3 (4 * (8 + i1) + 2)))), (5, .int (nI (24 + m1))), (0, .ref (ad 0)), (1, .int (nI fe)), (2, .int (nI 1)), (4, .int (nI i1))]) hx hb dX5_lay_149 hl (k := 5) rfl (by rw [show Int32.ofInt 1 = nI 1 from by decide, nI_add]) (by decide) rfl (fun ls hl => ?_)
                    refine lv_iinc (v := nI (i1 + 1)) (lv' := [(4, .int (nI (i1 + 1))), (3, .int (nI (m1 + 1))), (6, .int (nI (g 3 (4 * (8 + i1) + 2)))), (5, .int (nI (24 + m1))), (0, .ref (ad 0)), (1, .int (nI fe)), (2, .int (nI 1))]) hx hb dX5_lay_152 hl (k := 6) rfl (by rw [show Int32.ofInt 1 = nI 1 from by decide, nI_add]) (by decide) rfl (fun ls hl => ?_)
                    refine lv_goto (tgt := 12) hx hb dX5_lay_155 (by decide) ?_
                    exact ihh1 (i1 + 1) (m1 + 1) (upN s1 (24 + m1) (s1 (8 + i1))) (cp4 n1 (8 + i1) (24 + m1)) (by omega) (lay_mB hm1 c31_6) (lay_copy0 (h := 1) (by decide) (by omega) h7 (lay_mB2 hm1 c31_6) hLP1 (lay_xs (by omega) (by decide))) (fun j => ⟨bnd_s (fun j => (hbd1 j).1) j, (bnd_c (fun j => (hbd1 j).2)) j⟩) (by omega) _ _ hP hD hS _ (lv_sub hl [4, 5, 6, 1, 0] rfl)
                  · have c109_9 : ¬ ((fe ≤ 8 + i1 ∧ (2147483648 ≤ fe ∨ 8 + i1 < 2147483648)) ∨ (2147483648 ≤ fe ∧ 8 + i1 < 2147483648)) := fun h9 => c109_9 ((nI_leG (a := fe) (b := 8 + i1) (by omega) (by omega)).mpr h9)
                    have hn7 : g 3 (4 * (8 + i1) + 2) ≤ 7 := ((hP9 1 (by decide)).2 i1 (by omega)).2 c98_8
                    refine lv_iload_n hx hb dX5_lay_112 rfl (lv_at hl 3 rfl) ?_
                    refine lv_bipush (v := nI 8) hx hb dX5_lay_113 (by decide) ?_
                    refine lv_iload_n hx hb dX5_lay_115 rfl (lv_at hl 4 rfl) ?_
                    refine lv_imul hx hb dX5_lay_116 ?_
                    refine lv_topE (nI 8) (pk_mul _ _) ?_
                    refine lv_iload hx hb dX5_lay_117 (lv_at hl 6 rfl) ?_
                    refine lv_iadd hx hb dX5_lay_119 ?_
                    refine lv_topE (nI (8 + i1)) (nI_add _ _) ?_
                    refine lv_iload hx hb dX5_lay_120 (lv_at hl 0 rfl) ?_
                    refine lv_iadd hx hb dX5_lay_122 ?_
                    refine lv_topE (nI ((8 + i1) + (g 3 (4 * (8 + i1) + 2)))) (nI_add _ _) ?_
                    refine lv_icmp_gt (tgt := 149) hx hb dX5_lay_123 (by decide) (fun c123_10 => ?_) (fun c123_10 => ?_)
                    · have c123_10 : ((8 + i1) + (g 3 (4 * (8 + i1) + 2)) < fe ∧ (2147483648 ≤ (8 + i1) + (g 3 (4 * (8 + i1) + 2)) ∨ fe < 2147483648)) ∨ (2147483648 ≤ (8 + i1) + (g 3 (4 * (8 + i1) + 2)) ∧ fe < 2147483648) := (nI_ltG (a := (8 + i1) + (g 3 (4 * (8 + i1) + 2))) (b := fe) (by omega) (by omega)).mp c123_10
                      refine lv_iinc (v := nI (m1 + 1)) (lv' := [(3, .int (nI (m1 + 1))), (6, .int (nI (g 3 (4 * (8 + i1) + 2)))), (5, .int (nI (24 + m1))), (0, .ref (ad 0)), (1, .int (nI fe)), (2, .int (nI 1)), (4, .int (nI i1))]) hx hb dX5_lay_149 hl (k := 5) rfl (by rw [show Int32.ofInt 1 = nI 1 from by decide, nI_add]) (by decide) rfl (fun ls hl => ?_)
                      refine lv_iinc (v := nI (i1 + 1)) (lv' := [(4, .int (nI (i1 + 1))), (3, .int (nI (m1 + 1))), (6, .int (nI (g 3 (4 * (8 + i1) + 2)))), (5, .int (nI (24 + m1))), (0, .ref (ad 0)), (1, .int (nI fe)), (2, .int (nI 1))]) hx hb dX5_lay_152 hl (k := 6) rfl (by rw [show Int32.ofInt 1 = nI 1 from by decide, nI_add]) (by decide) rfl (fun ls hl => ?_)
                      refine lv_goto (tgt := 12) hx hb dX5_lay_155 (by decide) ?_
                      exact ihh1 (i1 + 1) (m1 + 1) (upN s1 (24 + m1) (s1 (8 + i1))) (cp4 n1 (8 + i1) (24 + m1)) (by omega) (lay_mB hm1 c31_6) (lay_copy0 (h := 1) (by decide) (by omega) h7 (lay_mB2 hm1 c31_6) hLP1 (lay_x0 (Or.inr (Or.inr (Or.inl (show ¬ fe ≤ 8 + i1 + g 3 (4 * (8 + i1) + 2) from by omega)))))) (fun j => ⟨bnd_s (fun j => (hbd1 j).1) j, (bnd_c (fun j => (hbd1 j).2)) j⟩) (by omega) _ _ hP hD hS _ (lv_sub hl [4, 5, 6, 1, 0] rfl)
                    · have c123_10 : ¬ (((8 + i1) + (g 3 (4 * (8 + i1) + 2)) < fe ∧ (2147483648 ≤ (8 + i1) + (g 3 (4 * (8 + i1) + 2)) ∨ fe < 2147483648)) ∨ (2147483648 ≤ (8 + i1) + (g 3 (4 * (8 + i1) + 2)) ∧ fe < 2147483648)) := fun h9 => c123_10 ((nI_ltG (a := (8 + i1) + (g 3 (4 * (8 + i1) + 2))) (b := fe) (by omega) (by omega)).mpr h9)
                      refine lv_iload_n hx hb dX5_lay_126 rfl (lv_at hl 3 rfl) ?_
                      refine lv_bipush (v := nI 8) hx hb dX5_lay_127 (by decide) ?_
                      refine lv_idiv hx hb dX5_lay_129 (nI_ne0 (by omega) (by omega)) ?_
                      refine lv_topE (nI (fe / 8)) (pk_div (by omega) (by omega) (by omega)) ?_
                      refine lv_iload_n hx hb dX5_lay_130 rfl (lv_at hl 4 rfl) ?_
                      refine lv_icmp_ne (tgt := 149) hx hb dX5_lay_131 (by decide) (fun c131_11 => ?_) (fun c131_11 => ?_)
                      · have c131_11 : ¬ (fe / 8 = 1) := fun h9 => c131_11 ((nI_eqG (a := fe / 8) (b := 1) (by omega) (by omega)).mpr h9)
                        refine lv_iinc (v := nI (m1 + 1)) (lv' := [(3, .int (nI (m1 + 1))), (6, .int (nI (g 3 (4 * (8 + i1) + 2)))), (5, .int (nI (24 + m1))), (0, .ref (ad 0)), (1, .int (nI fe)), (2, .int (nI 1)), (4, .int (nI i1))]) hx hb dX5_lay_149 hl (k := 5) rfl (by rw [show Int32.ofInt 1 = nI 1 from by decide, nI_add]) (by decide) rfl (fun ls hl => ?_)
                        refine lv_iinc (v := nI (i1 + 1)) (lv' := [(4, .int (nI (i1 + 1))), (3, .int (nI (m1 + 1))), (6, .int (nI (g 3 (4 * (8 + i1) + 2)))), (5, .int (nI (24 + m1))), (0, .ref (ad 0)), (1, .int (nI fe)), (2, .int (nI 1))]) hx hb dX5_lay_152 hl (k := 6) rfl (by rw [show Int32.ofInt 1 = nI 1 from by decide, nI_add]) (by decide) rfl (fun ls hl => ?_)
                        refine lv_goto (tgt := 12) hx hb dX5_lay_155 (by decide) ?_
                        exact ihh1 (i1 + 1) (m1 + 1) (upN s1 (24 + m1) (s1 (8 + i1))) (cp4 n1 (8 + i1) (24 + m1)) (by omega) (lay_mB hm1 c31_6) (lay_copy0 (h := 1) (by decide) (by omega) h7 (lay_mB2 hm1 c31_6) hLP1 (lay_x0 (Or.inr (Or.inr (Or.inr c131_11))))) (fun j => ⟨bnd_s (fun j => (hbd1 j).1) j, (bnd_c (fun j => (hbd1 j).2)) j⟩) (by omega) _ _ hP hD hS _ (lv_sub hl [4, 5, 6, 1, 0] rfl)
                      · have c131_11 : fe / 8 = 1 := (nI_eqG (a := fe / 8) (b := 1) (by omega) (by omega)).mp c131_11
                        refine lv_aload_n hx hb dX5_lay_134 rfl (lv_at hl 2 rfl) ?_
                        refine va_get (D := D) (ci := 5) (v := .ref (ad 3)) (C := RX5) (T := TX5) (N := 23) hx hb hU iX5 hown hK hP 0 rfl rfl 2 (by decide) (hU _ mU_77) (fun _ h9 => h9) rfl dX5_lay_135 ?_
                        refine lv_iconst (v := nI 4) hx hb dX5_lay_138 (by decide) ?_
                        refine lv_iload hx hb dX5_lay_139 (lv_at hl 1 rfl) ?_
                        refine lv_imul hx hb dX5_lay_141 ?_
                        refine lv_topE (nI (4 * (24 + m1))) (pk_mul _ _) ?_
                        refine lv_iconst (v := nI 2) hx hb dX5_lay_142 (by decide) ?_
                        refine lv_iadd hx hb dX5_lay_143 ?_
                        refine lv_topE (nI ((4 * (24 + m1)) + 2)) (nI_add _ _) ?_
                        refine lv_iload hx hb dX5_lay_144 (lv_at hl 0 rfl) ?_
                        refine lv_iconst (v := nI 1) hx hb dX5_lay_146 (by decide) ?_
                        refine lv_iadd hx hb dX5_lay_147 ?_
                        refine lv_topE (nI ((g 3 (4 * (8 + i1) + 2)) + 1)) (nI_add _ _) ?_
                        refine n_iast hx hb hK hP hD hS 3 2 rfl rfl (i := (4 * (24 + m1)) + 2) (v := (g 3 (4 * (8 + i1) + 2)) + 1) (by omega) (by decide) dX5_lay_148 (fun H locs hP hD hS => ?_)
                        have hP : va_P D vwCl [(ad 0, .inr (5, [.ref (ad 1), .ref (ad 2), .ref (ad 3), .ref (ad 4), .ref (ad 5), .int (nI (f 5)), .ref (ad 6), .int (nI (f 7)), .int (nI (f 8)), .int (nI (f 9)), .int (nI (f 10)), .int (nI (f 11)), .int (nI (f 12)), .int (nI (f 13)), .ref (ad 7), .ref (ad 8), .ref (ad 9), .ref (ad 10), .ref (ad 11), .int (nI (f 19)), .int (nI (f 20)), .int (nI (f 21)), .ref (ad 12)])), (ad 1, .inl (ka 1, 5, .inl (nA (upN (g 1) 2 m0)))), (ad 2, .inl (ka 2, 40, .inl (nA (upN s1 (24 + m1) (s1 (8 + i1)))))), (ad 3, .inl (ka 3, 160, .inl (nA (upN (cp4 n1 (8 + i1) (24 + m1)) ((4 * (24 + m1)) + 2) ((g 3 (4 * (8 + i1) + 2)) + 1))))), (ad 4, .inl (ka 4, 4, .inl (nA (g 4)))), (ad 5, .inl (ka 5, 4, .inl (nA (g 5)))), (ad 6, .inl (ka 6, 200, .inl (nA (g 6)))), (ad 7, .inl (ka 7, 12001, .inr (.inl (lA t)))), (ad 8, .inl (ka 8, 12001, .inl (nA (g 8)))), (ad 9, .inl (ka 9, 12001, .inl (nA (g 9)))), (ad 10, .inl (ka 10, 12001, .inl (nA (g 10)))), (ad 11, .inl (ka 11, 32768, .inl (nA (g 11)))), (ad 12, .inl (ka 12, 64, .inl (nA (g 12))))] H := hP
                        have hD : va_D Ar [(ad 0, .inr (5, [.ref (ad 1), .ref (ad 2), .ref (ad 3), .ref (ad 4), .ref (ad 5), .int (nI (f 5)), .ref (ad 6), .int (nI (f 7)), .int (nI (f 8)), .int (nI (f 9)), .int (nI (f 10)), .int (nI (f 11)), .int (nI (f 12)), .int (nI (f 13)), .ref (ad 7), .ref (ad 8), .ref (ad 9), .ref (ad 10), .ref (ad 11), .int (nI (f 19)), .int (nI (f 20)), .int (nI (f 21)), .ref (ad 12)])), (ad 1, .inl (ka 1, 5, .inl (nA (upN (g 1) 2 m0)))), (ad 2, .inl (ka 2, 40, .inl (nA (upN s1 (24 + m1) (s1 (8 + i1)))))), (ad 3, .inl (ka 3, 160, .inl (nA (upN (cp4 n1 (8 + i1) (24 + m1)) ((4 * (24 + m1)) + 2) ((g 3 (4 * (8 + i1) + 2)) + 1))))), (ad 4, .inl (ka 4, 4, .inl (nA (g 4)))), (ad 5, .inl (ka 5, 4, .inl (nA (g 5)))), (ad 6, .inl (ka 6, 200, .inl (nA (g 6)))), (ad 7, .inl (ka 7, 12001, .inr (.inl (lA t)))), (ad 8, .inl (ka 8, 12001, .inl (nA (g 8)))), (ad 9, .inl (ka 9, 12001, .inl (nA (g 9)))), (ad 10, .inl (ka 10, 12001, .inl (nA (g 10)))), (ad 11, .inl (ka 11, 32768, .inl (nA (g 11)))), (ad 12, .inl (ka 12, 64, .inl (nA (g 12))))] := hD
                        refine lv_iinc (v := nI (m1 + 1)) (lv' := [(3, .int (nI (m1 + 1))), (6, .int (nI (g 3 (4 * (8 + i1) + 2)))), (5, .int (nI (24 + m1))), (0, .ref (ad 0)), (1, .int (nI fe)), (2, .int (nI 1)), (4, .int (nI i1))]) hx hb dX5_lay_149 hl (k := 5) rfl (by rw [show Int32.ofInt 1 = nI 1 from by decide, nI_add]) (by decide) rfl (fun ls hl => ?_)
                        refine lv_iinc (v := nI (i1 + 1)) (lv' := [(4, .int (nI (i1 + 1))), (3, .int (nI (m1 + 1))), (6, .int (nI (g 3 (4 * (8 + i1) + 2)))), (5, .int (nI (24 + m1))), (0, .ref (ad 0)), (1, .int (nI fe)), (2, .int (nI 1))]) hx hb dX5_lay_152 hl (k := 6) rfl (by rw [show Int32.ofInt 1 = nI 1 from by decide, nI_add]) (by decide) rfl (fun ls hl => ?_)
                        refine lv_goto (tgt := 12) hx hb dX5_lay_155 (by decide) ?_
                        exact ihh1 (i1 + 1) (m1 + 1) (upN s1 (24 + m1) (s1 (8 + i1))) (upN (cp4 n1 (8 + i1) (24 + m1)) ((4 * (24 + m1)) + 2) ((g 3 (4 * (8 + i1) + 2)) + 1)) (by omega) (lay_mB hm1 c31_6) (lay_copy1 (h := 1) (by decide) (by omega) h7 (lay_mB2 hm1 c31_6) hLP1 (lay_x1 c98_8 (by omega) (show fe ≤ 8 + i1 + g 3 (4 * (8 + i1) + 2) from by omega) c131_11 (by decide) hfe)) (fun j => ⟨bnd_s (fun j => (hbd1 j).1) j, (bnd_u (bnd_c (fun j => (hbd1 j).2)) (by omega)) j⟩) (by omega) _ _ hP hD hS _ (lv_sub hl [4, 5, 6, 1, 0] rfl)
              · have c31_6 : fe = 8 + i1 := (nI_eqG (a := fe) (b := 8 + i1) (by omega) (by omega)).mp c31_6
                have em : m1 = i1 := (lay_mA (h := 1) hm1 c31_6 (by omega) (by omega)).1
                have hLPf : LayP g fe 1 (m1 + 1) (upN s1 (24 + m1) 4) n1 := by
                  have q := hLP1
                  rw [em] at q ⊢
                  exact lay_fence (h := 1) (by decide) (by omega) h7 (by omega) q
                have hmf : m1 + 1 = if fIn g fe 1 ∧ fe % 8 ≤ i1 then i1 + 1 else i1 := by
                  rw [em]
                  exact lay_mA2 (h := 1) c31_6 (by omega) (by omega)
                refine lv_aload_n hx hb dX5_lay_34 rfl (lv_at hl 0 rfl) ?_
                refine va_get (D := D) (ci := 5) (v := .ref (ad 2)) (C := RX5) (T := TX5) (N := 23) hx hb hU iX5 hown hK hP 0 rfl rfl 1 (by decide) (hU _ mU_76) (fun _ h9 => h9) rfl dX5_lay_35 ?_
                refine lv_bipush (v := nI 16) hx hb dX5_lay_38 (by decide) ?_
                refine lv_bipush (v := nI 8) hx hb dX5_lay_40 (by decide) ?_
                refine lv_iload_n hx hb dX5_lay_42 rfl (lv_at hl 2 rfl) ?_
                refine lv_imul hx hb dX5_lay_43 ?_
                refine lv_topE (nI 8) (pk_mul _ _) ?_
                refine lv_iadd hx hb dX5_lay_44 ?_
                refine lv_topE (nI 24) (nI_add _ _) ?_
                refine lv_iload_n hx hb dX5_lay_45 rfl (lv_at hl 3 rfl) ?_
                refine lv_iadd hx hb dX5_lay_46 ?_
                refine lv_topE (nI (24 + m1)) (nI_add _ _) ?_
                refine lv_iconst (v := nI 4) hx hb dX5_lay_47 (by decide) ?_
                refine n_iast hx hb hK hP hD hS 2 1 rfl rfl (i := 24 + m1) (v := 4) (by omega) (by decide) dX5_lay_48 (fun H locs hP hD hS => ?_)
                have hP : va_P D vwCl [(ad 0, .inr (5, [.ref (ad 1), .ref (ad 2), .ref (ad 3), .ref (ad 4), .ref (ad 5), .int (nI (f 5)), .ref (ad 6), .int (nI (f 7)), .int (nI (f 8)), .int (nI (f 9)), .int (nI (f 10)), .int (nI (f 11)), .int (nI (f 12)), .int (nI (f 13)), .ref (ad 7), .ref (ad 8), .ref (ad 9), .ref (ad 10), .ref (ad 11), .int (nI (f 19)), .int (nI (f 20)), .int (nI (f 21)), .ref (ad 12)])), (ad 1, .inl (ka 1, 5, .inl (nA (upN (g 1) 2 m0)))), (ad 2, .inl (ka 2, 40, .inl (nA (upN s1 (24 + m1) 4)))), (ad 3, .inl (ka 3, 160, .inl (nA n1))), (ad 4, .inl (ka 4, 4, .inl (nA (g 4)))), (ad 5, .inl (ka 5, 4, .inl (nA (g 5)))), (ad 6, .inl (ka 6, 200, .inl (nA (g 6)))), (ad 7, .inl (ka 7, 12001, .inr (.inl (lA t)))), (ad 8, .inl (ka 8, 12001, .inl (nA (g 8)))), (ad 9, .inl (ka 9, 12001, .inl (nA (g 9)))), (ad 10, .inl (ka 10, 12001, .inl (nA (g 10)))), (ad 11, .inl (ka 11, 32768, .inl (nA (g 11)))), (ad 12, .inl (ka 12, 64, .inl (nA (g 12))))] H := hP
                have hD : va_D Ar [(ad 0, .inr (5, [.ref (ad 1), .ref (ad 2), .ref (ad 3), .ref (ad 4), .ref (ad 5), .int (nI (f 5)), .ref (ad 6), .int (nI (f 7)), .int (nI (f 8)), .int (nI (f 9)), .int (nI (f 10)), .int (nI (f 11)), .int (nI (f 12)), .int (nI (f 13)), .ref (ad 7), .ref (ad 8), .ref (ad 9), .ref (ad 10), .ref (ad 11), .int (nI (f 19)), .int (nI (f 20)), .int (nI (f 21)), .ref (ad 12)])), (ad 1, .inl (ka 1, 5, .inl (nA (upN (g 1) 2 m0)))), (ad 2, .inl (ka 2, 40, .inl (nA (upN s1 (24 + m1) 4)))), (ad 3, .inl (ka 3, 160, .inl (nA n1))), (ad 4, .inl (ka 4, 4, .inl (nA (g 4)))), (ad 5, .inl (ka 5, 4, .inl (nA (g 5)))), (ad 6, .inl (ka 6, 200, .inl (nA (g 6)))), (ad 7, .inl (ka 7, 12001, .inr (.inl (lA t)))), (ad 8, .inl (ka 8, 12001, .inl (nA (g 8)))), (ad 9, .inl (ka 9, 12001, .inl (nA (g 9)))), (ad 10, .inl (ka 10, 12001, .inl (nA (g 10)))), (ad 11, .inl (ka 11, 32768, .inl (nA (g 11)))), (ad 12, .inl (ka 12, 64, .inl (nA (g 12))))] := hD
                refine lv_iinc (v := nI (m1 + 1)) (lv' := [(3, .int (nI (m1 + 1))), (0, .ref (ad 0)), (1, .int (nI fe)), (2, .int (nI 1)), (4, .int (nI i1))]) hx hb dX5_lay_49 hl (k := 3) rfl (by rw [show Int32.ofInt 1 = nI 1 from by decide, nI_add]) (by decide) rfl (fun ls hl => ?_)
                refine lv_bipush (v := nI 16) hx hb dX5_lay_52 (by decide) ?_
                refine lv_bipush (v := nI 8) hx hb dX5_lay_54 (by decide) ?_
                refine lv_iload_n hx hb dX5_lay_56 rfl (lv_at hl 3 rfl) ?_
                refine lv_imul hx hb dX5_lay_57 ?_
                refine lv_topE (nI 8) (pk_mul _ _) ?_
                refine lv_iadd hx hb dX5_lay_58 ?_
                refine lv_topE (nI 24) (nI_add _ _) ?_
                refine lv_iload_n hx hb dX5_lay_59 rfl (lv_at hl 0 rfl) ?_
                refine lv_iadd hx hb dX5_lay_60 ?_
                refine lv_topE (nI (24 + (m1 + 1))) (nI_add _ _) ?_
                refine lv_istore (lv' := [(5, .int (nI (24 + (m1 + 1)))), (3, .int (nI (m1 + 1))), (0, .ref (ad 0)), (1, .int (nI fe)), (2, .int (nI 1)), (4, .int (nI i1))]) hx hb dX5_lay_61 hl (by decide) rfl (fun ls hl => ?_)
                refine lv_aload_n hx hb dX5_lay_63 rfl (lv_at hl 2 rfl) ?_
                refine lv_bipush (v := nI 8) hx hb dX5_lay_64 (by decide) ?_
                refine lv_iload_n hx hb dX5_lay_66 rfl (lv_at hl 4 rfl) ?_
                refine lv_imul hx hb dX5_lay_67 ?_
                refine lv_topE (nI 8) (pk_mul _ _) ?_
                refine lv_iload hx hb dX5_lay_68 (lv_at hl 5 rfl) ?_
                refine lv_iadd hx hb dX5_lay_70 ?_
                refine lv_topE (nI (8 + i1)) (nI_add _ _) ?_
                refine lv_iload hx hb dX5_lay_71 (lv_at hl 0 rfl) ?_
                refine kVv (As := [.int (nI (8 + i1)), .int (nI (24 + (m1 + 1)))]) (rest := []) (wr := []) ⟨hx, hb, hml, hown, hts⟩ (c_X5_copyTo l D ad ka f (upA (upA (upA (g) 1 (upN (g 1) 2 m0)) 2 (upN s1 (24 + m1) 4)) 3 (n1)) t H.size (8 + i1) (24 + (m1 + 1)) (show (8 + i1) < 40 from by omega) (show (24 + (m1 + 1)) < 40 from by omega) (show (8 + i1) ≠ (24 + (m1 + 1)) from by omega)) (cwV 2 hts (gV mU_288 mU_289 mU_290 mU_6 mU_291) rfl rfl rfl (by decide +kernel) ⟨Nat.le_of_ble_eq_true rfl, Nat.le_of_ble_eq_true rfl⟩) (va_recv hK hP (ci := 5) (q0 := 0) rfl rfl) hP hK hD hS hA [0, 1, 2, 3, 4, 5, 6, 7, 8, 9, 10, 11, 12] [] [0, 1, 2, 3, 4, 5, 6, 7, 8, 9, 10, 11] [] rfl rfl rfl rfl (by decide) rfl rfl rfl hl.1 rfl (Nat.le_of_ble_eq_true rfl) dX5_lay_73 ⟨by decide, by decide⟩ (fun u H locs hw hP hD hK hS => ?_)
                subst hw
                have hP : va_P D vwCl [(ad 0, .inr (5, [.ref (ad 1), .ref (ad 2), .ref (ad 3), .ref (ad 4), .ref (ad 5), .int (nI (f 5)), .ref (ad 6), .int (nI (f 7)), .int (nI (f 8)), .int (nI (f 9)), .int (nI (f 10)), .int (nI (f 11)), .int (nI (f 12)), .int (nI (f 13)), .ref (ad 7), .ref (ad 8), .ref (ad 9), .ref (ad 10), .ref (ad 11), .int (nI (f 19)), .int (nI (f 20)), .int (nI (f 21)), .ref (ad 12)])), (ad 1, .inl (ka 1, 5, .inl (nA (upN (g 1) 2 m0)))), (ad 2, .inl (ka 2, 40, .inl (nA (upN (upN s1 (24 + m1) 4) (24 + (m1 + 1)) ((upN s1 (24 + m1) 4) (8 + i1)))))), (ad 3, .inl (ka 3, 160, .inl (nA (cp4 n1 (8 + i1) (24 + (m1 + 1)))))), (ad 4, .inl (ka 4, 4, .inl (nA (g 4)))), (ad 5, .inl (ka 5, 4, .inl (nA (g 5)))), (ad 6, .inl (ka 6, 200, .inl (nA (g 6)))), (ad 7, .inl (ka 7, 12001, .inr (.inl (lA t)))), (ad 8, .inl (ka 8, 12001, .inl (nA (g 8)))), (ad 9, .inl (ka 9, 12001, .inl (nA (g 9)))), (ad 10, .inl (ka 10, 12001, .inl (nA (g 10)))), (ad 11, .inl (ka 11, 32768, .inl (nA (g 11)))), (ad 12, .inl (ka 12, 64, .inl (nA (g 12))))] H := hP
                have hD : va_D Ar [(ad 0, .inr (5, [.ref (ad 1), .ref (ad 2), .ref (ad 3), .ref (ad 4), .ref (ad 5), .int (nI (f 5)), .ref (ad 6), .int (nI (f 7)), .int (nI (f 8)), .int (nI (f 9)), .int (nI (f 10)), .int (nI (f 11)), .int (nI (f 12)), .int (nI (f 13)), .ref (ad 7), .ref (ad 8), .ref (ad 9), .ref (ad 10), .ref (ad 11), .int (nI (f 19)), .int (nI (f 20)), .int (nI (f 21)), .ref (ad 12)])), (ad 1, .inl (ka 1, 5, .inl (nA (upN (g 1) 2 m0)))), (ad 2, .inl (ka 2, 40, .inl (nA (upN (upN s1 (24 + m1) 4) (24 + (m1 + 1)) ((upN s1 (24 + m1) 4) (8 + i1)))))), (ad 3, .inl (ka 3, 160, .inl (nA (cp4 n1 (8 + i1) (24 + (m1 + 1)))))), (ad 4, .inl (ka 4, 4, .inl (nA (g 4)))), (ad 5, .inl (ka 5, 4, .inl (nA (g 5)))), (ad 6, .inl (ka 6, 200, .inl (nA (g 6)))), (ad 7, .inl (ka 7, 12001, .inr (.inl (lA t)))), (ad 8, .inl (ka 8, 12001, .inl (nA (g 8)))), (ad 9, .inl (ka 9, 12001, .inl (nA (g 9)))), (ad 10, .inl (ka 10, 12001, .inl (nA (g 10)))), (ad 11, .inl (ka 11, 32768, .inl (nA (g 11)))), (ad 12, .inl (ka 12, 64, .inl (nA (g 12))))] := hD
                have hK : va_K D vwCl (mT ka) s := hK.sub [0, 1, 2, 3, 4, 5, 6, 7, 8, 9, 10, 11] rfl
                refine lv_aload_n hx hb dX5_lay_76 rfl (lv_at hl 2 rfl) ?_
                refine va_get (D := D) (ci := 5) (v := .ref (ad 3)) (C := RX5) (T := TX5) (N := 23) hx hb hU iX5 hown hK hP 0 rfl rfl 2 (by decide) (hU _ mU_77) (fun _ h9 => h9) rfl dX5_lay_77 ?_
                refine lv_iconst (v := nI 4) hx hb dX5_lay_80 (by decide) ?_
                refine lv_iload hx hb dX5_lay_81 (lv_at hl 0 rfl) ?_
                refine lv_imul hx hb dX5_lay_83 ?_
                refine lv_topE (nI (4 * (24 + (m1 + 1)))) (pk_mul _ _) ?_
                refine lv_iconst (v := nI 2) hx hb dX5_lay_84 (by decide) ?_
                refine lv_iadd hx hb dX5_lay_85 ?_
                refine lv_topE (nI ((4 * (24 + (m1 + 1))) + 2)) (nI_add _ _) ?_
                refine n_iald hx hb hK hP 3 2 rfl rfl (i := (4 * (24 + (m1 + 1))) + 2) (by omega) (by decide) dX5_lay_86 ?_
                refine lv_topE (nI (g 3 (4 * (8 + i1) + 2))) (congrArg nI ((cp4_at (by decide)).trans (hLP1.2.1 _ (by omega)))) ?_
                refine lv_istore (lv' := [(6, .int (nI (g 3 (4 * (8 + i1) + 2)))), (5, .int (nI (24 + (m1 + 1)))), (3, .int (nI (m1 + 1))), (0, .ref (ad 0)), (1, .int (nI fe)), (2, .int (nI 1)), (4, .int (nI i1))]) hx hb dX5_lay_87 hl (by decide) rfl (fun ls hl => ?_)
                refine lv_aload_n hx hb dX5_lay_89 rfl (lv_at hl 3 rfl) ?_
                refine va_get (D := D) (ci := 5) (v := .ref (ad 2)) (C := RX5) (T := TX5) (N := 23) hx hb hU iX5 hown hK hP 0 rfl rfl 1 (by decide) (hU _ mU_76) (fun _ h9 => h9) rfl dX5_lay_90 ?_
                refine lv_iload hx hb dX5_lay_93 (lv_at hl 1 rfl) ?_
                refine n_iald hx hb hK hP 2 1 rfl rfl (i := 24 + (m1 + 1)) (by omega) (by decide) dX5_lay_95 ?_
                refine lv_topE (nI (g 2 (8 + i1))) (congrArg nI (by rw [upN_s]; first | exact hLP1.1 _ (by omega) | (rw [upN_n (by omega)]; exact hLP1.1 _ (by omega)))) ?_
                refine lv_bipush (v := nI 8) hx hb dX5_lay_96 (by decide) ?_
                have hnb : g 3 (4 * (8 + i1) + 2) < 2147483648 := hg 3 (by decide) _
                have hsb : g 2 (8 + i1) < 2147483648 := hg 2 (by decide) _
                refine lv_icmp_ne (tgt := 149) hx hb dX5_lay_98 (by decide) (fun c98_13 => ?_) (fun c98_13 => ?_)
                · have c98_13 : ¬ (g 2 (8 + i1) = 8) := fun h9 => c98_13 ((nI_eqG (a := g 2 (8 + i1)) (b := 8) (by omega) (by omega)).mpr h9)
                  refine lv_iinc (v := nI (m1 + 2)) (lv' := [(3, .int (nI (m1 + 2))), (6, .int (nI (g 3 (4 * (8 + i1) + 2)))), (5, .int (nI (24 + (m1 + 1)))), (0, .ref (ad 0)), (1, .int (nI fe)), (2, .int (nI 1)), (4, .int (nI i1))]) hx hb dX5_lay_149 hl (k := 2) rfl (by rw [show Int32.ofInt 1 = nI 1 from by decide, nI_add]) (by decide) rfl (fun ls hl => ?_)
                  refine lv_iinc (v := nI (i1 + 1)) (lv' := [(4, .int (nI (i1 + 1))), (3, .int (nI (m1 + 2))), (6, .int (nI (g 3 (4 * (8 + i1) + 2)))), (5, .int (nI (24 + (m1 + 1)))), (0, .ref (ad 0)), (1, .int (nI fe)), (2, .int (nI 1))]) hx hb dX5_lay_152 hl (k := 6) rfl (by rw [show Int32.ofInt 1 = nI 1 from by decide, nI_add]) (by decide) rfl (fun ls hl => ?_)
                  refine lv_goto (tgt := 12) hx hb dX5_lay_155 (by decide) ?_
                  exact ihh1 (i1 + 1) (m1 + 2) (upN (upN s1 (24 + m1) 4) (24 + (m1 + 1)) ((upN s1 (24 + m1) 4) (8 + i1))) (cp4 n1 (8 + i1) (24 + (m1 + 1))) (by omega) ((lay_mA hm1 c31_6 (by omega) (by omega)).2) (lay_copy0 (h := 1) (by decide) (by omega) h7 hmf hLPf (lay_x0 (Or.inl c98_13))) (fun j => ⟨bnd_s (bnd_u (fun j => (hbd1 j).1) (by decide)) j, (bnd_c (fun j => (hbd1 j).2)) j⟩) (by omega) _ _ hP hD hS _ (lv_sub hl [4, 5, 6, 1, 0] rfl)
                · have c98_13 : g 2 (8 + i1) = 8 := (nI_eqG (a := g 2 (8 + i1)) (b := 8) (by omega) (by omega)).mp c98_13
                  refine lv_iload_n hx hb dX5_lay_101 rfl (lv_at hl 4 rfl) ?_
                  refine lv_bipush (v := nI 8) hx hb dX5_lay_102 (by decide) ?_
                  refine lv_iload_n hx hb dX5_lay_104 rfl (lv_at hl 5 rfl) ?_
                  refine lv_imul hx hb dX5_lay_105 ?_
                  refine lv_topE (nI 8) (pk_mul _ _) ?_
                  refine lv_iload hx hb dX5_lay_106 (lv_at hl 6 rfl) ?_
                  refine lv_iadd hx hb dX5_lay_108 ?_
                  refine lv_topE (nI (8 + i1)) (nI_add _ _) ?_
                  refine lv_icmp_le (tgt := 149) hx hb dX5_lay_109 (by decide) (fun c109_14 => ?_) (fun c109_14 => ?_)
                  · have c109_14 : (fe ≤ 8 + i1 ∧ (2147483648 ≤ fe ∨ 8 + i1 < 2147483648)) ∨ (2147483648 ≤ fe ∧ 8 + i1 < 2147483648) := (nI_leG (a := fe) (b := 8 + i1) (by omega) (by omega)).mp c109_14
                    refine lv_iinc (v := nI (m1 + 2)) (lv' := [(3, .int (nI (m1 + 2))), (6, .int (nI (g 3 (4 * (8 + i1) + 2)))), (5, .int (nI (24 + (m1 + 1)))), (0, .ref (ad 0)), (1, .int (nI fe)), (2, .int (nI 1)), (4, .int (nI i1))]) hx hb dX5_lay_149 hl (k := 2) rfl (by rw [show Int32.ofInt 1 = nI 1 from by decide, nI_add]) (by decide) rfl (fun ls hl => ?_)
                    refine lv_iinc (v := nI (i1 + 1)) (lv' := [(4, .int (nI (i1 + 1))), (3, .int (nI (m1 + 2))), (6, .int (nI (g 3 (4 * (8 + i1) + 2)))), (5, .int (nI (24 + (m1 + 1)))), (0, .ref (ad 0)), (1, .int (nI fe)), (2, .int (nI 1))]) hx hb dX5_lay_152 hl (k := 6) rfl (by rw [show Int32.ofInt 1 = nI 1 from by decide, nI_add]) (by decide) rfl (fun ls hl => ?_)
                    refine lv_goto (tgt := 12) hx hb dX5_lay_155 (by decide) ?_
                    exact ihh1 (i1 + 1) (m1 + 2) (upN (upN s1 (24 + m1) 4) (24 + (m1 + 1)) ((upN s1 (24 + m1) 4) (8 + i1))) (cp4 n1 (8 + i1) (24 + (m1 + 1))) (by omega) ((lay_mA hm1 c31_6 (by omega) (by omega)).2) (lay_copy0 (h := 1) (by decide) (by omega) h7 hmf hLPf (lay_xs (by omega) (by decide))) (fun j => ⟨bnd_s (bnd_u (fun j => (hbd1 j).1) (by decide)) j, (bnd_c (fun j => (hbd1 j).2)) j⟩) (by omega) _ _ hP hD hS _ (lv_sub hl [4, 5, 6, 1, 0] rfl)
                  · have c109_14 : ¬ ((fe ≤ 8 + i1 ∧ (2147483648 ≤ fe ∨ 8 + i1 < 2147483648)) ∨ (2147483648 ≤ fe ∧ 8 + i1 < 2147483648)) := fun h9 => c109_14 ((nI_leG (a := fe) (b := 8 + i1) (by omega) (by omega)).mpr h9)
                    have hn7 : g 3 (4 * (8 + i1) + 2) ≤ 7 := ((hP9 1 (by decide)).2 i1 (by omega)).2 c98_13
                    refine lv_iload_n hx hb dX5_lay_112 rfl (lv_at hl 4 rfl) ?_
                    refine lv_bipush (v := nI 8) hx hb dX5_lay_113 (by decide) ?_
                    refine lv_iload_n hx hb dX5_lay_115 rfl (lv_at hl 5 rfl) ?_
                    refine lv_imul hx hb dX5_lay_116 ?_
                    refine lv_topE (nI 8) (pk_mul _ _) ?_
                    refine lv_iload hx hb dX5_lay_117 (lv_at hl 6 rfl) ?_
                    refine lv_iadd hx hb dX5_lay_119 ?_
                    refine lv_topE (nI (8 + i1)) (nI_add _ _) ?_
                    refine lv_iload hx hb dX5_lay_120 (lv_at hl 0 rfl) ?_
                    refine lv_iadd hx hb dX5_lay_122 ?_
                    refine lv_topE (nI ((8 + i1) + (g 3 (4 * (8 + i1) + 2)))) (nI_add _ _) ?_
                    refine lv_icmp_gt (tgt := 149) hx hb dX5_lay_123 (by decide) (fun c123_15 => ?_) (fun c123_15 => ?_)
                    · have c123_15 : ((8 + i1) + (g 3 (4 * (8 + i1) + 2)) < fe ∧ (2147483648 ≤ (8 + i1) + (g 3 (4 * (8 + i1) + 2)) ∨ fe < 2147483648)) ∨ (2147483648 ≤ (8 + i1) + (g 3 (4 * (8 + i1) + 2)) ∧ fe < 2147483648) := (nI_ltG (a := (8 + i1) + (g 3 (4 * (8 + i1) + 2))) (b := fe) (by omega) (by omega)).mp c123_15
                      refine lv_iinc (v := nI (m1 + 2)) (lv' := [(3, .int (nI (m1 + 2))), (6, .int (nI (g 3 (4 * (8 + i1) + 2)))), (5, .int (nI (24 + (m1 + 1)))), (0, .ref (ad 0)), (1, .int (nI fe)), (2, .int (nI 1)), (4, .int (nI i1))]) hx hb dX5_lay_149 hl (k := 2) rfl (by rw [show Int32.ofInt 1 = nI 1 from by decide, nI_add]) (by decide) rfl (fun ls hl => ?_)
                      refine lv_iinc (v := nI (i1 + 1)) (lv' := [(4, .int (nI (i1 + 1))), (3, .int (nI (m1 + 2))), (6, .int (nI (g 3 (4 * (8 + i1) + 2)))), (5, .int (nI (24 + (m1 + 1)))), (0, .ref (ad 0)), (1, .int (nI fe)), (2, .int (nI 1))]) hx hb dX5_lay_152 hl (k := 6) rfl (by rw [show Int32.ofInt 1 = nI 1 from by decide, nI_add]) (by decide) rfl (fun ls hl => ?_)
                      refine lv_goto (tgt := 12) hx hb dX5_lay_155 (by decide) ?_
                      exact ihh1 (i1 + 1) (m1 + 2) (upN (upN s1 (24 + m1) 4) (24 + (m1 + 1)) ((upN s1 (24 + m1) 4) (8 + i1))) (cp4 n1 (8 + i1) (24 + (m1 + 1))) (by omega) ((lay_mA hm1 c31_6 (by omega) (by omega)).2) (lay_copy0 (h := 1) (by decide) (by omega) h7 hmf hLPf (lay_x0 (Or.inr (Or.inr (Or.inl (show ¬ fe ≤ 8 + i1 + g 3 (4 * (8 + i1) + 2) from by omega)))))) (fun j => ⟨bnd_s (bnd_u (fun j => (hbd1 j).1) (by decide)) j, (bnd_c (fun j => (hbd1 j).2)) j⟩) (by omega) _ _ hP hD hS _ (lv_sub hl [4, 5, 6, 1, 0] rfl)
                    · have c123_15 : ¬ (((8 + i1) + (g 3 (4 * (8 + i1) + 2)) < fe ∧ (2147483648 ≤ (8 + i1) + (g 3 (4 * (8 + i1) + 2)) ∨ fe < 2147483648)) ∨ (2147483648 ≤ (8 + i1) + (g 3 (4 * (8 + i1) + 2)) ∧ fe < 2147483648)) := fun h9 => c123_15 ((nI_ltG (a := (8 + i1) + (g 3 (4 * (8 + i1) + 2))) (b := fe) (by omega) (by omega)).mpr h9)
                      refine lv_iload_n hx hb dX5_lay_126 rfl (lv_at hl 4 rfl) ?_
                      refine lv_bipush (v := nI 8) hx hb dX5_lay_127 (by decide) ?_
                      refine lv_idiv hx hb dX5_lay_129 (nI_ne0 (by omega) (by omega)) ?_
                      refine lv_topE (nI (fe / 8)) (pk_div (by omega) (by omega) (by omega)) ?_
                      refine lv_iload_n hx hb dX5_lay_130 rfl (lv_at hl 5 rfl) ?_
                      refine lv_icmp_ne (tgt := 149) hx hb dX5_lay_131 (by decide) (fun c131_16 => ?_) (fun c131_16 => ?_)
                      · have c131_16 : ¬ (fe / 8 = 1) := fun h9 => c131_16 ((nI_eqG (a := fe / 8) (b := 1) (by omega) (by omega)).mpr h9)
                        refine lv_iinc (v := nI (m1 + 2)) (lv' := [(3, .int (nI (m1 + 2))), (6, .int (nI (g 3 (4 * (8 + i1) + 2)))), (5, .int (nI (24 + (m1 + 1)))), (0, .ref (ad 0)), (1, .int (nI fe)), (2, .int (nI 1)), (4, .int (nI i1))]) hx hb dX5_lay_149 hl (k := 2) rfl (by rw [show Int32.ofInt 1 = nI 1 from by decide, nI_add]) (by decide) rfl (fun ls hl => ?_)
                        refine lv_iinc (v := nI (i1 + 1)) (lv' := [(4, .int (nI (i1 + 1))), (3, .int (nI (m1 + 2))), (6, .int (nI (g 3 (4 * (8 + i1) + 2)))), (5, .int (nI (24 + (m1 + 1)))), (0, .ref (ad 0)), (1, .int (nI fe)), (2, .int (nI 1))]) hx hb dX5_lay_152 hl (k := 6) rfl (by rw [show Int32.ofInt 1 = nI 1 from by decide, nI_add]) (by decide) rfl (fun ls hl => ?_)
                        refine lv_goto (tgt := 12) hx hb dX5_lay_155 (by decide) ?_
                        exact ihh1 (i1 + 1) (m1 + 2) (upN (upN s1 (24 + m1) 4) (24 + (m1 + 1)) ((upN s1 (24 + m1) 4) (8 + i1))) (cp4 n1 (8 + i1) (24 + (m1 + 1))) (by omega) ((lay_mA hm1 c31_6 (by omega) (by omega)).2) (lay_copy0 (h := 1) (by decide) (by omega) h7 hmf hLPf (lay_x0 (Or.inr (Or.inr (Or.inr c131_16))))) (fun j => ⟨bnd_s (bnd_u (fun j => (hbd1 j).1) (by decide)) j, (bnd_c (fun j => (hbd1 j).2)) j⟩) (by omega) _ _ hP hD hS _ (lv_sub hl [4, 5, 6, 1, 0] rfl)
                      · have c131_16 : fe / 8 = 1 := (nI_eqG (a := fe / 8) (b := 1) (by omega) (by omega)).mp c131_16
                        refine lv_aload_n hx hb dX5_lay_134 rfl (lv_at hl 3 rfl) ?_
                        refine va_get (D := D) (ci := 5) (v := .ref (ad 3)) (C := RX5) (T := TX5) (N := 23) hx hb hU iX5 hown hK hP 0 rfl rfl 2 (by decide) (hU _ mU_77) (fun _ h9 => h9) rfl dX5_lay_135 ?_
                        refine lv_iconst (v := nI 4) hx hb dX5_lay_138 (by decide) ?_
                        refine lv_iload hx hb dX5_lay_139 (lv_at hl 1 rfl) ?_
                        refine lv_imul hx hb dX5_lay_141 ?_
                        refine lv_topE (nI (4 * (24 + (m1 + 1)))) (pk_mul _ _) ?_
                        refine lv_iconst (v := nI 2) hx hb dX5_lay_142 (by decide) ?_
                        refine lv_iadd hx hb dX5_lay_143 ?_
                        refine lv_topE (nI ((4 * (24 + (m1 + 1))) + 2)) (nI_add _ _) ?_
                        refine lv_iload hx hb dX5_lay_144 (lv_at hl 0 rfl) ?_
                        refine lv_iconst (v := nI 1) hx hb dX5_lay_146 (by decide) ?_
                        refine lv_iadd hx hb dX5_lay_147 ?_
                        refine lv_topE (nI ((g 3 (4 * (8 + i1) + 2)) + 1)) (nI_add _ _) ?_
                        refine n_iast hx hb hK hP hD hS 3 2 rfl rfl (i := (4 * (24 + (m1 + 1))) + 2) (v := (g 3 (4 * (8 + i1) + 2)) + 1) (by omega) (by decide) dX5_lay_148 (fun H locs hP hD hS => ?_)
                        have hP : va_P D vwCl [(ad 0, .inr (5, [.ref (ad 1), .ref (ad 2), .ref (ad 3), .ref (ad 4), .ref (ad 5), .int (nI (f 5)), .ref (ad 6), .int (nI (f 7)), .int (nI (f 8)), .int (nI (f 9)), .int (nI (f 10)), .int (nI (f 11)), .int (nI (f 12)), .int (nI (f 13)), .ref (ad 7), .ref (ad 8), .ref (ad 9), .ref (ad 10), .ref (ad 11), .int (nI (f 19)), .int (nI (f 20)), .int (nI (f 21)), .ref (ad 12)])), (ad 1, .inl (ka 1, 5, .inl (nA (upN (g 1) 2 m0)))), (ad 2, .inl (ka 2, 40, .inl (nA (upN (upN s1 (24 + m1) 4) (24 + (m1 + 1)) ((upN s1 (24 + m1) 4) (8 + i1)))))), (ad 3, .inl (ka 3, 160, .inl (nA (upN (cp4 n1 (8 + i1) (24 + (m1 + 1))) ((4 * (24 + (m1 + 1))) + 2) ((g 3 (4 * (8 + i1) + 2)) + 1))))), (ad 4, .inl (ka 4, 4, .inl (nA (g 4)))), (ad 5, .inl (ka 5, 4, .inl (nA (g 5)))), (ad 6, .inl (ka 6, 200, .inl (nA (g 6)))), (ad 7, .inl (ka 7, 12001, .inr (.inl (lA t)))), (ad 8, .inl (ka 8, 12001, .inl (nA (g 8)))), (ad 9, .inl (ka 9, 12001, .inl (nA (g 9)))), (ad 10, .inl (ka 10, 12001, .inl (nA (g 10)))), (ad 11, .inl (ka 11, 32768, .inl (nA (g 11)))), (ad 12, .inl (ka 12, 64, .inl (nA (g 12))))] H := hP
                        have hD : va_D Ar [(ad 0, .inr (5, [.ref (ad 1), .ref (ad 2), .ref (ad 3), .ref (ad 4), .ref (ad 5), .int (nI (f 5)), .ref (ad 6), .int (nI (f 7)), .int (nI (f 8)), .int (nI (f 9)), .int (nI (f 10)), .int (nI (f 11)), .int (nI (f 12)), .int (nI (f 13)), .ref (ad 7), .ref (ad 8), .ref (ad 9), .ref (ad 10), .ref (ad 11), .int (nI (f 19)), .int (nI (f 20)), .int (nI (f 21)), .ref (ad 12)])), (ad 1, .inl (ka 1, 5, .inl (nA (upN (g 1) 2 m0)))), (ad 2, .inl (ka 2, 40, .inl (nA (upN (upN s1 (24 + m1) 4) (24 + (m1 + 1)) ((upN s1 (24 + m1) 4) (8 + i1)))))), (ad 3, .inl (ka 3, 160, .inl (nA (upN (cp4 n1 (8 + i1) (24 + (m1 + 1))) ((4 * (24 + (m1 + 1))) + 2) ((g 3 (4 * (8 + i1) + 2)) + 1))))), (ad 4, .inl (ka 4, 4, .inl (nA (g 4)))), (ad 5, .inl (ka 5, 4, .inl (nA (g 5)))), (ad 6, .inl (ka 6, 200, .inl (nA (g 6)))), (ad 7, .inl (ka 7, 12001, .inr (.inl (lA t)))), (ad 8, .inl (ka 8, 12001, .inl (nA (g 8)))), (ad 9, .inl (ka 9, 12001, .inl (nA (g 9)))), (ad 10, .inl (ka 10, 12001, .inl (nA (g 10)))), (ad 11, .inl (ka 11, 32768, .inl (nA (g 11)))), (ad 12, .inl (ka 12, 64, .inl (nA (g 12))))] := hD
                        refine lv_iinc (v := nI (m1 + 2)) (lv' := [(3, .int (nI (m1 + 2))), (6, .int (nI (g 3 (4 * (8 + i1) + 2)))), (5, .int (nI (24 + (m1 + 1)))), (0, .ref (ad 0)), (1, .int (nI fe)), (2, .int (nI 1)), (4, .int (nI i1))]) hx hb dX5_lay_149 hl (k := 2) rfl (by rw [show Int32.ofInt 1 = nI 1 from by decide, nI_add]) (by decide) rfl (fun ls hl => ?_)
                        refine lv_iinc (v := nI (i1 + 1)) (lv' := [(4, .int (nI (i1 + 1))), (3, .int (nI (m1 + 2))), (6, .int (nI (g 3 (4 * (8 + i1) + 2)))), (5, .int (nI (24 + (m1 + 1)))), (0, .ref (ad 0)), (1, .int (nI fe)), (2, .int (nI 1))]) hx hb dX5_lay_152 hl (k := 6) rfl (by rw [show Int32.ofInt 1 = nI 1 from by decide, nI_add]) (by decide) rfl (fun ls hl => ?_)
                        refine lv_goto (tgt := 12) hx hb dX5_lay_155 (by decide) ?_
                        exact ihh1 (i1 + 1) (m1 + 2) (upN (upN s1 (24 + m1) 4) (24 + (m1 + 1)) ((upN s1 (24 + m1) 4) (8 + i1))) (upN (cp4 n1 (8 + i1) (24 + (m1 + 1))) ((4 * (24 + (m1 + 1))) + 2) ((g 3 (4 * (8 + i1) + 2)) + 1)) (by omega) ((lay_mA hm1 c31_6 (by omega) (by omega)).2) (lay_copy1 (h := 1) (by decide) (by omega) h7 hmf hLPf (lay_x1 c98_13 (by omega) (show fe ≤ 8 + i1 + g 3 (4 * (8 + i1) + 2) from by omega) c131_16 (by decide) hfe)) (fun j => ⟨bnd_s (bnd_u (fun j => (hbd1 j).1) (by decide)) j, (bnd_u (bnd_c (fun j => (hbd1 j).2)) (by omega)) j⟩) (by omega) _ _ hP hD hS _ (lv_sub hl [4, 5, 6, 1, 0] rfl)
        exact Lh1_65 ((g 1 1 - 0) + 1) 0 0 s0 n0 (Nat.zero_le _) ((if_neg (fun q => absurd q.2 (Nat.not_lt_zero _))).symm) (lay_next (lay_end hm0 hLP0 hi0 c20_2)) (hbd0) (Nat.lt_succ_self _) _ _ hP hD hS _ (lv_sub hl [3, 4, 2, 1, 0] rfl)
      · have c20_2 : ¬ (g 1 0 ≤ i0) := fun h9 => c20_2 ((nI_leI (a := g 1 0) (b := i0) (by omega) (by omega)).mpr h9)
        have hl7 := (hP9 0 (by decide)).1
        have hmb : m0 ≤ i0 + 1 := lay_mle hm0
        refine lv_iload_n hx hb dX5_lay_23 rfl (lv_at hl 1 rfl) ?_
        refine lv_bipush (v := nI 8) hx hb dX5_lay_24 (by decide) ?_
        refine lv_iload_n hx hb dX5_lay_26 rfl (lv_at hl 2 rfl) ?_
        refine lv_imul hx hb dX5_lay_27 ?_
        refine lv_topE (nI 0) (pk_mul _ _) ?_
        refine lv_iload hx hb dX5_lay_28 (lv_at hl 4 rfl) ?_
        refine lv_iadd hx hb dX5_lay_30 ?_
        refine lv_topE (nI (0 + i0)) (nI_add _ _) ?_
        refine lv_icmp_ne (tgt := 52) hx hb dX5_lay_31 (by decide) (fun c31_17 => ?_) (fun c31_17 => ?_)
        · have c31_17 : ¬ (fe = 0 + i0) := fun h9 => c31_17 ((nI_eqG (a := fe) (b := 0 + i0) (by omega) (by omega)).mpr h9)
          refine lv_bipush (v := nI 16) hx hb dX5_lay_52 (by decide) ?_
          refine lv_bipush (v := nI 8) hx hb dX5_lay_54 (by decide) ?_
          refine lv_iload_n hx hb dX5_lay_56 rfl (lv_at hl 2 rfl) ?_
          refine lv_imul hx hb dX5_lay_57 ?_
          refine lv_topE (nI 0) (pk_mul _ _) ?_
          refine lv_iadd hx hb dX5_lay_58 ?_
          refine lv_topE (nI 16) (nI_add _ _) ?_
          refine lv_iload_n hx hb dX5_lay_59 rfl (lv_at hl 3 rfl) ?_
          refine lv_iadd hx hb dX5_lay_60 ?_
          refine lv_topE (nI (16 + m0)) (nI_add _ _) ?_
          refine lv_istore (lv' := [(5, .int (nI (16 + m0))), (0, .ref (ad 0)), (1, .int (nI fe)), (2, .int (nI 0)), (3, .int (nI m0)), (4, .int (nI i0))]) hx hb dX5_lay_61 hl (by decide) rfl (fun ls hl => ?_)
          refine lv_aload_n hx hb dX5_lay_63 rfl (lv_at hl 1 rfl) ?_
          refine lv_bipush (v := nI 8) hx hb dX5_lay_64 (by decide) ?_
          refine lv_iload_n hx hb dX5_lay_66 rfl (lv_at hl 3 rfl) ?_
          refine lv_imul hx hb dX5_lay_67 ?_
          refine lv_topE (nI 0) (pk_mul _ _) ?_
          refine lv_iload hx hb dX5_lay_68 (lv_at hl 5 rfl) ?_
          refine lv_iadd hx hb dX5_lay_70 ?_
          refine lv_topE (nI (0 + i0)) (nI_add _ _) ?_
          refine lv_iload hx hb dX5_lay_71 (lv_at hl 0 rfl) ?_
          refine kVv (As := [.int (nI (0 + i0)), .int (nI (16 + m0))]) (rest := []) (wr := []) ⟨hx, hb, hml, hown, hts⟩ (c_X5_copyTo l D ad ka f (upA (upA (g) 2 (s0)) 3 (n0)) t H.size (0 + i0) (16 + m0) (show (0 + i0) < 40 from by omega) (show (16 + m0) < 40 from by omega) (show (0 + i0) ≠ (16 + m0) from by omega)) (cwV 2 hts (gV mU_288 mU_289 mU_290 mU_6 mU_291) rfl rfl rfl (by decide +kernel) ⟨Nat.le_of_ble_eq_true rfl, Nat.le_of_ble_eq_true rfl⟩) (va_recv hK hP (ci := 5) (q0 := 0) rfl rfl) hP hK hD hS hA [0, 1, 2, 3, 4, 5, 6, 7, 8, 9, 10, 11, 12] [] [0, 1, 2, 3, 4, 5, 6, 7, 8, 9, 10, 11] [] rfl rfl rfl rfl (by decide) rfl rfl rfl hl.1 rfl (Nat.le_of_ble_eq_true rfl) dX5_lay_73 ⟨by decide, by decide⟩ (fun u H locs hw hP hD hK hS => ?_)
          subst hw
          have hP : va_P D vwCl [(ad 0, .inr (5, [.ref (ad 1), .ref (ad 2), .ref (ad 3), .ref (ad 4), .ref (ad 5), .int (nI (f 5)), .ref (ad 6), .int (nI (f 7)), .int (nI (f 8)), .int (nI (f 9)), .int (nI (f 10)), .int (nI (f 11)), .int (nI (f 12)), .int (nI (f 13)), .ref (ad 7), .ref (ad 8), .ref (ad 9), .ref (ad 10), .ref (ad 11), .int (nI (f 19)), .int (nI (f 20)), .int (nI (f 21)), .ref (ad 12)])), (ad 1, .inl (ka 1, 5, .inl (nA (g 1)))), (ad 2, .inl (ka 2, 40, .inl (nA (upN s0 (16 + m0) (s0 (0 + i0)))))), (ad 3, .inl (ka 3, 160, .inl (nA (cp4 n0 (0 + i0) (16 + m0))))), (ad 4, .inl (ka 4, 4, .inl (nA (g 4)))), (ad 5, .inl (ka 5, 4, .inl (nA (g 5)))), (ad 6, .inl (ka 6, 200, .inl (nA (g 6)))), (ad 7, .inl (ka 7, 12001, .inr (.inl (lA t)))), (ad 8, .inl (ka 8, 12001, .inl (nA (g 8)))), (ad 9, .inl (ka 9, 12001, .inl (nA (g 9)))), (ad 10, .inl (ka 10, 12001, .inl (nA (g 10)))), (ad 11, .inl (ka 11, 32768, .inl (nA (g 11)))), (ad 12, .inl (ka 12, 64, .inl (nA (g 12))))] H := hP
          have hD : va_D Ar [(ad 0, .inr (5, [.ref (ad 1), .ref (ad 2), .ref (ad 3), .ref (ad 4), .ref (ad 5), .int (nI (f 5)), .ref (ad 6), .int (nI (f 7)), .int (nI (f 8)), .int (nI (f 9)), .int (nI (f 10)), .int (nI (f 11)), .int (nI (f 12)), .int (nI (f 13)), .ref (ad 7), .ref (ad 8), .ref (ad 9), .ref (ad 10), .ref (ad 11), .int (nI (f 19)), .int (nI (f 20)), .int (nI (f 21)), .ref (ad 12)])), (ad 1, .inl (ka 1, 5, .inl (nA (g 1)))), (ad 2, .inl (ka 2, 40, .inl (nA (upN s0 (16 + m0) (s0 (0 + i0)))))), (ad 3, .inl (ka 3, 160, .inl (nA (cp4 n0 (0 + i0) (16 + m0))))), (ad 4, .inl (ka 4, 4, .inl (nA (g 4)))), (ad 5, .inl (ka 5, 4, .inl (nA (g 5)))), (ad 6, .inl (ka 6, 200, .inl (nA (g 6)))), (ad 7, .inl (ka 7, 12001, .inr (.inl (lA t)))), (ad 8, .inl (ka 8, 12001, .inl (nA (g 8)))), (ad 9, .inl (ka 9, 12001, .inl (nA (g 9)))), (ad 10, .inl (ka 10, 12001, .inl (nA (g 10)))), (ad 11, .inl (ka 11, 32768, .inl (nA (g 11)))), (ad 12, .inl (ka 12, 64, .inl (nA (g 12))))] := hD
          have hK : va_K D vwCl (mT ka) s := hK.sub [0, 1, 2, 3, 4, 5, 6, 7, 8, 9, 10, 11] rfl
          refine lv_aload_n hx hb dX5_lay_76 rfl (lv_at hl 1 rfl) ?_
          refine va_get (D := D) (ci := 5) (v := .ref (ad 3)) (C := RX5) (T := TX5) (N := 23) hx hb hU iX5 hown hK hP 0 rfl rfl 2 (by decide) (hU _ mU_77) (fun _ h9 => h9) rfl dX5_lay_77 ?_
          refine lv_iconst (v := nI 4) hx hb dX5_lay_80 (by decide) ?_
          refine lv_iload hx hb dX5_lay_81 (lv_at hl 0 rfl) ?_
          refine lv_imul hx hb dX5_lay_83 ?_
          refine lv_topE (nI (4 * (16 + m0))) (pk_mul _ _) ?_
          refine lv_iconst (v := nI 2) hx hb dX5_lay_84 (by decide) ?_
          refine lv_iadd hx hb dX5_lay_85 ?_
          refine lv_topE (nI ((4 * (16 + m0)) + 2)) (nI_add _ _) ?_
          refine n_iald hx hb hK hP 3 2 rfl rfl (i := (4 * (16 + m0)) + 2) (by omega) (by decide) dX5_lay_86 ?_
          refine lv_topE (nI (g 3 (4 * (0 + i0) + 2))) (congrArg nI ((cp4_at (by decide)).trans (hLP0.2.1 _ (by omega)))) ?_
          refine lv_istore (lv' := [(6, .int (nI (g 3 (4 * (0 + i0) + 2)))), (5, .int (nI (16 + m0))), (0, .ref (ad 0)), (1, .int (nI fe)), (2, .int (nI 0)), (3, .int (nI m0)), (4, .int (nI i0))]) hx hb dX5_lay_87 hl (by decide) rfl (fun ls hl => ?_)
          refine lv_aload_n hx hb dX5_lay_89 rfl (lv_at hl 2 rfl) ?_
          refine va_get (D := D) (ci := 5) (v := .ref (ad 2)) (C := RX5) (T := TX5) (N := 23) hx hb hU iX5 hown hK hP 0 rfl rfl 1 (by decide) (hU _ mU_76) (fun _ h9 => h9) rfl dX5_lay_90 ?_
          refine lv_iload hx hb dX5_lay_93 (lv_at hl 1 rfl) ?_
          refine n_iald hx hb hK hP 2 1 rfl rfl (i := 16 + m0) (by omega) (by decide) dX5_lay_95 ?_
          refine lv_topE (nI (g 2 (0 + i0))) (congrArg nI (by rw [upN_s]; first | exact hLP0.1 _ (by omega) | (rw [upN_n (by omega)]; exact hLP0.1 _ (by omega)))) ?_
          refine lv_bipush (v := nI 8) hx hb dX5_lay_96 (by decide) ?_
          have hnb : g 3 (4 * (0 + i0) + 2) < 2147483648 := hg 3 (by decide) _
          have hsb : g 2 (0 + i0) < 2147483648 := hg 2 (by decide) _
          refine lv_icmp_ne (tgt := 149) hx hb dX5_lay_98 (by decide) (fun c98_19 => ?_) (fun c98_19 => ?_)
          · have c98_19 : ¬ (g 2 (0 + i0) = 8) := fun h9 => c98_19 ((nI_eqG (a := g 2 (0 + i0)) (b := 8) (by omega) (by omega)).mpr h9)
            refine lv_iinc (v := nI (m0 + 1)) (lv' := [(3, .int (nI (m0 + 1))), (6, .int (nI (g 3 (4 * (0 + i0) + 2)))), (5, .int (nI (16 + m0))), (0, .ref (ad 0)), (1, .int (nI fe)), (2, .int (nI 0)), (4, .int (nI i0))]) hx hb dX5_lay_149 hl (k := 5) rfl (by rw [show Int32.ofInt 1 = nI 1 from by decide, nI_add]) (by decide) rfl (fun ls hl => ?_)
            refine lv_iinc (v := nI (i0 + 1)) (lv' := [(4, .int (nI (i0 + 1))), (3, .int (nI (m0 + 1))), (6, .int (nI (g 3 (4 * (0 + i0) + 2)))), (5, .int (nI (16 + m0))), (0, .ref (ad 0)), (1, .int (nI fe)), (2, .int (nI 0))]) hx hb dX5_lay_152 hl (k := 6) rfl (by rw [show Int32.ofInt 1 = nI 1 from by decide, nI_add]) (by decide) rfl (fun ls hl => ?_)
            refine lv_goto (tgt := 12) hx hb dX5_lay_155 (by decide) ?_
            exact ihh0 (i0 + 1) (m0 + 1) (upN s0 (16 + m0) (s0 (0 + i0))) (cp4 n0 (0 + i0) (16 + m0)) (by omega) (lay_mB hm0 c31_17) (lay_copy0 (h := 0) (by decide) (by omega) h7 (lay_mB2 hm0 c31_17) hLP0 (lay_x0 (Or.inl c98_19))) (fun j => ⟨bnd_s (fun j => (hbd0 j).1) j, (bnd_c (fun j => (hbd0 j).2)) j⟩) (by omega) _ _ hP hD hS _ (lv_sub hl [4, 5, 6, 1, 0] rfl)
          · have c98_19 : g 2 (0 + i0) = 8 := (nI_eqG (a := g 2 (0 + i0)) (b := 8) (by omega) (by omega)).mp c98_19
            refine lv_iload_n hx hb dX5_lay_101 rfl (lv_at hl 3 rfl) ?_
            refine lv_bipush (v := nI 8) hx hb dX5_lay_102 (by decide) ?_
            refine lv_iload_n hx hb dX5_lay_104 rfl (lv_at hl 4 rfl) ?_
            refine lv_imul hx hb dX5_lay_105 ?_
            refine lv_topE (nI 0) (pk_mul _ _) ?_
            refine lv_iload hx hb dX5_lay_106 (lv_at hl 6 rfl) ?_
            refine lv_iadd hx hb dX5_lay_108 ?_
            refine lv_topE (nI (0 + i0)) (nI_add _ _) ?_
            refine lv_icmp_le (tgt := 149) hx hb dX5_lay_109 (by decide) (fun c109_20 => ?_) (fun c109_20 => ?_)
            · have c109_20 : (fe ≤ 0 + i0 ∧ (2147483648 ≤ fe ∨ 0 + i0 < 2147483648)) ∨ (2147483648 ≤ fe ∧ 0 + i0 < 2147483648) := (nI_leG (a := fe) (b := 0 + i0) (by omega) (by omega)).mp c109_20
              refine lv_iinc (v := nI (m0 + 1)) (lv' := [(3, .int (nI (m0 + 1))), (6, .int (nI (g 3 (4 * (0 + i0) + 2)))), (5, .int (nI (16 + m0))), (0, .ref (ad 0)), (1, .int (nI fe)), (2, .int (nI 0)), (4, .int (nI i0))]) hx hb dX5_lay_149 hl (k := 5) rfl (by rw [show Int32.ofInt 1 = nI 1 from by decide, nI_add]) (by decide) rfl (fun ls hl => ?_)
              refine lv_iinc (v := nI (i0 + 1)) (lv' := [(4, .int (nI (i0 + 1))), (3, .int (nI (m0 + 1))), (6, .int (nI (g 3 (4 * (0 + i0) + 2)))), (5, .int (nI (16 + m0))), (0, .ref (ad 0)), (1, .int (nI fe)), (2, .int (nI 0))]) hx hb dX5_lay_152 hl (k := 6) rfl (by rw [show Int32.ofInt 1 = nI 1 from by decide, nI_add]) (by decide) rfl (fun ls hl => ?_)
              refine lv_goto (tgt := 12) hx hb dX5_lay_155 (by decide) ?_
              exact ihh0 (i0 + 1) (m0 + 1) (upN s0 (16 + m0) (s0 (0 + i0))) (cp4 n0 (0 + i0) (16 + m0)) (by omega) (lay_mB hm0 c31_17) (lay_copy0 (h := 0) (by decide) (by omega) h7 (lay_mB2 hm0 c31_17) hLP0 (lay_xs (by omega) (by decide))) (fun j => ⟨bnd_s (fun j => (hbd0 j).1) j, (bnd_c (fun j => (hbd0 j).2)) j⟩) (by omega) _ _ hP hD hS _ (lv_sub hl [4, 5, 6, 1, 0] rfl)
            · have c109_20 : ¬ ((fe ≤ 0 + i0 ∧ (2147483648 ≤ fe ∨ 0 + i0 < 2147483648)) ∨ (2147483648 ≤ fe ∧ 0 + i0 < 2147483648)) := fun h9 => c109_20 ((nI_leG (a := fe) (b := 0 + i0) (by omega) (by omega)).mpr h9)
              have hn7 : g 3 (4 * (0 + i0) + 2) ≤ 7 := ((hP9 0 (by decide)).2 i0 (by omega)).2 c98_19
              refine lv_iload_n hx hb dX5_lay_112 rfl (lv_at hl 3 rfl) ?_
              refine lv_bipush (v := nI 8) hx hb dX5_lay_113 (by decide) ?_
              refine lv_iload_n hx hb dX5_lay_115 rfl (lv_at hl 4 rfl) ?_
              refine lv_imul hx hb dX5_lay_116 ?_
              refine lv_topE (nI 0) (pk_mul _ _) ?_
              refine lv_iload hx hb dX5_lay_117 (lv_at hl 6 rfl) ?_
              refine lv_iadd hx hb dX5_lay_119 ?_
              refine lv_topE (nI (0 + i0)) (nI_add _ _) ?_
              refine lv_iload hx hb dX5_lay_120 (lv_at hl 0 rfl) ?_
              refine lv_iadd hx hb dX5_lay_122 ?_
              refine lv_topE (nI ((0 + i0) + (g 3 (4 * (0 + i0) + 2)))) (nI_add _ _) ?_
              refine lv_icmp_gt (tgt := 149) hx hb dX5_lay_123 (by decide) (fun c123_21 => ?_) (fun c123_21 => ?_)
              · have c123_21 : ((0 + i0) + (g 3 (4 * (0 + i0) + 2)) < fe ∧ (2147483648 ≤ (0 + i0) + (g 3 (4 * (0 + i0) + 2)) ∨ fe < 2147483648)) ∨ (2147483648 ≤ (0 + i0) + (g 3 (4 * (0 + i0) + 2)) ∧ fe < 2147483648) := (nI_ltG (a := (0 + i0) + (g 3 (4 * (0 + i0) + 2))) (b := fe) (by omega) (by omega)).mp c123_21
                refine lv_iinc (v := nI (m0 + 1)) (lv' := [(3, .int (nI (m0 + 1))), (6, .int (nI (g 3 (4 * (0 + i0) + 2)))), (5, .int (nI (16 + m0))), (0, .ref (ad 0)), (1, .int (nI fe)), (2, .int (nI 0)), (4, .int (nI i0))]) hx hb dX5_lay_149 hl (k := 5) rfl (by rw [show Int32.ofInt 1 = nI 1 from by decide, nI_add]) (by decide) rfl (fun ls hl => ?_)
                refine lv_iinc (v := nI (i0 + 1)) (lv' := [(4, .int (nI (i0 + 1))), (3, .int (nI (m0 + 1))), (6, .int (nI (g 3 (4 * (0 + i0) + 2)))), (5, .int (nI (16 + m0))), (0, .ref (ad 0)), (1, .int (nI fe)), (2, .int (nI 0))]) hx hb dX5_lay_152 hl (k := 6) rfl (by rw [show Int32.ofInt 1 = nI 1 from by decide, nI_add]) (by decide) rfl (fun ls hl => ?_)
                refine lv_goto (tgt := 12) hx hb dX5_lay_155 (by decide) ?_
                exact ihh0 (i0 + 1) (m0 + 1) (upN s0 (16 + m0) (s0 (0 + i0))) (cp4 n0 (0 + i0) (16 + m0)) (by omega) (lay_mB hm0 c31_17) (lay_copy0 (h := 0) (by decide) (by omega) h7 (lay_mB2 hm0 c31_17) hLP0 (lay_x0 (Or.inr (Or.inr (Or.inl (show ¬ fe ≤ 0 + i0 + g 3 (4 * (0 + i0) + 2) from by omega)))))) (fun j => ⟨bnd_s (fun j => (hbd0 j).1) j, (bnd_c (fun j => (hbd0 j).2)) j⟩) (by omega) _ _ hP hD hS _ (lv_sub hl [4, 5, 6, 1, 0] rfl)
              · have c123_21 : ¬ (((0 + i0) + (g 3 (4 * (0 + i0) + 2)) < fe ∧ (2147483648 ≤ (0 + i0) + (g 3 (4 * (0 + i0) + 2)) ∨ fe < 2147483648)) ∨ (2147483648 ≤ (0 + i0) + (g 3 (4 * (0 + i0) + 2)) ∧ fe < 2147483648)) := fun h9 => c123_21 ((nI_ltG (a := (0 + i0) + (g 3 (4 * (0 + i0) + 2))) (b := fe) (by omega) (by omega)).mpr h9)
                refine lv_iload_n hx hb dX5_lay_126 rfl (lv_at hl 3 rfl) ?_
                refine lv_bipush (v := nI 8) hx hb dX5_lay_127 (by decide) ?_
                refine lv_idiv hx hb dX5_lay_129 (nI_ne0 (by omega) (by omega)) ?_
                refine lv_topE (nI (fe / 8)) (pk_div (by omega) (by omega) (by omega)) ?_
                refine lv_iload_n hx hb dX5_lay_130 rfl (lv_at hl 4 rfl) ?_
                refine lv_icmp_ne (tgt := 149) hx hb dX5_lay_131 (by decide) (fun c131_22 => ?_) (fun c131_22 => ?_)
                · have c131_22 : ¬ (fe / 8 = 0) := fun h9 => c131_22 ((nI_eqG (a := fe / 8) (b := 0) (by omega) (by omega)).mpr h9)
                  refine lv_iinc (v := nI (m0 + 1)) (lv' := [(3, .int (nI (m0 + 1))), (6, .int (nI (g 3 (4 * (0 + i0) + 2)))), (5, .int (nI (16 + m0))), (0, .ref (ad 0)), (1, .int (nI fe)), (2, .int (nI 0)), (4, .int (nI i0))]) hx hb dX5_lay_149 hl (k := 5) rfl (by rw [show Int32.ofInt 1 = nI 1 from by decide, nI_add]) (by decide) rfl (fun ls hl => ?_)
                  refine lv_iinc (v := nI (i0 + 1)) (lv' := [(4, .int (nI (i0 + 1))), (3, .int (nI (m0 + 1))), (6, .int (nI (g 3 (4 * (0 + i0) + 2)))), (5, .int (nI (16 + m0))), (0, .ref (ad 0)), (1, .int (nI fe)), (2, .int (nI 0))]) hx hb dX5_lay_152 hl (k := 6) rfl (by rw [show Int32.ofInt 1 = nI 1 from by decide, nI_add]) (by decide) rfl (fun ls hl => ?_)
                  refine lv_goto (tgt := 12) hx hb dX5_lay_155 (by decide) ?_
                  exact ihh0 (i0 + 1) (m0 + 1) (upN s0 (16 + m0) (s0 (0 + i0))) (cp4 n0 (0 + i0) (16 + m0)) (by omega) (lay_mB hm0 c31_17) (lay_copy0 (h := 0) (by decide) (by omega) h7 (lay_mB2 hm0 c31_17) hLP0 (lay_x0 (Or.inr (Or.inr (Or.inr c131_22))))) (fun j => ⟨bnd_s (fun j => (hbd0 j).1) j, (bnd_c (fun j => (hbd0 j).2)) j⟩) (by omega) _ _ hP hD hS _ (lv_sub hl [4, 5, 6, 1, 0] rfl)
                · have c131_22 : fe / 8 = 0 := (nI_eqG (a := fe / 8) (b := 0) (by omega) (by omega)).mp c131_22
                  refine lv_aload_n hx hb dX5_lay_134 rfl (lv_at hl 2 rfl) ?_
                  refine va_get (D := D) (ci := 5) (v := .ref (ad 3)) (C := RX5) (T := TX5) (N := 23) hx hb hU iX5 hown hK hP 0 rfl rfl 2 (by decide) (hU _ mU_77) (fun _ h9 => h9) rfl dX5_lay_135 ?_
                  refine lv_iconst (v := nI 4) hx hb dX5_lay_138 (by decide) ?_
                  refine lv_iload hx hb dX5_lay_139 (lv_at hl 1 rfl) ?_
                  refine lv_imul hx hb dX5_lay_141 ?_
                  refine lv_topE (nI (4 * (16 + m0))) (pk_mul _ _) ?_
                  refine lv_iconst (v := nI 2) hx hb dX5_lay_142 (by decide) ?_
                  refine lv_iadd hx hb dX5_lay_143 ?_
                  refine lv_topE (nI ((4 * (16 + m0)) + 2)) (nI_add _ _) ?_
                  refine lv_iload hx hb dX5_lay_144 (lv_at hl 0 rfl) ?_
                  refine lv_iconst (v := nI 1) hx hb dX5_lay_146 (by decide) ?_
                  refine lv_iadd hx hb dX5_lay_147 ?_
                  refine lv_topE (nI ((g 3 (4 * (0 + i0) + 2)) + 1)) (nI_add _ _) ?_
                  refine n_iast hx hb hK hP hD hS 3 2 rfl rfl (i := (4 * (16 + m0)) + 2) (v := (g 3 (4 * (0 + i0) + 2)) + 1) (by omega) (by decide) dX5_lay_148 (fun H locs hP hD hS => ?_)
                  have hP : va_P D vwCl [(ad 0, .inr (5, [.ref (ad 1), .ref (ad 2), .ref (ad 3), .ref (ad 4), .ref (ad 5), .int (nI (f 5)), .ref (ad 6), .int (nI (f 7)), .int (nI (f 8)), .int (nI (f 9)), .int (nI (f 10)), .int (nI (f 11)), .int (nI (f 12)), .int (nI (f 13)), .ref (ad 7), .ref (ad 8), .ref (ad 9), .ref (ad 10), .ref (ad 11), .int (nI (f 19)), .int (nI (f 20)), .int (nI (f 21)), .ref (ad 12)])), (ad 1, .inl (ka 1, 5, .inl (nA (g 1)))), (ad 2, .inl (ka 2, 40, .inl (nA (upN s0 (16 + m0) (s0 (0 + i0)))))), (ad 3, .inl (ka 3, 160, .inl (nA (upN (cp4 n0 (0 + i0) (16 + m0)) ((4 * (16 + m0)) + 2) ((g 3 (4 * (0 + i0) + 2)) + 1))))), (ad 4, .inl (ka 4, 4, .inl (nA (g 4)))), (ad 5, .inl (ka 5, 4, .inl (nA (g 5)))), (ad 6, .inl (ka 6, 200, .inl (nA (g 6)))), (ad 7, .inl (ka 7, 12001, .inr (.inl (lA t)))), (ad 8, .inl (ka 8, 12001, .inl (nA (g 8)))), (ad 9, .inl (ka 9, 12001, .inl (nA (g 9)))), (ad 10, .inl (ka 10, 12001, .inl (nA (g 10)))), (ad 11, .inl (ka 11, 32768, .inl (nA (g 11)))), (ad 12, .inl (ka 12, 64, .inl (nA (g 12))))] H := hP
                  have hD : va_D Ar [(ad 0, .inr (5, [.ref (ad 1), .ref (ad 2), .ref (ad 3), .ref (ad 4), .ref (ad 5), .int (nI (f 5)), .ref (ad 6), .int (nI (f 7)), .int (nI (f 8)), .int (nI (f 9)), .int (nI (f 10)), .int (nI (f 11)), .int (nI (f 12)), .int (nI (f 13)), .ref (ad 7), .ref (ad 8), .ref (ad 9), .ref (ad 10), .ref (ad 11), .int (nI (f 19)), .int (nI (f 20)), .int (nI (f 21)), .ref (ad 12)])), (ad 1, .inl (ka 1, 5, .inl (nA (g 1)))), (ad 2, .inl (ka 2, 40, .inl (nA (upN s0 (16 + m0) (s0 (0 + i0)))))), (ad 3, .inl (ka 3, 160, .inl (nA (upN (cp4 n0 (0 + i0) (16 + m0)) ((4 * (16 + m0)) + 2) ((g 3 (4 * (0 + i0) + 2)) + 1))))), (ad 4, .inl (ka 4, 4, .inl (nA (g 4)))), (ad 5, .inl (ka 5, 4, .inl (nA (g 5)))), (ad 6, .inl (ka 6, 200, .inl (nA (g 6)))), (ad 7, .inl (ka 7, 12001, .inr (.inl (lA t)))), (ad 8, .inl (ka 8, 12001, .inl (nA (g 8)))), (ad 9, .inl (ka 9, 12001, .inl (nA (g 9)))), (ad 10, .inl (ka 10, 12001, .inl (nA (g 10)))), (ad 11, .inl (ka 11, 32768, .inl (nA (g 11)))), (ad 12, .inl (ka 12, 64, .inl (nA (g 12))))] := hD
                  refine lv_iinc (v := nI (m0 + 1)) (lv' := [(3, .int (nI (m0 + 1))), (6, .int (nI (g 3 (4 * (0 + i0) + 2)))), (5, .int (nI (16 + m0))), (0, .ref (ad 0)), (1, .int (nI fe)), (2, .int (nI 0)), (4, .int (nI i0))]) hx hb dX5_lay_149 hl (k := 5) rfl (by rw [show Int32.ofInt 1 = nI 1 from by decide, nI_add]) (by decide) rfl (fun ls hl => ?_)
                  refine lv_iinc (v := nI (i0 + 1)) (lv' := [(4, .int (nI (i0 + 1))), (3, .int (nI (m0 + 1))), (6, .int (nI (g 3 (4 * (0 + i0) + 2)))), (5, .int (nI (16 + m0))), (0, .ref (ad 0)), (1, .int (nI fe)), (2, .int (nI 0))]) hx hb dX5_lay_152 hl (k := 6) rfl (by rw [show Int32.ofInt 1 = nI 1 from by decide, nI_add]) (by decide) rfl (fun ls hl => ?_)
                  refine lv_goto (tgt := 12) hx hb dX5_lay_155 (by decide) ?_
                  exact ihh0 (i0 + 1) (m0 + 1) (upN s0 (16 + m0) (s0 (0 + i0))) (upN (cp4 n0 (0 + i0) (16 + m0)) ((4 * (16 + m0)) + 2) ((g 3 (4 * (0 + i0) + 2)) + 1)) (by omega) (lay_mB hm0 c31_17) (lay_copy1 (h := 0) (by decide) (by omega) h7 (lay_mB2 hm0 c31_17) hLP0 (lay_x1 c98_19 (by omega) (show fe ≤ 0 + i0 + g 3 (4 * (0 + i0) + 2) from by omega) c131_22 (by decide) hfe)) (fun j => ⟨bnd_s (fun j => (hbd0 j).1) j, (bnd_u (bnd_c (fun j => (hbd0 j).2)) (by omega)) j⟩) (by omega) _ _ hP hD hS _ (lv_sub hl [4, 5, 6, 1, 0] rfl)
        · have c31_17 : fe = 0 + i0 := (nI_eqG (a := fe) (b := 0 + i0) (by omega) (by omega)).mp c31_17
          have em : m0 = i0 := (lay_mA (h := 0) hm0 c31_17 (by omega) (by omega)).1
          have hLPf : LayP g fe 0 (m0 + 1) (upN s0 (16 + m0) 4) n0 := by
            have q := hLP0
            rw [em] at q ⊢
            exact lay_fence (h := 0) (by decide) (by omega) h7 (by omega) q
          have hmf : m0 + 1 = if fIn g fe 0 ∧ fe % 8 ≤ i0 then i0 + 1 else i0 := by
            rw [em]
            exact lay_mA2 (h := 0) c31_17 (by omega) (by omega)
          refine lv_aload_n hx hb dX5_lay_34 rfl (lv_at hl 0 rfl) ?_
          refine va_get (D := D) (ci := 5) (v := .ref (ad 2)) (C := RX5) (T := TX5) (N := 23) hx hb hU iX5 hown hK hP 0 rfl rfl 1 (by decide) (hU _ mU_76) (fun _ h9 => h9) rfl dX5_lay_35 ?_
          refine lv_bipush (v := nI 16) hx hb dX5_lay_38 (by decide) ?_
          refine lv_bipush (v := nI 8) hx hb dX5_lay_40 (by decide) ?_
          refine lv_iload_n hx hb dX5_lay_42 rfl (lv_at hl 2 rfl) ?_
          refine lv_imul hx hb dX5_lay_43 ?_
          refine lv_topE (nI 0) (pk_mul _ _) ?_
          refine lv_iadd hx hb dX5_lay_44 ?_
          refine lv_topE (nI 16) (nI_add _ _) ?_
          refine lv_iload_n hx hb dX5_lay_45 rfl (lv_at hl 3 rfl) ?_
          refine lv_iadd hx hb dX5_lay_46 ?_
          refine lv_topE (nI (16 + m0)) (nI_add _ _) ?_
          refine lv_iconst (v := nI 4) hx hb dX5_lay_47 (by decide) ?_
          refine n_iast hx hb hK hP hD hS 2 1 rfl rfl (i := 16 + m0) (v := 4) (by omega) (by decide) dX5_lay_48 (fun H locs hP hD hS => ?_)
          have hP : va_P D vwCl [(ad 0, .inr (5, [.ref (ad 1), .ref (ad 2), .ref (ad 3), .ref (ad 4), .ref (ad 5), .int (nI (f 5)), .ref (ad 6), .int (nI (f 7)), .int (nI (f 8)), .int (nI (f 9)), .int (nI (f 10)), .int (nI (f 11)), .int (nI (f 12)), .int (nI (f 13)), .ref (ad 7), .ref (ad 8), .ref (ad 9), .ref (ad 10), .ref (ad 11), .int (nI (f 19)), .int (nI (f 20)), .int (nI (f 21)), .ref (ad 12)])), (ad 1, .inl (ka 1, 5, .inl (nA (g 1)))), (ad 2, .inl (ka 2, 40, .inl (nA (upN s0 (16 + m0) 4)))), (ad 3, .inl (ka 3, 160, .inl (nA n0))), (ad 4, .inl (ka 4, 4, .inl (nA (g 4)))), (ad 5, .inl (ka 5, 4, .inl (nA (g 5)))), (ad 6, .inl (ka 6, 200, .inl (nA (g 6)))), (ad 7, .inl (ka 7, 12001, .inr (.inl (lA t)))), (ad 8, .inl (ka 8, 12001, .inl (nA (g 8)))), (ad 9, .inl (ka 9, 12001, .inl (nA (g 9)))), (ad 10, .inl (ka 10, 12001, .inl (nA (g 10)))), (ad 11, .inl (ka 11, 32768, .inl (nA (g 11)))), (ad 12, .inl (ka 12, 64, .inl (nA (g 12))))] H := hP
          have hD : va_D Ar [(ad 0, .inr (5, [.ref (ad 1), .ref (ad 2), .ref (ad 3), .ref (ad 4), .ref (ad 5), .int (nI (f 5)), .ref (ad 6), .int (nI (f 7)), .int (nI (f 8)), .int (nI (f 9)), .int (nI (f 10)), .int (nI (f 11)), .int (nI (f 12)), .int (nI (f 13)), .ref (ad 7), .ref (ad 8), .ref (ad 9), .ref (ad 10), .ref (ad 11), .int (nI (f 19)), .int (nI (f 20)), .int (nI (f 21)), .ref (ad 12)])), (ad 1, .inl (ka 1, 5, .inl (nA (g 1)))), (ad 2, .inl (ka 2, 40, .inl (nA (upN s0 (16 + m0) 4)))), (ad 3, .inl (ka 3, 160, .inl (nA n0))), (ad 4, .inl (ka 4, 4, .inl (nA (g 4)))), (ad 5, .inl (ka 5, 4, .inl (nA (g 5)))), (ad 6, .inl (ka 6, 200, .inl (nA (g 6)))), (ad 7, .inl (ka 7, 12001, .inr (.inl (lA t)))), (ad 8, .inl (ka 8, 12001, .inl (nA (g 8)))), (ad 9, .inl (ka 9, 12001, .inl (nA (g 9)))), (ad 10, .inl (ka 10, 12001, .inl (nA (g 10)))), (ad 11, .inl (ka 11, 32768, .inl (nA (g 11)))), (ad 12, .inl (ka 12, 64, .inl (nA (g 12))))] := hD
          refine lv_iinc (v := nI (m0 + 1)) (lv' := [(3, .int (nI (m0 + 1))), (0, .ref (ad 0)), (1, .int (nI fe)), (2, .int (nI 0)), (4, .int (nI i0))]) hx hb dX5_lay_49 hl (k := 3) rfl (by rw [show Int32.ofInt 1 = nI 1 from by decide, nI_add]) (by decide) rfl (fun ls hl => ?_)
          refine lv_bipush (v := nI 16) hx hb dX5_lay_52 (by decide) ?_
          refine lv_bipush (v := nI 8) hx hb dX5_lay_54 (by decide) ?_
          refine lv_iload_n hx hb dX5_lay_56 rfl (lv_at hl 3 rfl) ?_
          refine lv_imul hx hb dX5_lay_57 ?_
          refine lv_topE (nI 0) (pk_mul _ _) ?_
          refine lv_iadd hx hb dX5_lay_58 ?_
          refine lv_topE (nI 16) (nI_add _ _) ?_
          refine lv_iload_n hx hb dX5_lay_59 rfl (lv_at hl 0 rfl) ?_
          refine lv_iadd hx hb dX5_lay_60 ?_
          refine lv_topE (nI (16 + (m0 + 1))) (nI_add _ _) ?_
          refine lv_istore (lv' := [(5, .int (nI (16 + (m0 + 1)))), (3, .int (nI (m0 + 1))), (0, .ref (ad 0)), (1, .int (nI fe)), (2, .int (nI 0)), (4, .int (nI i0))]) hx hb dX5_lay_61 hl (by decide) rfl (fun ls hl => ?_)
          refine lv_aload_n hx hb dX5_lay_63 rfl (lv_at hl 2 rfl) ?_
          refine lv_bipush (v := nI 8) hx hb dX5_lay_64 (by decide) ?_
          refine lv_iload_n hx hb dX5_lay_66 rfl (lv_at hl 4 rfl) ?_
          refine lv_imul hx hb dX5_lay_67 ?_
          refine lv_topE (nI 0) (pk_mul _ _) ?_
          refine lv_iload hx hb dX5_lay_68 (lv_at hl 5 rfl) ?_
          refine lv_iadd hx hb dX5_lay_70 ?_
          refine lv_topE (nI (0 + i0)) (nI_add _ _) ?_
          refine lv_iload hx hb dX5_lay_71 (lv_at hl 0 rfl) ?_
          refine kVv (As := [.int (nI (0 + i0)), .int (nI (16 + (m0 + 1)))]) (rest := []) (wr := []) ⟨hx, hb, hml, hown, hts⟩ (c_X5_copyTo l D ad ka f (upA (upA (g) 2 (upN s0 (16 + m0) 4)) 3 (n0)) t H.size (0 + i0) (16 + (m0 + 1)) (show (0 + i0) < 40 from by omega) (show (16 + (m0 + 1)) < 40 from by omega) (show (0 + i0) ≠ (16 + (m0 + 1)) from by omega)) (cwV 2 hts (gV mU_288 mU_289 mU_290 mU_6 mU_291) rfl rfl rfl (by decide +kernel) ⟨Nat.le_of_ble_eq_true rfl, Nat.le_of_ble_eq_true rfl⟩) (va_recv hK hP (ci := 5) (q0 := 0) rfl rfl) hP hK hD hS hA [0, 1, 2, 3, 4, 5, 6, 7, 8, 9, 10, 11, 12] [] [0, 1, 2, 3, 4, 5, 6, 7, 8, 9, 10, 11] [] rfl rfl rfl rfl (by decide) rfl rfl rfl hl.1 rfl (Nat.le_of_ble_eq_true rfl) dX5_lay_73 ⟨by decide, by decide⟩ (fun u H locs hw hP hD hK hS => ?_)
          subst hw
          have hP : va_P D vwCl [(ad 0, .inr (5, [.ref (ad 1), .ref (ad 2), .ref (ad 3), .ref (ad 4), .ref (ad 5), .int (nI (f 5)), .ref (ad 6), .int (nI (f 7)), .int (nI (f 8)), .int (nI (f 9)), .int (nI (f 10)), .int (nI (f 11)), .int (nI (f 12)), .int (nI (f 13)), .ref (ad 7), .ref (ad 8), .ref (ad 9), .ref (ad 10), .ref (ad 11), .int (nI (f 19)), .int (nI (f 20)), .int (nI (f 21)), .ref (ad 12)])), (ad 1, .inl (ka 1, 5, .inl (nA (g 1)))), (ad 2, .inl (ka 2, 40, .inl (nA (upN (upN s0 (16 + m0) 4) (16 + (m0 + 1)) ((upN s0 (16 + m0) 4) (0 + i0)))))), (ad 3, .inl (ka 3, 160, .inl (nA (cp4 n0 (0 + i0) (16 + (m0 + 1)))))), (ad 4, .inl (ka 4, 4, .inl (nA (g 4)))), (ad 5, .inl (ka 5, 4, .inl (nA (g 5)))), (ad 6, .inl (ka 6, 200, .inl (nA (g 6)))), (ad 7, .inl (ka 7, 12001, .inr (.inl (lA t)))), (ad 8, .inl (ka 8, 12001, .inl (nA (g 8)))), (ad 9, .inl (ka 9, 12001, .inl (nA (g 9)))), (ad 10, .inl (ka 10, 12001, .inl (nA (g 10)))), (ad 11, .inl (ka 11, 32768, .inl (nA (g 11)))), (ad 12, .inl (ka 12, 64, .inl (nA (g 12))))] H := hP
          have hD : va_D Ar [(ad 0, .inr (5, [.ref (ad 1), .ref (ad 2), .ref (ad 3), .ref (ad 4), .ref (ad 5), .int (nI (f 5)), .ref (ad 6), .int (nI (f 7)), .int (nI (f 8)), .int (nI (f 9)), .int (nI (f 10)), .int (nI (f 11)), .int (nI (f 12)), .int (nI (f 13)), .ref (ad 7), .ref (ad 8), .ref (ad 9), .ref (ad 10), .ref (ad 11), .int (nI (f 19)), .int (nI (f 20)), .int (nI (f 21)), .ref (ad 12)])), (ad 1, .inl (ka 1, 5, .inl (nA (g 1)))), (ad 2, .inl (ka 2, 40, .inl (nA (upN (upN s0 (16 + m0) 4) (16 + (m0 + 1)) ((upN s0 (16 + m0) 4) (0 + i0)))))), (ad 3, .inl (ka 3, 160, .inl (nA (cp4 n0 (0 + i0) (16 + (m0 + 1)))))), (ad 4, .inl (ka 4, 4, .inl (nA (g 4)))), (ad 5, .inl (ka 5, 4, .inl (nA (g 5)))), (ad 6, .inl (ka 6, 200, .inl (nA (g 6)))), (ad 7, .inl (ka 7, 12001, .inr (.inl (lA t)))), (ad 8, .inl (ka 8, 12001, .inl (nA (g 8)))), (ad 9, .inl (ka 9, 12001, .inl (nA (g 9)))), (ad 10, .inl (ka 10, 12001, .inl (nA (g 10)))), (ad 11, .inl (ka 11, 32768, .inl (nA (g 11)))), (ad 12, .inl (ka 12, 64, .inl (nA (g 12))))] := hD
          have hK : va_K D vwCl (mT ka) s := hK.sub [0, 1, 2, 3, 4, 5, 6, 7, 8, 9, 10, 11] rfl
          refine lv_aload_n hx hb dX5_lay_76 rfl (lv_at hl 2 rfl) ?_
          refine va_get (D := D) (ci := 5) (v := .ref (ad 3)) (C := RX5) (T := TX5) (N := 23) hx hb hU iX5 hown hK hP 0 rfl rfl 2 (by decide) (hU _ mU_77) (fun _ h9 => h9) rfl dX5_lay_77 ?_
          refine lv_iconst (v := nI 4) hx hb dX5_lay_80 (by decide) ?_
          refine lv_iload hx hb dX5_lay_81 (lv_at hl 0 rfl) ?_
          refine lv_imul hx hb dX5_lay_83 ?_
          refine lv_topE (nI (4 * (16 + (m0 + 1)))) (pk_mul _ _) ?_
          refine lv_iconst (v := nI 2) hx hb dX5_lay_84 (by decide) ?_
          refine lv_iadd hx hb dX5_lay_85 ?_
          refine lv_topE (nI ((4 * (16 + (m0 + 1))) + 2)) (nI_add _ _) ?_
          refine n_iald hx hb hK hP 3 2 rfl rfl (i := (4 * (16 + (m0 + 1))) + 2) (by omega) (by decide) dX5_lay_86 ?_
          refine lv_topE (nI (g 3 (4 * (0 + i0) + 2))) (congrArg nI ((cp4_at (by decide)).trans (hLP0.2.1 _ (by omega)))) ?_
          refine lv_istore (lv' := [(6, .int (nI (g 3 (4 * (0 + i0) + 2)))), (5, .int (nI (16 + (m0 + 1)))), (3, .int (nI (m0 + 1))), (0, .ref (ad 0)), (1, .int (nI fe)), (2, .int (nI 0)), (4, .int (nI i0))]) hx hb dX5_lay_87 hl (by decide) rfl (fun ls hl => ?_)
          refine lv_aload_n hx hb dX5_lay_89 rfl (lv_at hl 3 rfl) ?_
          refine va_get (D := D) (ci := 5) (v := .ref (ad 2)) (C := RX5) (T := TX5) (N := 23) hx hb hU iX5 hown hK hP 0 rfl rfl 1 (by decide) (hU _ mU_76) (fun _ h9 => h9) rfl dX5_lay_90 ?_
          refine lv_iload hx hb dX5_lay_93 (lv_at hl 1 rfl) ?_
          refine n_iald hx hb hK hP 2 1 rfl rfl (i := 16 + (m0 + 1)) (by omega) (by decide) dX5_lay_95 ?_
          refine lv_topE (nI (g 2 (0 + i0))) (congrArg nI (by rw [upN_s]; first | exact hLP0.1 _ (by omega) | (rw [upN_n (by omega)]; exact hLP0.1 _ (by omega)))) ?_
          refine lv_bipush (v := nI 8) hx hb dX5_lay_96 (by decide) ?_
          have hnb : g 3 (4 * (0 + i0) + 2) < 2147483648 := hg 3 (by decide) _
          have hsb : g 2 (0 + i0) < 2147483648 := hg 2 (by decide) _
          refine lv_icmp_ne (tgt := 149) hx hb dX5_lay_98 (by decide) (fun c98_24 => ?_) (fun c98_24 => ?_)
          · have c98_24 : ¬ (g 2 (0 + i0) = 8) := fun h9 => c98_24 ((nI_eqG (a := g 2 (0 + i0)) (b := 8) (by omega) (by omega)).mpr h9)
            refine lv_iinc (v := nI (m0 + 2)) (lv' := [(3, .int (nI (m0 + 2))), (6, .int (nI (g 3 (4 * (0 + i0) + 2)))), (5, .int (nI (16 + (m0 + 1)))), (0, .ref (ad 0)), (1, .int (nI fe)), (2, .int (nI 0)), (4, .int (nI i0))]) hx hb dX5_lay_149 hl (k := 2) rfl (by rw [show Int32.ofInt 1 = nI 1 from by decide, nI_add]) (by decide) rfl (fun ls hl => ?_)
            refine lv_iinc (v := nI (i0 + 1)) (lv' := [(4, .int (nI (i0 + 1))), (3, .int (nI (m0 + 2))), (6, .int (nI (g 3 (4 * (0 + i0) + 2)))), (5, .int (nI (16 + (m0 + 1)))), (0, .ref (ad 0)), (1, .int (nI fe)), (2, .int (nI 0))]) hx hb dX5_lay_152 hl (k := 6) rfl (by rw [show Int32.ofInt 1 = nI 1 from by decide, nI_add]) (by decide) rfl (fun ls hl => ?_)
            refine lv_goto (tgt := 12) hx hb dX5_lay_155 (by decide) ?_
            exact ihh0 (i0 + 1) (m0 + 2) (upN (upN s0 (16 + m0) 4) (16 + (m0 + 1)) ((upN s0 (16 + m0) 4) (0 + i0))) (cp4 n0 (0 + i0) (16 + (m0 + 1))) (by omega) ((lay_mA hm0 c31_17 (by omega) (by omega)).2) (lay_copy0 (h := 0) (by decide) (by omega) h7 hmf hLPf (lay_x0 (Or.inl c98_24))) (fun j => ⟨bnd_s (bnd_u (fun j => (hbd0 j).1) (by decide)) j, (bnd_c (fun j => (hbd0 j).2)) j⟩) (by omega) _ _ hP hD hS _ (lv_sub hl [4, 5, 6, 1, 0] rfl)
          · have c98_24 : g 2 (0 + i0) = 8 := (nI_eqG (a := g 2 (0 + i0)) (b := 8) (by omega) (by omega)).mp c98_24
            refine lv_iload_n hx hb dX5_lay_101 rfl (lv_at hl 4 rfl) ?_
            refine lv_bipush (v := nI 8) hx hb dX5_lay_102 (by decide) ?_
            refine lv_iload_n hx hb dX5_lay_104 rfl (lv_at hl 5 rfl) ?_
            refine lv_imul hx hb dX5_lay_105 ?_
            refine lv_topE (nI 0) (pk_mul _ _) ?_
            refine lv_iload hx hb dX5_lay_106 (lv_at hl 6 rfl) ?_
            refine lv_iadd hx hb dX5_lay_108 ?_
            refine lv_topE (nI (0 + i0)) (nI_add _ _) ?_
            refine lv_icmp_le (tgt := 149) hx hb dX5_lay_109 (by decide) (fun c109_25 => ?_) (fun c109_25 => ?_)
            · have c109_25 : (fe ≤ 0 + i0 ∧ (2147483648 ≤ fe ∨ 0 + i0 < 2147483648)) ∨ (2147483648 ≤ fe ∧ 0 + i0 < 2147483648) := (nI_leG (a := fe) (b := 0 + i0) (by omega) (by omega)).mp c109_25
              refine lv_iinc (v := nI (m0 + 2)) (lv' := [(3, .int (nI (m0 + 2))), (6, .int (nI (g 3 (4 * (0 + i0) + 2)))), (5, .int (nI (16 + (m0 + 1)))), (0, .ref (ad 0)), (1, .int (nI fe)), (2, .int (nI 0)), (4, .int (nI i0))]) hx hb dX5_lay_149 hl (k := 2) rfl (by rw [show Int32.ofInt 1 = nI 1 from by decide, nI_add]) (by decide) rfl (fun ls hl => ?_)
              refine lv_iinc (v := nI (i0 + 1)) (lv' := [(4, .int (nI (i0 + 1))), (3, .int (nI (m0 + 2))), (6, .int (nI (g 3 (4 * (0 + i0) + 2)))), (5, .int (nI (16 + (m0 + 1)))), (0, .ref (ad 0)), (1, .int (nI fe)), (2, .int (nI 0))]) hx hb dX5_lay_152 hl (k := 6) rfl (by rw [show Int32.ofInt 1 = nI 1 from by decide, nI_add]) (by decide) rfl (fun ls hl => ?_)
              refine lv_goto (tgt := 12) hx hb dX5_lay_155 (by decide) ?_
              exact ihh0 (i0 + 1) (m0 + 2) (upN (upN s0 (16 + m0) 4) (16 + (m0 + 1)) ((upN s0 (16 + m0) 4) (0 + i0))) (cp4 n0 (0 + i0) (16 + (m0 + 1))) (by omega) ((lay_mA hm0 c31_17 (by omega) (by omega)).2) (lay_copy0 (h := 0) (by decide) (by omega) h7 hmf hLPf (lay_xs (by omega) (by decide))) (fun j => ⟨bnd_s (bnd_u (fun j => (hbd0 j).1) (by decide)) j, (bnd_c (fun j => (hbd0 j).2)) j⟩) (by omega) _ _ hP hD hS _ (lv_sub hl [4, 5, 6, 1, 0] rfl)
            · have c109_25 : ¬ ((fe ≤ 0 + i0 ∧ (2147483648 ≤ fe ∨ 0 + i0 < 2147483648)) ∨ (2147483648 ≤ fe ∧ 0 + i0 < 2147483648)) := fun h9 => c109_25 ((nI_leG (a := fe) (b := 0 + i0) (by omega) (by omega)).mpr h9)
              have hn7 : g 3 (4 * (0 + i0) + 2) ≤ 7 := ((hP9 0 (by decide)).2 i0 (by omega)).2 c98_24
              refine lv_iload_n hx hb dX5_lay_112 rfl (lv_at hl 4 rfl) ?_
              refine lv_bipush (v := nI 8) hx hb dX5_lay_113 (by decide) ?_
              refine lv_iload_n hx hb dX5_lay_115 rfl (lv_at hl 5 rfl) ?_
              refine lv_imul hx hb dX5_lay_116 ?_
              refine lv_topE (nI 0) (pk_mul _ _) ?_
              refine lv_iload hx hb dX5_lay_117 (lv_at hl 6 rfl) ?_
              refine lv_iadd hx hb dX5_lay_119 ?_
              refine lv_topE (nI (0 + i0)) (nI_add _ _) ?_
              refine lv_iload hx hb dX5_lay_120 (lv_at hl 0 rfl) ?_
              refine lv_iadd hx hb dX5_lay_122 ?_
              refine lv_topE (nI ((0 + i0) + (g 3 (4 * (0 + i0) + 2)))) (nI_add _ _) ?_
              refine lv_icmp_gt (tgt := 149) hx hb dX5_lay_123 (by decide) (fun c123_26 => ?_) (fun c123_26 => ?_)
              · have c123_26 : ((0 + i0) + (g 3 (4 * (0 + i0) + 2)) < fe ∧ (2147483648 ≤ (0 + i0) + (g 3 (4 * (0 + i0) + 2)) ∨ fe < 2147483648)) ∨ (2147483648 ≤ (0 + i0) + (g 3 (4 * (0 + i0) + 2)) ∧ fe < 2147483648) := (nI_ltG (a := (0 + i0) + (g 3 (4 * (0 + i0) + 2))) (b := fe) (by omega) (by omega)).mp c123_26
                refine lv_iinc (v := nI (m0 + 2)) (lv' := [(3, .int (nI (m0 + 2))), (6, .int (nI (g 3 (4 * (0 + i0) + 2)))), (5, .int (nI (16 + (m0 + 1)))), (0, .ref (ad 0)), (1, .int (nI fe)), (2, .int (nI 0)), (4, .int (nI i0))]) hx hb dX5_lay_149 hl (k := 2) rfl (by rw [show Int32.ofInt 1 = nI 1 from by decide, nI_add]) (by decide) rfl (fun ls hl => ?_)
                refine lv_iinc (v := nI (i0 + 1)) (lv' := [(4, .int (nI (i0 + 1))), (3, .int (nI (m0 + 2))), (6, .int (nI (g 3 (4 * (0 + i0) + 2)))), (5, .int (nI (16 + (m0 + 1)))), (0, .ref (ad 0)), (1, .int (nI fe)), (2, .int (nI 0))]) hx hb dX5_lay_152 hl (k := 6) rfl (by rw [show Int32.ofInt 1 = nI 1 from by decide, nI_add]) (by decide) rfl (fun ls hl => ?_)
                refine lv_goto (tgt := 12) hx hb dX5_lay_155 (by decide) ?_
                exact ihh0 (i0 + 1) (m0 + 2) (upN (upN s0 (16 + m0) 4) (16 + (m0 + 1)) ((upN s0 (16 + m0) 4) (0 + i0))) (cp4 n0 (0 + i0) (16 + (m0 + 1))) (by omega) ((lay_mA hm0 c31_17 (by omega) (by omega)).2) (lay_copy0 (h := 0) (by decide) (by omega) h7 hmf hLPf (lay_x0 (Or.inr (Or.inr (Or.inl (show ¬ fe ≤ 0 + i0 + g 3 (4 * (0 + i0) + 2) from by omega)))))) (fun j => ⟨bnd_s (bnd_u (fun j => (hbd0 j).1) (by decide)) j, (bnd_c (fun j => (hbd0 j).2)) j⟩) (by omega) _ _ hP hD hS _ (lv_sub hl [4, 5, 6, 1, 0] rfl)
              · have c123_26 : ¬ (((0 + i0) + (g 3 (4 * (0 + i0) + 2)) < fe ∧ (2147483648 ≤ (0 + i0) + (g 3 (4 * (0 + i0) + 2)) ∨ fe < 2147483648)) ∨ (2147483648 ≤ (0 + i0) + (g 3 (4 * (0 + i0) + 2)) ∧ fe < 2147483648)) := fun h9 => c123_26 ((nI_ltG (a := (0 + i0) + (g 3 (4 * (0 + i0) + 2))) (b := fe) (by omega) (by omega)).mpr h9)
                refine lv_iload_n hx hb dX5_lay_126 rfl (lv_at hl 4 rfl) ?_
                refine lv_bipush (v := nI 8) hx hb dX5_lay_127 (by decide) ?_
                refine lv_idiv hx hb dX5_lay_129 (nI_ne0 (by omega) (by omega)) ?_
                refine lv_topE (nI (fe / 8)) (pk_div (by omega) (by omega) (by omega)) ?_
                refine lv_iload_n hx hb dX5_lay_130 rfl (lv_at hl 5 rfl) ?_
                refine lv_icmp_ne (tgt := 149) hx hb dX5_lay_131 (by decide) (fun c131_27 => ?_) (fun c131_27 => ?_)
                · have c131_27 : ¬ (fe / 8 = 0) := fun h9 => c131_27 ((nI_eqG (a := fe / 8) (b := 0) (by omega) (by omega)).mpr h9)
                  refine lv_iinc (v := nI (m0 + 2)) (lv' := [(3, .int (nI (m0 + 2))), (6, .int (nI (g 3 (4 * (0 + i0) + 2)))), (5, .int (nI (16 + (m0 + 1)))), (0, .ref (ad 0)), (1, .int (nI fe)), (2, .int (nI 0)), (4, .int (nI i0))]) hx hb dX5_lay_149 hl (k := 2) rfl (by rw [show Int32.ofInt 1 = nI 1 from by decide, nI_add]) (by decide) rfl (fun ls hl => ?_)
                  refine lv_iinc (v := nI (i0 + 1)) (lv' := [(4, .int (nI (i0 + 1))), (3, .int (nI (m0 + 2))), (6, .int (nI (g 3 (4 * (0 + i0) + 2)))), (5, .int (nI (16 + (m0 + 1)))), (0, .ref (ad 0)), (1, .int (nI fe)), (2, .int (nI 0))]) hx hb dX5_lay_152 hl (k := 6) rfl (by rw [show Int32.ofInt 1 = nI 1 from by decide, nI_add]) (by decide) rfl (fun ls hl => ?_)
                  refine lv_goto (tgt := 12) hx hb dX5_lay_155 (by decide) ?_
                  exact ihh0 (i0 + 1) (m0 + 2) (upN (upN s0 (16 + m0) 4) (16 + (m0 + 1)) ((upN s0 (16 + m0) 4) (0 + i0))) (cp4 n0 (0 + i0) (16 + (m0 + 1))) (by omega) ((lay_mA hm0 c31_17 (by omega) (by omega)).2) (lay_copy0 (h := 0) (by decide) (by omega) h7 hmf hLPf (lay_x0 (Or.inr (Or.inr (Or.inr c131_27))))) (fun j => ⟨bnd_s (bnd_u (fun j => (hbd0 j).1) (by decide)) j, (bnd_c (fun j => (hbd0 j).2)) j⟩) (by omega) _ _ hP hD hS _ (lv_sub hl [4, 5, 6, 1, 0] rfl)
                · have c131_27 : fe / 8 = 0 := (nI_eqG (a := fe / 8) (b := 0) (by omega) (by omega)).mp c131_27
                  refine lv_aload_n hx hb dX5_lay_134 rfl (lv_at hl 3 rfl) ?_
                  refine va_get (D := D) (ci := 5) (v := .ref (ad 3)) (C := RX5) (T := TX5) (N := 23) hx hb hU iX5 hown hK hP 0 rfl rfl 2 (by decide) (hU _ mU_77) (fun _ h9 => h9) rfl dX5_lay_135 ?_
                  refine lv_iconst (v := nI 4) hx hb dX5_lay_138 (by decide) ?_
                  refine lv_iload hx hb dX5_lay_139 (lv_at hl 1 rfl) ?_
                  refine lv_imul hx hb dX5_lay_141 ?_
                  refine lv_topE (nI (4 * (16 + (m0 + 1)))) (pk_mul _ _) ?_
                  refine lv_iconst (v := nI 2) hx hb dX5_lay_142 (by decide) ?_
                  refine lv_iadd hx hb dX5_lay_143 ?_
                  refine lv_topE (nI ((4 * (16 + (m0 + 1))) + 2)) (nI_add _ _) ?_
                  refine lv_iload hx hb dX5_lay_144 (lv_at hl 0 rfl) ?_
                  refine lv_iconst (v := nI 1) hx hb dX5_lay_146 (by decide) ?_
                  refine lv_iadd hx hb dX5_lay_147 ?_
                  refine lv_topE (nI ((g 3 (4 * (0 + i0) + 2)) + 1)) (nI_add _ _) ?_
                  refine n_iast hx hb hK hP hD hS 3 2 rfl rfl (i := (4 * (16 + (m0 + 1))) + 2) (v := (g 3 (4 * (0 + i0) + 2)) + 1) (by omega) (by decide) dX5_lay_148 (fun H locs hP hD hS => ?_)
                  have hP : va_P D vwCl [(ad 0, .inr (5, [.ref (ad 1), .ref (ad 2), .ref (ad 3), .ref (ad 4), .ref (ad 5), .int (nI (f 5)), .ref (ad 6), .int (nI (f 7)), .int (nI (f 8)), .int (nI (f 9)), .int (nI (f 10)), .int (nI (f 11)), .int (nI (f 12)), .int (nI (f 13)), .ref (ad 7), .ref (ad 8), .ref (ad 9), .ref (ad 10), .ref (ad 11), .int (nI (f 19)), .int (nI (f 20)), .int (nI (f 21)), .ref (ad 12)])), (ad 1, .inl (ka 1, 5, .inl (nA (g 1)))), (ad 2, .inl (ka 2, 40, .inl (nA (upN (upN s0 (16 + m0) 4) (16 + (m0 + 1)) ((upN s0 (16 + m0) 4) (0 + i0)))))), (ad 3, .inl (ka 3, 160, .inl (nA (upN (cp4 n0 (0 + i0) (16 + (m0 + 1))) ((4 * (16 + (m0 + 1))) + 2) ((g 3 (4 * (0 + i0) + 2)) + 1))))), (ad 4, .inl (ka 4, 4, .inl (nA (g 4)))), (ad 5, .inl (ka 5, 4, .inl (nA (g 5)))), (ad 6, .inl (ka 6, 200, .inl (nA (g 6)))), (ad 7, .inl (ka 7, 12001, .inr (.inl (lA t)))), (ad 8, .inl (ka 8, 12001, .inl (nA (g 8)))), (ad 9, .inl (ka 9, 12001, .inl (nA (g 9)))), (ad 10, .inl (ka 10, 12001, .inl (nA (g 10)))), (ad 11, .inl (ka 11, 32768, .inl (nA (g 11)))), (ad 12, .inl (ka 12, 64, .inl (nA (g 12))))] H := hP
                  have hD : va_D Ar [(ad 0, .inr (5, [.ref (ad 1), .ref (ad 2), .ref (ad 3), .ref (ad 4), .ref (ad 5), .int (nI (f 5)), .ref (ad 6), .int (nI (f 7)), .int (nI (f 8)), .int (nI (f 9)), .int (nI (f 10)), .int (nI (f 11)), .int (nI (f 12)), .int (nI (f 13)), .ref (ad 7), .ref (ad 8), .ref (ad 9), .ref (ad 10), .ref (ad 11), .int (nI (f 19)), .int (nI (f 20)), .int (nI (f 21)), .ref (ad 12)])), (ad 1, .inl (ka 1, 5, .inl (nA (g 1)))), (ad 2, .inl (ka 2, 40, .inl (nA (upN (upN s0 (16 + m0) 4) (16 + (m0 + 1)) ((upN s0 (16 + m0) 4) (0 + i0)))))), (ad 3, .inl (ka 3, 160, .inl (nA (upN (cp4 n0 (0 + i0) (16 + (m0 + 1))) ((4 * (16 + (m0 + 1))) + 2) ((g 3 (4 * (0 + i0) + 2)) + 1))))), (ad 4, .inl (ka 4, 4, .inl (nA (g 4)))), (ad 5, .inl (ka 5, 4, .inl (nA (g 5)))), (ad 6, .inl (ka 6, 200, .inl (nA (g 6)))), (ad 7, .inl (ka 7, 12001, .inr (.inl (lA t)))), (ad 8, .inl (ka 8, 12001, .inl (nA (g 8)))), (ad 9, .inl (ka 9, 12001, .inl (nA (g 9)))), (ad 10, .inl (ka 10, 12001, .inl (nA (g 10)))), (ad 11, .inl (ka 11, 32768, .inl (nA (g 11)))), (ad 12, .inl (ka 12, 64, .inl (nA (g 12))))] := hD
                  refine lv_iinc (v := nI (m0 + 2)) (lv' := [(3, .int (nI (m0 + 2))), (6, .int (nI (g 3 (4 * (0 + i0) + 2)))), (5, .int (nI (16 + (m0 + 1)))), (0, .ref (ad 0)), (1, .int (nI fe)), (2, .int (nI 0)), (4, .int (nI i0))]) hx hb dX5_lay_149 hl (k := 2) rfl (by rw [show Int32.ofInt 1 = nI 1 from by decide, nI_add]) (by decide) rfl (fun ls hl => ?_)
                  refine lv_iinc (v := nI (i0 + 1)) (lv' := [(4, .int (nI (i0 + 1))), (3, .int (nI (m0 + 2))), (6, .int (nI (g 3 (4 * (0 + i0) + 2)))), (5, .int (nI (16 + (m0 + 1)))), (0, .ref (ad 0)), (1, .int (nI fe)), (2, .int (nI 0))]) hx hb dX5_lay_152 hl (k := 6) rfl (by rw [show Int32.ofInt 1 = nI 1 from by decide, nI_add]) (by decide) rfl (fun ls hl => ?_)
                  refine lv_goto (tgt := 12) hx hb dX5_lay_155 (by decide) ?_
                  exact ihh0 (i0 + 1) (m0 + 2) (upN (upN s0 (16 + m0) 4) (16 + (m0 + 1)) ((upN s0 (16 + m0) 4) (0 + i0))) (upN (cp4 n0 (0 + i0) (16 + (m0 + 1))) ((4 * (16 + (m0 + 1))) + 2) ((g 3 (4 * (0 + i0) + 2)) + 1)) (by omega) ((lay_mA hm0 c31_17 (by omega) (by omega)).2) (lay_copy1 (h := 0) (by decide) (by omega) h7 hmf hLPf (lay_x1 c98_24 (by omega) (show fe ≤ 0 + i0 + g 3 (4 * (0 + i0) + 2) from by omega) c131_27 (by decide) hfe)) (fun j => ⟨bnd_s (bnd_u (fun j => (hbd0 j).1) (by decide)) j, (bnd_u (bnd_c (fun j => (hbd0 j).2)) (by omega)) j⟩) (by omega) _ _ hP hD hS _ (lv_sub hl [4, 5, 6, 1, 0] rfl)
  exact Lh0_31 ((g 1 0 - 0) + 1) 0 0 (g 2) (g 3) (Nat.zero_le _) ((if_neg (fun q => absurd q.2 (Nat.not_lt_zero _))).symm) (⟨fun j hj => rfl, fun j hj => rfl, fun h hh => absurd hh (Nat.not_lt_zero _), fun j hj => absurd hj (Nat.not_lt_zero _)⟩) (fun j => ⟨hg 2 (by decide) j, hg 3 (by decide) j⟩) (Nat.lt_succ_self _) _ _ hP hD hS _ (lv_sub hl [3, 4, 2, 1, 0] rfl)

/-! PURE: a program with a fence more, as the class lays it -/
abbrev p2W (pa0 pb0 pc0 : Nat) (kb0 kc0 : ClassId) (n0 : Nat) (so0 nu0 : Nat → Nat) (pa1 pb1 pc1 : Nat) (kb1 kc1 : ClassId) (n1 : Nat) (so1 nu1 : Nat → Nat) : va_W := [(pa0, .inr (1, [.int (nI n0), .ref pb0, .ref pc0])), (pb0, .inl (kb0, 8, .inl (nA so0))), (pc0, .inl (kc0, 32, .inl (nA nu0))), (pa1, .inr (1, [.int (nI n1), .ref pb1, .ref pc1])), (pb1, .inl (kb1, 8, .inl (nA so1))), (pc1, .inl (kc1, 32, .inl (nA nu1)))]
abbrev p2T (kb0 kc0 kb1 kc1 : ClassId) : List (ClassId × FieldType) := [(kb0, .int), (kc0, .int), (kb1, .int), (kc1, .int)]
def cpC (nu nu1 : Nat → Nat) (i j : Nat) : Nat → Nat := upN (upN (upN (upN nu (j * 4 + 0) (nu1 (i * 4 + 0))) (j * 4 + 1) (nu1 (i * 4 + 1))) (j * 4 + 2) (nu1 (i * 4 + 2))) (j * 4 + 3) (nu1 (i * 4 + 3))
theorem cpC_in {nu nu1 : Nat → Nat} {i j w : Nat} (hw : w < 4) : cpC nu nu1 i j (j * 4 + w) = nu1 (i * 4 + w) := by
  unfold cpC
  rcases (show w = 0 ∨ w = 1 ∨ w = 2 ∨ w = 3 by omega) with rfl | rfl | rfl | rfl
  · rw [upN_n (by omega), upN_n (by omega), upN_n (by omega), upN_s]
  · rw [upN_n (by omega), upN_n (by omega), upN_s]
  · rw [upN_n (by omega), upN_s]
  · rw [upN_s]
theorem cpC_out {nu nu1 : Nat → Nat} {i j k w : Nat} (hk : k ≠ j) (hw : w < 4) : cpC nu nu1 i j (k * 4 + w) = nu (k * 4 + w) := by
  unfold cpC
  rw [upN_n (by omega), upN_n (by omega), upN_n (by omega), upN_n (by omega)]
theorem up_lt {f : Nat → Nat} {k v b : Nat} (hf : ∀ j, f j < b) (hv : v < b) : ∀ j, upN f k v j < b := fun j => by
  by_cases e : j = k
  · rw [e, upN_s]; exact hv
  · rw [upN_n e]; exact hf j
theorem cpC_lt {nu nu1 : Nat → Nat} {i j b : Nat} (h : ∀ j, nu j < b) (h1 : ∀ j, nu1 j < b) : ∀ k, cpC nu nu1 i j k < b := up_lt (up_lt (up_lt (up_lt h (h1 _)) (h1 _)) (h1 _)) (h1 _)
def fenI (at_ j : Nat) : Nat := if j < at_ then j else j - 1
def fenS (so1 : Nat → Nat) (at_ j : Nat) : Nat := if j = at_ then 4 else so1 (fenI at_ j)
def fenN (so1 nu1 : Nat → Nat) (at_ j w : Nat) : Nat := if so1 (fenI at_ j) = 8 ∧ w = 2 ∧ j < at_ ∧ at_ ≤ j + nu1 (j * 4 + 2) then nu1 (j * 4 + 2) + 1 else nu1 (fenI at_ j * 4 + w)
theorem fenI_lt {at_ j : Nat} (h : j < at_) : fenI at_ j = j := if_pos h
theorem fenS_lt {so1 : Nat → Nat} {at_ j : Nat} (h : j < at_) : fenS so1 at_ j = so1 j := by unfold fenS; rw [if_neg (by omega), fenI_lt h]
theorem fen_s1 {ss so1 : Nat → Nat} {at_ i : Nat} (h : ∀ j, j < i → ss j = fenS so1 at_ j) (e : i = at_) : ∀ j, j < i + 1 → upN ss i 4 j = fenS so1 at_ j := fun j hj => by
  by_cases q : j = i
  · rw [q, upN_s]; unfold fenS; rw [if_pos e]
  · rw [upN_n q]; exact h j (by omega)
theorem fen_s2 {ss so1 : Nat → Nat} {at_ i : Nat} (h : ∀ j, j < i → ss j = fenS so1 at_ j) (e : ¬ at_ ≤ i) : ∀ j, j < i + 1 → upN ss i (so1 i) j = fenS so1 at_ j := fun j hj => by
  by_cases q : j = i
  · rw [q, upN_s, fenS_lt (by omega)]
  · rw [upN_n q]; exact h j (by omega)
theorem fen_s3 {ss so1 : Nat → Nat} {at_ i : Nat} (h : ∀ j, j < i → ss j = fenS so1 at_ j) (n : ¬ i = at_) (e : at_ ≤ i) : ∀ j, j < i + 1 → upN ss i (so1 (i - 1)) j = fenS so1 at_ j := fun j hj => by
  by_cases q : j = i
  · rw [q, upN_s]; unfold fenS fenI; rw [if_neg n, if_neg (by omega)]
  · rw [upN_n q]; exact h j (by omega)
theorem fen_n1 {nn nu1 : Nat → Nat} {at_ i : Nat} (h : ∀ j, j < i → j ≠ at_ → ∀ w, w < 4 → nn (j * 4 + w) = nu1 (fenI at_ j * 4 + w)) (e : i = at_) : ∀ j, j < i + 1 → j ≠ at_ → ∀ w, w < 4 → nn (j * 4 + w) = nu1 (fenI at_ j * 4 + w) := fun j hj hn => h j (by omega) hn
theorem fen_n2 {nn nu1 : Nat → Nat} {at_ i : Nat} (h : ∀ j, j < i → j ≠ at_ → ∀ w, w < 4 → nn (j * 4 + w) = nu1 (fenI at_ j * 4 + w)) (e : ¬ at_ ≤ i) : ∀ j, j < i + 1 → j ≠ at_ → ∀ w, w < 4 → cpC nn nu1 i i (j * 4 + w) = nu1 (fenI at_ j * 4 + w) := fun j hj hn w hw => by
  by_cases q : j = i
  · rw [q, cpC_in hw, fenI_lt (by omega)]
  · rw [cpC_out q hw]; exact h j (by omega) hn w hw
theorem fen_n3 {nn nu1 : Nat → Nat} {at_ i : Nat} (h : ∀ j, j < i → j ≠ at_ → ∀ w, w < 4 → nn (j * 4 + w) = nu1 (fenI at_ j * 4 + w)) (e : at_ ≤ i) : ∀ j, j < i + 1 → j ≠ at_ → ∀ w, w < 4 → cpC nn nu1 (i - 1) i (j * 4 + w) = nu1 (fenI at_ j * 4 + w) := fun j hj hn w hw => by
  by_cases q : j = i
  · rw [q, cpC_in hw]; unfold fenI; rw [if_neg (by omega)]
  · rw [cpC_out q hw]; exact h j (by omega) hn w hw
theorem fen_keep {n2 so1 nu1 : Nat → Nat} {n at_ i v : Nat} (h : ∀ j, j < n → j ≠ at_ → ∀ w, w < 4 → n2 (j * 4 + w) = if j < i then fenN so1 nu1 at_ j w else nu1 (fenI at_ j * 4 + w)) (hi : i < at_) (hs : v = fenS so1 at_ i) (hq : ¬ (v = 8 ∧ at_ ≤ i + n2 (i * 4 + 2))) : ∀ j, j < n → j ≠ at_ → ∀ w, w < 4 → n2 (j * 4 + w) = if j < i + 1 then fenN so1 nu1 at_ j w else nu1 (fenI at_ j * 4 + w) := fun j hj hn w hw => by
  rw [h j hj hn w hw]
  by_cases q : j = i
  · subst q
    have h2 := h j hj hn 2 (by decide)
    rw [if_neg (Nat.lt_irrefl j), fenI_lt hi] at h2
    rw [if_neg (Nat.lt_irrefl j), if_pos (Nat.lt_succ_self j)]
    unfold fenN
    rw [if_neg (fun z => hq ⟨by rw [hs, fenS_lt hi, ← fenI_lt hi]; exact z.1, by rw [h2]; exact z.2.2.2⟩)]
  · by_cases z : j < i
    · rw [if_pos z, if_pos (by omega)]
    · rw [if_neg z, if_neg (by omega)]
theorem fen_more {n2 so1 nu1 : Nat → Nat} {n at_ i : Nat} (h : ∀ j, j < n → j ≠ at_ → ∀ w, w < 4 → n2 (j * 4 + w) = if j < i then fenN so1 nu1 at_ j w else nu1 (fenI at_ j * 4 + w)) (hi : i < at_) (hin : i < n) (hs : fenS so1 at_ i = 8) (hq : at_ ≤ i + n2 (i * 4 + 2)) : ∀ j, j < n → j ≠ at_ → ∀ w, w < 4 → upN n2 (i * 4 + 2) (n2 (i * 4 + 2) + 1) (j * 4 + w) = if j < i + 1 then fenN so1 nu1 at_ j w else nu1 (fenI at_ j * 4 + w) := fun j hj hn w hw => by
  have h2 := h i hin (by omega) 2 (by decide)
  rw [if_neg (Nat.lt_irrefl i), fenI_lt hi] at h2
  rw [fenS_lt hi] at hs
  by_cases q : j = i
  · subst q
    rw [if_pos (Nat.lt_succ_self j)]
    unfold fenN
    rw [fenI_lt hi]
    by_cases z : w = 2
    · subst z; rw [upN_s, if_pos ⟨hs, rfl, hi, by omega⟩, h2]
    · rw [upN_n (by omega), if_neg (fun y => z y.2.1), h j hj hn w hw, if_neg (Nat.lt_irrefl j), fenI_lt hi]
  · rw [upN_n (by omega), h j hj hn w hw]
    by_cases z : j < i
    · rw [if_pos z, if_pos (by omega)]
    · rw [if_neg z, if_neg (by omega)]
theorem fen_fin {so1 nu1 : Nat → Nat} {at_ i j w : Nat} (hi : at_ ≤ i) (hn : j ≠ at_) : (if j < i then fenN so1 nu1 at_ j w else nu1 (fenI at_ j * 4 + w)) = fenN so1 nu1 at_ j w := by
  by_cases q : j < i
  · rw [if_pos q]
  · rw [if_neg q]; unfold fenN; rw [if_neg (fun z => absurd z.2.2.1 (by omega))]
set_option maxHeartbeats 4000000 in
set_option maxRecDepth 100000 in
theorem c_X1_copy (l : Launch) (D : va_G) (pa0 pb0 pc0 : Nat) (kb0 kc0 : ClassId) (n0 : Nat) (so0 nu0 : Nat → Nat) (pa1 pb1 pc1 : Nat) (kb1 kc1 : ClassId) (n1 : Nat) (so1 nu1 : Nat → Nat) (sz : Nat) (i : Nat) (j : Nat) (hi : i < 8) (hj : j < 8) : Met l yX1_copy (.code yX1_copy cX1_copy 5 none :: wsL_law) ({ frames := 1, cells := 0, slots := 0, locals := 23 }) (va_Pc [.ref pa0, .ref pa1, .int (nI i), .int (nI j)] (PW D (p2W pa0 pb0 pc0 kb0 kc0 n0 so0 nu0 pa1 pb1 pc1 kb1 kc1 n1 so1 nu1) (p2T kb0 kc0 kb1 kc1) sz)) (va_Qv (fun u : PSt => u = (n0, upN so0 j (so1 i), cpC nu0 nu1 i j)) (QW D (fun u : PSt => p2W pa0 pb0 pc0 kb0 kc0 u.1 u.2.1 u.2.2 pa1 pb1 pc1 kb1 kc1 n1 so1 nu1) (fun _ => p2T kb0 kc0 kb1 kc1) (va_A (p2W pa0 pb0 pc0 kb0 kc0 n0 so0 nu0 pa1 pb1 pc1 kb1 kc1 n1 so1 nu1) sz)) (va_A (p2W pa0 pb0 pc0 kb0 kc0 n0 so0 nu0 pa1 pb1 pc1 kb1 kc1 n1 so1 nu1) sz)) 0 0 (va_A (p2W pa0 pb0 pc0 kb0 kc0 n0 so0 nu0 pa1 pb1 pc1 kb1 kc1 n1 so1 nu1) sz) := by
  refine Met.ofW (cc := cX1_copy) (maxL := 5) (ret := none) (by decide) rfl ?_
  intro p e s m args below meth c s₁ B hml hv
  obtain ⟨rfl, hsz, hP, hK, hD0⟩ := hv
  have hx := B.exec
  have hb := B.bytes
  have hr := B.returns
  have hts := atoms_spec (ws := .code yX1_copy cX1_copy 5 none :: wsL_law) B.pre
  have hU : ∀ w ∈ wsL_law, w.before _ s = true := fun w h => hts w (List.mem_cons_of_mem _ h)
  have hown : s.vm.findClass RX1 = some m.cls := findClass_of_methodNamed B.named
  have hlocks := B.notSynchronized
  subst hsz
  have hD := hD0.self (sz := s.heap.size)
  generalize hAe : va_A (p2W pa0 pb0 pc0 kb0 kc0 n0 so0 nu0 pa1 pb1 pc1 kb1 kc1 n1 so1 nu1) s.heap.size = Ar at hD ⊢
  have hA : ∀ q : Nat, s.heap.size ≤ q → Ar q := fun q h => by rw [← hAe]; exact Or.inr h
  have hS : va_S Ar s.heap s.heap [] := va_S.rf
  have hP : va_P D vwCl [(pa0, .inr (1, [.int (nI n0), .ref pb0, .ref pc0])), (pb0, .inl (kb0, 8, .inl (nA so0))), (pc0, .inl (kc0, 32, .inl (nA nu0))), (pa1, .inr (1, [.int (nI n1), .ref pb1, .ref pc1])), (pb1, .inl (kb1, 8, .inl (nA so1))), (pc1, .inl (kc1, 32, .inl (nA nu1)))] s.heap := hP
  have hD : va_D Ar [(pa0, .inr (1, [.int (nI n0), .ref pb0, .ref pc0])), (pb0, .inl (kb0, 8, .inl (nA so0))), (pc0, .inl (kc0, 32, .inl (nA nu0))), (pa1, .inr (1, [.int (nI n1), .ref pb1, .ref pc1])), (pb1, .inl (kb1, 8, .inl (nA so1))), (pc1, .inl (kc1, 32, .inl (nA nu1)))] := hD
  generalize hQ : MQ _ _ _ _ _ _ _ = Q
  have hl := lv_entry ([.ref pa0, .ref pa1, .int (nI i), .int (nI j)]) (n := 5) (Nat.le_of_ble_eq_true rfl)
  rw [lg_entry_eq]
  generalize (lg_sl ([.ref pa0, .ref pa1, .int (nI i), .int (nI j)]) ++ List.replicate (5 - (lg_sl ([.ref pa0, .ref pa1, .int (nI i), .int (nI j)])).length) Slot.unset).toArray = ls at hl ⊢
  have hl : lv_has ls 5 [(0, .ref pa0), (1, .ref pa1), (2, .int (nI i)), (3, .int (nI j))] := hl
  refine lv_aload_n hx hb dX1_copy_0 rfl (lv_at hl 0 rfl) ?_
  refine va_get (D := D) (ci := 1) (v := .ref pb0) (C := RX1) (T := TX1) (N := 3) hx hb hU iX1 hown hK hP 0 rfl rfl 1 (by decide) (hU _ mU_48) (fun _ h9 => h9) rfl dX1_copy_1 ?_
  refine lv_iload_n hx hb dX1_copy_4 rfl (lv_at hl 3 rfl) ?_
  refine lv_aload_n hx hb dX1_copy_5 rfl (lv_at hl 1 rfl) ?_
  refine va_get (D := D) (ci := 1) (v := .ref pb1) (C := RX1) (T := TX1) (N := 3) hx hb hU iX1 hown hK hP 3 rfl rfl 1 (by decide) (hU _ mU_48) (fun _ h9 => h9) rfl dX1_copy_6 ?_
  refine lv_iload_n hx hb dX1_copy_9 rfl (lv_at hl 2 rfl) ?_
  refine n_iald hx hb hK hP 4 2 rfl rfl (i := i) (by omega) (by decide) dX1_copy_10 ?_
  refine n_iast hx hb hK hP hD hS 1 0 rfl rfl (i := j) (v := so1 i) (by omega) (by decide) dX1_copy_11 (fun H locs hP hD hS => ?_)
  have hP : va_P D vwCl [(pa0, .inr (1, [.int (nI n0), .ref pb0, .ref pc0])), (pb0, .inl (kb0, 8, .inl (nA (upN so0 j (so1 i))))), (pc0, .inl (kc0, 32, .inl (nA nu0))), (pa1, .inr (1, [.int (nI n1), .ref pb1, .ref pc1])), (pb1, .inl (kb1, 8, .inl (nA so1))), (pc1, .inl (kc1, 32, .inl (nA nu1)))] H := hP
  have hD : va_D Ar [(pa0, .inr (1, [.int (nI n0), .ref pb0, .ref pc0])), (pb0, .inl (kb0, 8, .inl (nA (upN so0 j (so1 i))))), (pc0, .inl (kc0, 32, .inl (nA nu0))), (pa1, .inr (1, [.int (nI n1), .ref pb1, .ref pc1])), (pb1, .inl (kb1, 8, .inl (nA so1))), (pc1, .inl (kc1, 32, .inl (nA nu1)))] := hD
  refine lv_iconst (v := nI 0) hx hb dX1_copy_12 (by decide) ?_
  refine lv_istore (lv' := [(4, .int (nI 0)), (0, .ref pa0), (1, .ref pa1), (2, .int (nI i)), (3, .int (nI j))]) hx hb dX1_copy_13 hl (by decide) rfl (fun ls hl => ?_)
  refine lv_iload hx hb dX1_copy_15 (lv_at hl 0 rfl) ?_
  refine lv_iconst (v := nI 4) hx hb dX1_copy_17 (by decide) ?_
  refine lv_icmp_ge (tgt := 41) hx hb dX1_copy_18 (by decide) (fun c18_1 => by first | exact absurd c18_1 (by decide) | exact absurd (by decide) c18_1) (fun c18_1 => ?_)
  refine lv_aload_n hx hb dX1_copy_21 rfl (lv_at hl 1 rfl) ?_
  refine lv_iload_n hx hb dX1_copy_22 rfl (lv_at hl 4 rfl) ?_
  refine lv_iload hx hb dX1_copy_23 (lv_at hl 0 rfl) ?_
  refine lv_aload_n hx hb dX1_copy_25 rfl (lv_at hl 2 rfl) ?_
  refine lv_iload_n hx hb dX1_copy_26 rfl (lv_at hl 3 rfl) ?_
  refine lv_iload hx hb dX1_copy_27 (lv_at hl 0 rfl) ?_
  have hPc := hP.sub (ws' := [(pa1, .inr (1, [.int (nI n1), .ref pb1, .ref pc1])), (pb1, .inl (kb1, 8, .inl (nA so1))), (pc1, .inl (kc1, 32, .inl (nA nu1)))]) [3, 4, 5] rfl
  have hKc := hK.sub (tys' := [(kb1, .int), (kc1, .int)]) [2, 3] rfl
  refine cVi (As := [.int (nI i), .int (nI 0)]) (rest := [.int (nI 0), .int (nI j), .ref pa0]) ⟨hx, hb, hml, hown, hts⟩ (c_X1_number l D pa1 pb1 pc1 kb1 kc1 n1 so1 nu1 i 0 (by omega)) (cwV 2 hts (gV mU_431 mU_417 mU_418 mU_22 mU_419) rfl rfl rfl (by decide +kernel) ⟨Nat.le_of_ble_eq_true rfl, Nat.le_of_ble_eq_true rfl⟩) fbR (va_recv hK hP (ci := 1) (q0 := 3) rfl rfl) (PR.of hPc hKc) rfl hl.1 rfl (Nat.le_of_ble_eq_true rfl) dX1_copy_29 ⟨Nat.zero_le _, Nat.zero_le _⟩ ?_
  refine kVv (As := [.int (nI j), .int (nI 0), .int (nI (nu1 (i * 4 + 0)))]) (rest := []) (wr := [(pa1, .inr (1, [.int (nI n1), .ref pb1, .ref pc1])), (pb1, .inl (kb1, 8, .inl (nA so1))), (pc1, .inl (kc1, 32, .inl (nA nu1)))]) ⟨hx, hb, hml, hown, hts⟩ (c_X1_setNumber l D pa0 pb0 pc0 kb0 kc0 n0 (upN so0 j (so1 i)) nu0 H.size j 0 (nu1 (i * 4 + 0)) (by omega)) (cwV 3 hts (gV mU_643 mU_236 mU_237 mU_22 mU_238) rfl rfl rfl (by decide +kernel) ⟨Nat.le_of_ble_eq_true rfl, Nat.le_of_ble_eq_true rfl⟩) (va_recv hK hP (ci := 1) (q0 := 0) rfl rfl) hP hK hD hS hA [0, 1, 2] [3, 4, 5] [0, 1] [2, 3] rfl rfl rfl rfl (by decide) rfl rfl rfl hl.1 rfl (Nat.le_of_ble_eq_true rfl) dX1_copy_32 ⟨by decide, by decide⟩ (fun u H locs hw hP hD hK hS => ?_)
  subst hw
  have hP := hP.sub (ws' := [(pa0, .inr (1, [.int (nI n0), .ref pb0, .ref pc0])), (pb0, .inl (kb0, 8, .inl (nA (upN so0 j (so1 i))))), (pc0, .inl (kc0, 32, .inl (nA (upN nu0 (j * 4 + 0) (nu1 (i * 4 + 0)))))), (pa1, .inr (1, [.int (nI n1), .ref pb1, .ref pc1])), (pb1, .inl (kb1, 8, .inl (nA so1))), (pc1, .inl (kc1, 32, .inl (nA nu1)))]) [3, 4, 5, 0, 1, 2] rfl
  have hD := hD.sub (ws' := [(pa0, .inr (1, [.int (nI n0), .ref pb0, .ref pc0])), (pb0, .inl (kb0, 8, .inl (nA (upN so0 j (so1 i))))), (pc0, .inl (kc0, 32, .inl (nA (upN nu0 (j * 4 + 0) (nu1 (i * 4 + 0)))))), (pa1, .inr (1, [.int (nI n1), .ref pb1, .ref pc1])), (pb1, .inl (kb1, 8, .inl (nA so1))), (pc1, .inl (kc1, 32, .inl (nA nu1)))]) [3, 4, 5, 0, 1, 2] rfl rfl
  have hK : va_K D vwCl [(kb0, .int), (kc0, .int), (kb1, .int), (kc1, .int)] s := hK.sub [2, 3, 0, 1] rfl
  refine lv_iinc (v := nI 1) (lv' := [(4, .int (nI 1)), (0, .ref pa0), (1, .ref pa1), (2, .int (nI i)), (3, .int (nI j))]) hx hb dX1_copy_35 hl (k := 0) rfl (by decide) (by decide) rfl (fun ls hl => ?_)
  refine lv_goto (tgt := 15) hx hb dX1_copy_38 (by decide) ?_
  refine lv_iload hx hb dX1_copy_15 (lv_at hl 0 rfl) ?_
  refine lv_iconst (v := nI 4) hx hb dX1_copy_17 (by decide) ?_
  refine lv_icmp_ge (tgt := 41) hx hb dX1_copy_18 (by decide) (fun c18_3 => by first | exact absurd c18_3 (by decide) | exact absurd (by decide) c18_3) (fun c18_3 => ?_)
  refine lv_aload_n hx hb dX1_copy_21 rfl (lv_at hl 1 rfl) ?_
  refine lv_iload_n hx hb dX1_copy_22 rfl (lv_at hl 4 rfl) ?_
  refine lv_iload hx hb dX1_copy_23 (lv_at hl 0 rfl) ?_
  refine lv_aload_n hx hb dX1_copy_25 rfl (lv_at hl 2 rfl) ?_
  refine lv_iload_n hx hb dX1_copy_26 rfl (lv_at hl 3 rfl) ?_
  refine lv_iload hx hb dX1_copy_27 (lv_at hl 0 rfl) ?_
  have hPc := hP.sub (ws' := [(pa1, .inr (1, [.int (nI n1), .ref pb1, .ref pc1])), (pb1, .inl (kb1, 8, .inl (nA so1))), (pc1, .inl (kc1, 32, .inl (nA nu1)))]) [3, 4, 5] rfl
  have hKc := hK.sub (tys' := [(kb1, .int), (kc1, .int)]) [2, 3] rfl
  refine cVi (As := [.int (nI i), .int (nI 1)]) (rest := [.int (nI 1), .int (nI j), .ref pa0]) ⟨hx, hb, hml, hown, hts⟩ (c_X1_number l D pa1 pb1 pc1 kb1 kc1 n1 so1 nu1 i 1 (by omega)) (cwV 2 hts (gV mU_431 mU_417 mU_418 mU_22 mU_419) rfl rfl rfl (by decide +kernel) ⟨Nat.le_of_ble_eq_true rfl, Nat.le_of_ble_eq_true rfl⟩) fbR (va_recv hK hP (ci := 1) (q0 := 3) rfl rfl) (PR.of hPc hKc) rfl hl.1 rfl (Nat.le_of_ble_eq_true rfl) dX1_copy_29 ⟨Nat.zero_le _, Nat.zero_le _⟩ ?_
  refine kVv (As := [.int (nI j), .int (nI 1), .int (nI (nu1 (i * 4 + 1)))]) (rest := []) (wr := [(pa1, .inr (1, [.int (nI n1), .ref pb1, .ref pc1])), (pb1, .inl (kb1, 8, .inl (nA so1))), (pc1, .inl (kc1, 32, .inl (nA nu1)))]) ⟨hx, hb, hml, hown, hts⟩ (c_X1_setNumber l D pa0 pb0 pc0 kb0 kc0 n0 (upN so0 j (so1 i)) (upN nu0 (j * 4 + 0) (nu1 (i * 4 + 0))) H.size j 1 (nu1 (i * 4 + 1)) (by omega)) (cwV 3 hts (gV mU_643 mU_236 mU_237 mU_22 mU_238) rfl rfl rfl (by decide +kernel) ⟨Nat.le_of_ble_eq_true rfl, Nat.le_of_ble_eq_true rfl⟩) (va_recv hK hP (ci := 1) (q0 := 0) rfl rfl) hP hK hD hS hA [0, 1, 2] [3, 4, 5] [0, 1] [2, 3] rfl rfl rfl rfl (by decide) rfl rfl rfl hl.1 rfl (Nat.le_of_ble_eq_true rfl) dX1_copy_32 ⟨by decide, by decide⟩ (fun u H locs hw hP hD hK hS => ?_)
  subst hw
  have hP := hP.sub (ws' := [(pa0, .inr (1, [.int (nI n0), .ref pb0, .ref pc0])), (pb0, .inl (kb0, 8, .inl (nA (upN so0 j (so1 i))))), (pc0, .inl (kc0, 32, .inl (nA (upN (upN nu0 (j * 4 + 0) (nu1 (i * 4 + 0))) (j * 4 + 1) (nu1 (i * 4 + 1)))))), (pa1, .inr (1, [.int (nI n1), .ref pb1, .ref pc1])), (pb1, .inl (kb1, 8, .inl (nA so1))), (pc1, .inl (kc1, 32, .inl (nA nu1)))]) [3, 4, 5, 0, 1, 2] rfl
  have hD := hD.sub (ws' := [(pa0, .inr (1, [.int (nI n0), .ref pb0, .ref pc0])), (pb0, .inl (kb0, 8, .inl (nA (upN so0 j (so1 i))))), (pc0, .inl (kc0, 32, .inl (nA (upN (upN nu0 (j * 4 + 0) (nu1 (i * 4 + 0))) (j * 4 + 1) (nu1 (i * 4 + 1)))))), (pa1, .inr (1, [.int (nI n1), .ref pb1, .ref pc1])), (pb1, .inl (kb1, 8, .inl (nA so1))), (pc1, .inl (kc1, 32, .inl (nA nu1)))]) [3, 4, 5, 0, 1, 2] rfl rfl
  have hK : va_K D vwCl [(kb0, .int), (kc0, .int), (kb1, .int), (kc1, .int)] s := hK.sub [2, 3, 0, 1] rfl
  refine lv_iinc (v := nI 2) (lv' := [(4, .int (nI 2)), (0, .ref pa0), (1, .ref pa1), (2, .int (nI i)), (3, .int (nI j))]) hx hb dX1_copy_35 hl (k := 0) rfl (by decide) (by decide) rfl (fun ls hl => ?_)
  refine lv_goto (tgt := 15) hx hb dX1_copy_38 (by decide) ?_
  refine lv_iload hx hb dX1_copy_15 (lv_at hl 0 rfl) ?_
  refine lv_iconst (v := nI 4) hx hb dX1_copy_17 (by decide) ?_
  refine lv_icmp_ge (tgt := 41) hx hb dX1_copy_18 (by decide) (fun c18_5 => by first | exact absurd c18_5 (by decide) | exact absurd (by decide) c18_5) (fun c18_5 => ?_)
  refine lv_aload_n hx hb dX1_copy_21 rfl (lv_at hl 1 rfl) ?_
  refine lv_iload_n hx hb dX1_copy_22 rfl (lv_at hl 4 rfl) ?_
  refine lv_iload hx hb dX1_copy_23 (lv_at hl 0 rfl) ?_
  refine lv_aload_n hx hb dX1_copy_25 rfl (lv_at hl 2 rfl) ?_
  refine lv_iload_n hx hb dX1_copy_26 rfl (lv_at hl 3 rfl) ?_
  refine lv_iload hx hb dX1_copy_27 (lv_at hl 0 rfl) ?_
  have hPc := hP.sub (ws' := [(pa1, .inr (1, [.int (nI n1), .ref pb1, .ref pc1])), (pb1, .inl (kb1, 8, .inl (nA so1))), (pc1, .inl (kc1, 32, .inl (nA nu1)))]) [3, 4, 5] rfl
  have hKc := hK.sub (tys' := [(kb1, .int), (kc1, .int)]) [2, 3] rfl
  refine cVi (As := [.int (nI i), .int (nI 2)]) (rest := [.int (nI 2), .int (nI j), .ref pa0]) ⟨hx, hb, hml, hown, hts⟩ (c_X1_number l D pa1 pb1 pc1 kb1 kc1 n1 so1 nu1 i 2 (by omega)) (cwV 2 hts (gV mU_431 mU_417 mU_418 mU_22 mU_419) rfl rfl rfl (by decide +kernel) ⟨Nat.le_of_ble_eq_true rfl, Nat.le_of_ble_eq_true rfl⟩) fbR (va_recv hK hP (ci := 1) (q0 := 3) rfl rfl) (PR.of hPc hKc) rfl hl.1 rfl (Nat.le_of_ble_eq_true rfl) dX1_copy_29 ⟨Nat.zero_le _, Nat.zero_le _⟩ ?_
  refine kVv (As := [.int (nI j), .int (nI 2), .int (nI (nu1 (i * 4 + 2)))]) (rest := []) (wr := [(pa1, .inr (1, [.int (nI n1), .ref pb1, .ref pc1])), (pb1, .inl (kb1, 8, .inl (nA so1))), (pc1, .inl (kc1, 32, .inl (nA nu1)))]) ⟨hx, hb, hml, hown, hts⟩ (c_X1_setNumber l D pa0 pb0 pc0 kb0 kc0 n0 (upN so0 j (so1 i)) (upN (upN nu0 (j * 4 + 0) (nu1 (i * 4 + 0))) (j * 4 + 1) (nu1 (i * 4 + 1))) H.size j 2 (nu1 (i * 4 + 2)) (by omega)) (cwV 3 hts (gV mU_643 mU_236 mU_237 mU_22 mU_238) rfl rfl rfl (by decide +kernel) ⟨Nat.le_of_ble_eq_true rfl, Nat.le_of_ble_eq_true rfl⟩) (va_recv hK hP (ci := 1) (q0 := 0) rfl rfl) hP hK hD hS hA [0, 1, 2] [3, 4, 5] [0, 1] [2, 3] rfl rfl rfl rfl (by decide) rfl rfl rfl hl.1 rfl (Nat.le_of_ble_eq_true rfl) dX1_copy_32 ⟨by decide, by decide⟩ (fun u H locs hw hP hD hK hS => ?_)
  subst hw
  have hP := hP.sub (ws' := [(pa0, .inr (1, [.int (nI n0), .ref pb0, .ref pc0])), (pb0, .inl (kb0, 8, .inl (nA (upN so0 j (so1 i))))), (pc0, .inl (kc0, 32, .inl (nA (upN (upN (upN nu0 (j * 4 + 0) (nu1 (i * 4 + 0))) (j * 4 + 1) (nu1 (i * 4 + 1))) (j * 4 + 2) (nu1 (i * 4 + 2)))))), (pa1, .inr (1, [.int (nI n1), .ref pb1, .ref pc1])), (pb1, .inl (kb1, 8, .inl (nA so1))), (pc1, .inl (kc1, 32, .inl (nA nu1)))]) [3, 4, 5, 0, 1, 2] rfl
  have hD := hD.sub (ws' := [(pa0, .inr (1, [.int (nI n0), .ref pb0, .ref pc0])), (pb0, .inl (kb0, 8, .inl (nA (upN so0 j (so1 i))))), (pc0, .inl (kc0, 32, .inl (nA (upN (upN (upN nu0 (j * 4 + 0) (nu1 (i * 4 + 0))) (j * 4 + 1) (nu1 (i * 4 + 1))) (j * 4 + 2) (nu1 (i * 4 + 2)))))), (pa1, .inr (1, [.int (nI n1), .ref pb1, .ref pc1])), (pb1, .inl (kb1, 8, .inl (nA so1))), (pc1, .inl (kc1, 32, .inl (nA nu1)))]) [3, 4, 5, 0, 1, 2] rfl rfl
  have hK : va_K D vwCl [(kb0, .int), (kc0, .int), (kb1, .int), (kc1, .int)] s := hK.sub [2, 3, 0, 1] rfl
  refine lv_iinc (v := nI 3) (lv' := [(4, .int (nI 3)), (0, .ref pa0), (1, .ref pa1), (2, .int (nI i)), (3, .int (nI j))]) hx hb dX1_copy_35 hl (k := 0) rfl (by decide) (by decide) rfl (fun ls hl => ?_)
  refine lv_goto (tgt := 15) hx hb dX1_copy_38 (by decide) ?_
  refine lv_iload hx hb dX1_copy_15 (lv_at hl 0 rfl) ?_
  refine lv_iconst (v := nI 4) hx hb dX1_copy_17 (by decide) ?_
  refine lv_icmp_ge (tgt := 41) hx hb dX1_copy_18 (by decide) (fun c18_7 => by first | exact absurd c18_7 (by decide) | exact absurd (by decide) c18_7) (fun c18_7 => ?_)
  refine lv_aload_n hx hb dX1_copy_21 rfl (lv_at hl 1 rfl) ?_
  refine lv_iload_n hx hb dX1_copy_22 rfl (lv_at hl 4 rfl) ?_
  refine lv_iload hx hb dX1_copy_23 (lv_at hl 0 rfl) ?_
  refine lv_aload_n hx hb dX1_copy_25 rfl (lv_at hl 2 rfl) ?_
  refine lv_iload_n hx hb dX1_copy_26 rfl (lv_at hl 3 rfl) ?_
  refine lv_iload hx hb dX1_copy_27 (lv_at hl 0 rfl) ?_
  have hPc := hP.sub (ws' := [(pa1, .inr (1, [.int (nI n1), .ref pb1, .ref pc1])), (pb1, .inl (kb1, 8, .inl (nA so1))), (pc1, .inl (kc1, 32, .inl (nA nu1)))]) [3, 4, 5] rfl
  have hKc := hK.sub (tys' := [(kb1, .int), (kc1, .int)]) [2, 3] rfl
  refine cVi (As := [.int (nI i), .int (nI 3)]) (rest := [.int (nI 3), .int (nI j), .ref pa0]) ⟨hx, hb, hml, hown, hts⟩ (c_X1_number l D pa1 pb1 pc1 kb1 kc1 n1 so1 nu1 i 3 (by omega)) (cwV 2 hts (gV mU_431 mU_417 mU_418 mU_22 mU_419) rfl rfl rfl (by decide +kernel) ⟨Nat.le_of_ble_eq_true rfl, Nat.le_of_ble_eq_true rfl⟩) fbR (va_recv hK hP (ci := 1) (q0 := 3) rfl rfl) (PR.of hPc hKc) rfl hl.1 rfl (Nat.le_of_ble_eq_true rfl) dX1_copy_29 ⟨Nat.zero_le _, Nat.zero_le _⟩ ?_
  refine kVv (As := [.int (nI j), .int (nI 3), .int (nI (nu1 (i * 4 + 3)))]) (rest := []) (wr := [(pa1, .inr (1, [.int (nI n1), .ref pb1, .ref pc1])), (pb1, .inl (kb1, 8, .inl (nA so1))), (pc1, .inl (kc1, 32, .inl (nA nu1)))]) ⟨hx, hb, hml, hown, hts⟩ (c_X1_setNumber l D pa0 pb0 pc0 kb0 kc0 n0 (upN so0 j (so1 i)) (upN (upN (upN nu0 (j * 4 + 0) (nu1 (i * 4 + 0))) (j * 4 + 1) (nu1 (i * 4 + 1))) (j * 4 + 2) (nu1 (i * 4 + 2))) H.size j 3 (nu1 (i * 4 + 3)) (by omega)) (cwV 3 hts (gV mU_643 mU_236 mU_237 mU_22 mU_238) rfl rfl rfl (by decide +kernel) ⟨Nat.le_of_ble_eq_true rfl, Nat.le_of_ble_eq_true rfl⟩) (va_recv hK hP (ci := 1) (q0 := 0) rfl rfl) hP hK hD hS hA [0, 1, 2] [3, 4, 5] [0, 1] [2, 3] rfl rfl rfl rfl (by decide) rfl rfl rfl hl.1 rfl (Nat.le_of_ble_eq_true rfl) dX1_copy_32 ⟨by decide, by decide⟩ (fun u H locs hw hP hD hK hS => ?_)
  subst hw
  have hP := hP.sub (ws' := [(pa0, .inr (1, [.int (nI n0), .ref pb0, .ref pc0])), (pb0, .inl (kb0, 8, .inl (nA (upN so0 j (so1 i))))), (pc0, .inl (kc0, 32, .inl (nA (upN (upN (upN (upN nu0 (j * 4 + 0) (nu1 (i * 4 + 0))) (j * 4 + 1) (nu1 (i * 4 + 1))) (j * 4 + 2) (nu1 (i * 4 + 2))) (j * 4 + 3) (nu1 (i * 4 + 3)))))), (pa1, .inr (1, [.int (nI n1), .ref pb1, .ref pc1])), (pb1, .inl (kb1, 8, .inl (nA so1))), (pc1, .inl (kc1, 32, .inl (nA nu1)))]) [3, 4, 5, 0, 1, 2] rfl
  have hD := hD.sub (ws' := [(pa0, .inr (1, [.int (nI n0), .ref pb0, .ref pc0])), (pb0, .inl (kb0, 8, .inl (nA (upN so0 j (so1 i))))), (pc0, .inl (kc0, 32, .inl (nA (upN (upN (upN (upN nu0 (j * 4 + 0) (nu1 (i * 4 + 0))) (j * 4 + 1) (nu1 (i * 4 + 1))) (j * 4 + 2) (nu1 (i * 4 + 2))) (j * 4 + 3) (nu1 (i * 4 + 3)))))), (pa1, .inr (1, [.int (nI n1), .ref pb1, .ref pc1])), (pb1, .inl (kb1, 8, .inl (nA so1))), (pc1, .inl (kc1, 32, .inl (nA nu1)))]) [3, 4, 5, 0, 1, 2] rfl rfl
  have hK : va_K D vwCl [(kb0, .int), (kc0, .int), (kb1, .int), (kc1, .int)] s := hK.sub [2, 3, 0, 1] rfl
  refine lv_iinc (v := nI 4) (lv' := [(4, .int (nI 4)), (0, .ref pa0), (1, .ref pa1), (2, .int (nI i)), (3, .int (nI j))]) hx hb dX1_copy_35 hl (k := 0) rfl (by decide) (by decide) rfl (fun ls hl => ?_)
  refine lv_goto (tgt := 15) hx hb dX1_copy_38 (by decide) ?_
  refine lv_iload hx hb dX1_copy_15 (lv_at hl 0 rfl) ?_
  refine lv_iconst (v := nI 4) hx hb dX1_copy_17 (by decide) ?_
  refine lv_icmp_ge (tgt := 41) hx hb dX1_copy_18 (by decide) (fun c18_9 => ?_) (fun c18_9 => by first | exact absurd (by decide) c18_9 | exact absurd c18_9 (by decide))
  subst hQ
  exact rwv (n0, upN so0 j (so1 i), upN (upN (upN (upN nu0 (j * 4 + 0) (nu1 (i * 4 + 0))) (j * 4 + 1) (nu1 (i * 4 + 1))) (j * 4 + 2) (nu1 (i * 4 + 2))) (j * 4 + 3) (nu1 (i * 4 + 3))) hx hb hr hlocks (rfl) hP hK hD hS dX1_copy_41

set_option maxHeartbeats 4000000 in
set_option maxRecDepth 100000 in
theorem c_X1_becomeFenced (l : Launch) (D : va_G) (pa0 pb0 pc0 : Nat) (kb0 kc0 : ClassId) (n0 : Nat) (so0 nu0 : Nat → Nat) (pa1 pb1 pc1 : Nat) (kb1 kc1 : ClassId) (n1 : Nat) (so1 nu1 : Nat → Nat) (sz : Nat) (at_ : Nat) (hn1 : n1 ≤ 6) (hat : at_ < n1) (hso0 : ∀ j, so0 j < 2147483648) (hnu0 : ∀ j, nu0 j < 2147483648) (hso1 : ∀ j, so1 j < 2147483648) (hnu1 : ∀ j, nu1 j < 2147483648) (hif : ∀ i, i < n1 → so1 i = 8 → nu1 (i * 4 + 2) < 16) : Met l yX1_becomeFenced (.code yX1_becomeFenced cX1_becomeFenced 4 none :: wsL_law) ({ frames := 2, cells := 0, slots := 0, locals := 47 }) (va_Pc [.ref pa0, .ref pa1, .int (nI at_)] (PW D (p2W pa0 pb0 pc0 kb0 kc0 n0 so0 nu0 pa1 pb1 pc1 kb1 kc1 n1 so1 nu1) (p2T kb0 kc0 kb1 kc1) sz)) (va_Qv (fun u : PSt => ∃ ss nn, u = (n1 + 1, ss, nn) ∧ (∀ j, j < n1 + 1 → ss j = fenS so1 at_ j) ∧ (∀ j, j < n1 + 1 → j ≠ at_ → ∀ w, w < 4 → nn (j * 4 + w) = fenN so1 nu1 at_ j w) ∧ ∀ j, ss j < 2147483648 ∧ nn j < 2147483648) (QW D (fun u : PSt => p2W pa0 pb0 pc0 kb0 kc0 u.1 u.2.1 u.2.2 pa1 pb1 pc1 kb1 kc1 n1 so1 nu1) (fun _ => p2T kb0 kc0 kb1 kc1) (va_A (p2W pa0 pb0 pc0 kb0 kc0 n0 so0 nu0 pa1 pb1 pc1 kb1 kc1 n1 so1 nu1) sz)) (va_A (p2W pa0 pb0 pc0 kb0 kc0 n0 so0 nu0 pa1 pb1 pc1 kb1 kc1 n1 so1 nu1) sz)) 0 0 (va_A (p2W pa0 pb0 pc0 kb0 kc0 n0 so0 nu0 pa1 pb1 pc1 kb1 kc1 n1 so1 nu1) sz) := by
  refine Met.ofW (cc := cX1_becomeFenced) (maxL := 4) (ret := none) (by decide) rfl ?_
  intro p e s m args below meth c s₁ B hml hv
  obtain ⟨rfl, hsz, hP, hK, hD0⟩ := hv
  have hx := B.exec
  have hb := B.bytes
  have hr := B.returns
  have hts := atoms_spec (ws := .code yX1_becomeFenced cX1_becomeFenced 4 none :: wsL_law) B.pre
  have hU : ∀ w ∈ wsL_law, w.before _ s = true := fun w h => hts w (List.mem_cons_of_mem _ h)
  have hown : s.vm.findClass RX1 = some m.cls := findClass_of_methodNamed B.named
  have hlocks := B.notSynchronized
  subst hsz
  have hD := hD0.self (sz := s.heap.size)
  generalize hAe : va_A (p2W pa0 pb0 pc0 kb0 kc0 n0 so0 nu0 pa1 pb1 pc1 kb1 kc1 n1 so1 nu1) s.heap.size = Ar at hD ⊢
  have hA : ∀ q : Nat, s.heap.size ≤ q → Ar q := fun q h => by rw [← hAe]; exact Or.inr h
  have hS : va_S Ar s.heap s.heap [] := va_S.rf
  have hP : va_P D vwCl [(pa0, .inr (1, [.int (nI n0), .ref pb0, .ref pc0])), (pb0, .inl (kb0, 8, .inl (nA so0))), (pc0, .inl (kc0, 32, .inl (nA nu0))), (pa1, .inr (1, [.int (nI n1), .ref pb1, .ref pc1])), (pb1, .inl (kb1, 8, .inl (nA so1))), (pc1, .inl (kc1, 32, .inl (nA nu1)))] s.heap := hP
  have hD : va_D Ar [(pa0, .inr (1, [.int (nI n0), .ref pb0, .ref pc0])), (pb0, .inl (kb0, 8, .inl (nA so0))), (pc0, .inl (kc0, 32, .inl (nA nu0))), (pa1, .inr (1, [.int (nI n1), .ref pb1, .ref pc1])), (pb1, .inl (kb1, 8, .inl (nA so1))), (pc1, .inl (kc1, 32, .inl (nA nu1)))] := hD
  generalize hQ : MQ _ _ _ _ _ _ _ = Q
  have hl := lv_entry ([.ref pa0, .ref pa1, .int (nI at_)]) (n := 4) (Nat.le_of_ble_eq_true rfl)
  rw [lg_entry_eq]
  generalize (lg_sl ([.ref pa0, .ref pa1, .int (nI at_)]) ++ List.replicate (4 - (lg_sl ([.ref pa0, .ref pa1, .int (nI at_)])).length) Slot.unset).toArray = ls at hl ⊢
  have hl : lv_has ls 4 [(0, .ref pa0), (1, .ref pa1), (2, .int (nI at_))] := hl
  refine lv_aload_n hx hb dX1_becomeFenced_0 rfl (lv_at hl 0 rfl) ?_
  refine lv_aload_n hx hb dX1_becomeFenced_1 rfl (lv_at hl 1 rfl) ?_
  refine va_get (D := D) (ci := 1) (v := .int (nI n1)) (C := RX1) (T := TX1) (N := 3) hx hb hU iX1 hown hK hP 3 rfl rfl 0 (by decide) (hU _ mU_47) (fun _ h9 => h9) rfl dX1_becomeFenced_2 ?_
  refine lv_iconst (v := nI 1) hx hb dX1_becomeFenced_5 (by decide) ?_
  refine lv_iadd hx hb dX1_becomeFenced_6 ?_
  refine lv_topE (nI (n1 + 1)) (nI_add _ _) ?_
  refine lv_bipush (v := nI 7) hx hb dX1_becomeFenced_7 (by decide) ?_
  refine va_mmin hx hb (hml.trans hl.1.symm) hown (hU _ mU_430) (hU _ mU_229) (hU _ mU_230) (hU _ mU_231) (Nat.le_of_ble_eq_true rfl) (Nat.le_of_ble_eq_true rfl) (Nat.zero_le _) (Nat.zero_le _) dX1_becomeFenced_9 ?_
  refine lv_topE (nI (if 7 < n1 + 1 then 7 else n1 + 1)) (z_min (by omega) (by omega)) ?_
  refine lv_topE (nI (n1 + 1)) (congrArg nI (if_neg (by omega))) ?_
  refine va_put (D := D) (ci := 1) (v := .int (nI (n1 + 1))) (ty := .int) (C := RX1) (T := TX1) (N := 3) hx hb hU iX1 tyX1 tyX1_ok nmX1 hown hK hP hD hS 0 rfl rfl 0 (by decide) (hU _ mU_47) (fun _ h9 => h9) rfl (by decide +kernel) rfl rfl (Nat.le_of_ble_eq_true rfl) dX1_becomeFenced_12 (fun H locs hP hD hS => ?_)
  have hP : va_P D vwCl [(pa0, .inr (1, [.int (nI (n1 + 1)), .ref pb0, .ref pc0])), (pb0, .inl (kb0, 8, .inl (nA so0))), (pc0, .inl (kc0, 32, .inl (nA nu0))), (pa1, .inr (1, [.int (nI n1), .ref pb1, .ref pc1])), (pb1, .inl (kb1, 8, .inl (nA so1))), (pc1, .inl (kc1, 32, .inl (nA nu1)))] H := hP
  have hD : va_D Ar [(pa0, .inr (1, [.int (nI (n1 + 1)), .ref pb0, .ref pc0])), (pb0, .inl (kb0, 8, .inl (nA so0))), (pc0, .inl (kc0, 32, .inl (nA nu0))), (pa1, .inr (1, [.int (nI n1), .ref pb1, .ref pc1])), (pb1, .inl (kb1, 8, .inl (nA so1))), (pc1, .inl (kc1, 32, .inl (nA nu1)))] := hD
  refine lv_iconst (v := nI 0) hx hb dX1_becomeFenced_15 (by decide) ?_
  refine lv_istore_n (lv' := [(3, .int (nI 0)), (0, .ref pa0), (1, .ref pa1), (2, .int (nI at_))]) hx hb dX1_becomeFenced_16 rfl hl (by decide) rfl (fun ls hl => ?_)
  have L17_37 : ∀ (n : Nat) (i : Nat) (ss : Nat → Nat) (nn : Nat → Nat), (i ≤ n1 + 1) → (∀ j, j < i → ss j = fenS so1 at_ j) → (∀ j, j < i → j ≠ at_ → ∀ w, w < 4 → nn (j * 4 + w) = nu1 (fenI at_ j * 4 + w)) → (∀ j, ss j < 2147483648 ∧ nn j < 2147483648) → (n1 + 1 - i) < n → ∀ (H : Heap) (locs : List Loc), va_P D vwCl [(pa0, .inr (1, [.int (nI (n1 + 1)), .ref pb0, .ref pc0])), (pb0, .inl (kb0, 8, .inl (nA ss))), (pc0, .inl (kc0, 32, .inl (nA nn))), (pa1, .inr (1, [.int (nI n1), .ref pb1, .ref pc1])), (pb1, .inl (kb1, 8, .inl (nA so1))), (pc1, .inl (kc1, 32, .inl (nA nu1)))] H → va_D Ar [(pa0, .inr (1, [.int (nI (n1 + 1)), .ref pb0, .ref pc0])), (pb0, .inl (kb0, 8, .inl (nA ss))), (pc0, .inl (kc0, 32, .inl (nA nn))), (pa1, .inr (1, [.int (nI n1), .ref pb1, .ref pc1])), (pb1, .inl (kb1, 8, .inl (nA so1))), (pc1, .inl (kc1, 32, .inl (nA nu1)))] → va_S Ar s.heap H locs → ∀ ls : Array Slot, lv_has ls 4 [(0, .ref pa0), (1, .ref pa1), (2, .int (nI at_)), (3, .int (nI i))] → W p l e ({ frames := 2, cells := 0, slots := 0, locals := 47 } : Room) s m (([.ref pa0, .ref pa1, .int (nI at_)] : List Value).toArray) below meth c H locs 0 0 Q (F0 m 17 ls []) := by
    intro n17
    induction n17 with
    | zero => intro i ss nn hi hss hnn hbs hm17; exact absurd hm17 (Nat.not_lt_zero _)
    | succ n17 ih17 =>
      intro i ss nn hi hss hnn hbs hm17 H locs hP hD hS ls hl
      refine lv_iload_n hx hb dX1_becomeFenced_17 rfl (lv_at hl 3 rfl) ?_
      refine lv_aload_n hx hb dX1_becomeFenced_18 rfl (lv_at hl 0 rfl) ?_
      refine va_get (D := D) (ci := 1) (v := .int (nI (n1 + 1))) (C := RX1) (T := TX1) (N := 3) hx hb hU iX1 hown hK hP 0 rfl rfl 0 (by decide) (hU _ mU_47) (fun _ h9 => h9) rfl dX1_becomeFenced_19 ?_
      refine lv_icmp_ge (tgt := 64) hx hb dX1_becomeFenced_22 (by decide) (fun c22_1 => ?_) (fun c22_1 => ?_)
      · have c22_1 : n1 + 1 ≤ i := (nI_leI (a := n1 + 1) (b := i) (by omega) (by omega)).mp c22_1
        have hss : ∀ j, j < n1 + 1 → ss j = fenS so1 at_ j := fun j hj => hss j (by omega)
        refine lv_iconst (v := nI 0) hx hb dX1_becomeFenced_64 (by decide) ?_
        refine lv_istore_n (lv' := [(3, .int (nI 0)), (0, .ref pa0), (1, .ref pa1), (2, .int (nI at_))]) hx hb dX1_becomeFenced_65 rfl hl (by decide) rfl (fun ls hl => ?_)
        have L66_51 : ∀ (n : Nat) (i : Nat) (n2 : Nat → Nat), (i ≤ at_) → (∀ j, j < n1 + 1 → j ≠ at_ → ∀ w, w < 4 → n2 (j * 4 + w) = if j < i then fenN so1 nu1 at_ j w else nu1 (fenI at_ j * 4 + w)) → (∀ j, n2 j < 2147483648) → (at_ - i) < n → ∀ (H : Heap) (locs : List Loc), va_P D vwCl [(pa0, .inr (1, [.int (nI (n1 + 1)), .ref pb0, .ref pc0])), (pb0, .inl (kb0, 8, .inl (nA ss))), (pc0, .inl (kc0, 32, .inl (nA n2))), (pa1, .inr (1, [.int (nI n1), .ref pb1, .ref pc1])), (pb1, .inl (kb1, 8, .inl (nA so1))), (pc1, .inl (kc1, 32, .inl (nA nu1)))] H → va_D Ar [(pa0, .inr (1, [.int (nI (n1 + 1)), .ref pb0, .ref pc0])), (pb0, .inl (kb0, 8, .inl (nA ss))), (pc0, .inl (kc0, 32, .inl (nA n2))), (pa1, .inr (1, [.int (nI n1), .ref pb1, .ref pc1])), (pb1, .inl (kb1, 8, .inl (nA so1))), (pc1, .inl (kc1, 32, .inl (nA nu1)))] → va_S Ar s.heap H locs → ∀ ls : Array Slot, lv_has ls 4 [(0, .ref pa0), (1, .ref pa1), (2, .int (nI at_)), (3, .int (nI i))] → W p l e ({ frames := 2, cells := 0, slots := 0, locals := 47 } : Room) s m (([.ref pa0, .ref pa1, .int (nI at_)] : List Value).toArray) below meth c H locs 0 0 Q (F0 m 66 ls []) := by
          intro n66
          induction n66 with
          | zero => intro i n2 hi hn2 hb2 hm66; exact absurd hm66 (Nat.not_lt_zero _)
          | succ n66 ih66 =>
            intro i n2 hi hn2 hb2 hm66 H locs hP hD hS ls hl
            refine lv_iload_n hx hb dX1_becomeFenced_66 rfl (lv_at hl 3 rfl) ?_
            refine lv_iload_n hx hb dX1_becomeFenced_67 rfl (lv_at hl 2 rfl) ?_
            refine lv_icmp_ge (tgt := 122) hx hb dX1_becomeFenced_68 (by decide) (fun c68_2 => ?_) (fun c68_2 => ?_)
            · have c68_2 : at_ ≤ i := (nI_leI (a := at_) (b := i) (by omega) (by omega)).mp c68_2
              subst hQ
              exact rwv (n1 + 1, ss, n2) hx hb hr hlocks (⟨_, _, rfl, hss, fun j hj hn w hw => (hn2 j hj hn w hw).trans (fen_fin (by omega) hn), fun j => ⟨(hbs j).1, hb2 j⟩⟩) hP hK hD hS dX1_becomeFenced_122
            · have c68_2 : ¬ (at_ ≤ i) := fun h9 => c68_2 ((nI_leI (a := at_) (b := i) (by omega) (by omega)).mpr h9)
              refine lv_iload_n hx hb dX1_becomeFenced_71 rfl (lv_at hl 3 rfl) ?_
              refine lv_aload_n hx hb dX1_becomeFenced_72 rfl (lv_at hl 0 rfl) ?_
              refine va_get (D := D) (ci := 1) (v := .int (nI (n1 + 1))) (C := RX1) (T := TX1) (N := 3) hx hb hU iX1 hown hK hP 0 rfl rfl 0 (by decide) (hU _ mU_47) (fun _ h9 => h9) rfl dX1_becomeFenced_73 ?_
              refine lv_icmp_ge (tgt := 122) hx hb dX1_becomeFenced_76 (by decide) (fun c76_3 => ?_) (fun c76_3 => ?_)
              · have c76_3 : n1 + 1 ≤ i := (nI_leI (a := n1 + 1) (b := i) (by omega) (by omega)).mp c76_3
                subst hQ
                exact rwv (n1 + 1, ss, n2) hx hb hr hlocks (⟨_, _, rfl, hss, fun j hj hn w hw => (hn2 j hj hn w hw).trans (fen_fin (by omega) hn), fun j => ⟨(hbs j).1, hb2 j⟩⟩) hP hK hD hS dX1_becomeFenced_122
              · have c76_3 : ¬ (n1 + 1 ≤ i) := fun h9 => c76_3 ((nI_leI (a := n1 + 1) (b := i) (by omega) (by omega)).mpr h9)
                refine lv_aload_n hx hb dX1_becomeFenced_79 rfl (lv_at hl 0 rfl) ?_
                refine va_get (D := D) (ci := 1) (v := .ref pb0) (C := RX1) (T := TX1) (N := 3) hx hb hU iX1 hown hK hP 0 rfl rfl 1 (by decide) (hU _ mU_48) (fun _ h9 => h9) rfl dX1_becomeFenced_80 ?_
                refine lv_iload_n hx hb dX1_becomeFenced_83 rfl (lv_at hl 3 rfl) ?_
                have hb9 := (hbs i).1
                refine n_iald hx hb hK hP 1 0 rfl rfl (i := i) (by omega) (by decide) dX1_becomeFenced_84 ?_
                refine lv_bipush (v := nI 8) hx hb dX1_becomeFenced_85 (by decide) ?_
                refine lv_icmp_ne (tgt := 116) hx hb dX1_becomeFenced_87 (by decide) (fun c87_4 => ?_) (fun c87_4 => ?_)
                · have c87_4 : ¬ (ss i = 8) := fun h9 => c87_4 ((nI_eqG (a := ss i) (b := 8) (by omega) (by omega)).mpr h9)
                  refine lv_iinc (v := nI (i + 1)) (lv' := [(3, .int (nI (i + 1))), (0, .ref pa0), (1, .ref pa1), (2, .int (nI at_))]) hx hb dX1_becomeFenced_116 hl (k := 3) rfl (by rw [show Int32.ofInt 1 = nI 1 from by decide, nI_add]) (by decide) rfl (fun ls hl => ?_)
                  refine lv_goto (tgt := 66) hx hb dX1_becomeFenced_119 (by decide) ?_
                  exact ih66 (i + 1) n2 (by omega) (fen_keep hn2 (by omega) (hss i (by omega)) (fun q => absurd q.1 c87_4)) (hb2) (by omega) _ _ hP hD hS _ (lv_sub hl [1, 2, 3, 0] rfl)
                · have c87_4 : ss i = 8 := (nI_eqG (a := ss i) (b := 8) (by omega) (by omega)).mp c87_4
                  have hn9 := hn2 i (by omega) (by omega) 2 (by decide)
                  rw [if_neg (Nat.lt_irrefl i), fenI_lt (by omega)] at hn9
                  have hn8 : nu1 (i * 4 + 2) < 16 := hif i (by omega) (((hss i (by omega)).trans (by rw [fenS_lt (by omega)])).symm.trans c87_4)
                  refine lv_iload_n hx hb dX1_becomeFenced_90 rfl (lv_at hl 3 rfl) ?_
                  refine lv_aload_n hx hb dX1_becomeFenced_91 rfl (lv_at hl 0 rfl) ?_
                  refine lv_iload_n hx hb dX1_becomeFenced_92 rfl (lv_at hl 3 rfl) ?_
                  refine lv_iconst (v := nI 2) hx hb dX1_becomeFenced_93 (by decide) ?_
                  have hPc := hP.sub (ws' := [(pa0, .inr (1, [.int (nI (n1 + 1)), .ref pb0, .ref pc0])), (pb0, .inl (kb0, 8, .inl (nA ss))), (pc0, .inl (kc0, 32, .inl (nA n2)))]) [0, 1, 2] rfl
                  have hKc := hK.sub (tys' := [(kb0, .int), (kc0, .int)]) [0, 1] rfl
                  refine cVi (As := [.int (nI i), .int (nI 2)]) (rest := [.int (nI i)]) ⟨hx, hb, hml, hown, hts⟩ (c_X1_number l D pa0 pb0 pc0 kb0 kc0 (n1 + 1) ss n2 i 2 (by omega)) (cwV 2 hts (gV mU_431 mU_417 mU_418 mU_22 mU_419) rfl rfl rfl (by decide +kernel) ⟨Nat.le_of_ble_eq_true rfl, Nat.le_of_ble_eq_true rfl⟩) fbR (va_recv hK hP (ci := 1) (q0 := 0) rfl rfl) (PR.of hPc hKc) rfl hl.1 rfl (Nat.le_of_ble_eq_true rfl) dX1_becomeFenced_94 ⟨Nat.zero_le _, Nat.zero_le _⟩ ?_
                  refine lv_iadd hx hb dX1_becomeFenced_97 ?_
                  refine lv_topE (nI (i + (n2 (i * 4 + 2)))) (nI_add _ _) ?_
                  refine lv_iload_n hx hb dX1_becomeFenced_98 rfl (lv_at hl 2 rfl) ?_
                  refine lv_icmp_lt (tgt := 116) hx hb dX1_becomeFenced_99 (by decide) (fun c99_5 => ?_) (fun c99_5 => ?_)
                  · have c99_5 : i + (n2 (i * 4 + 2)) < at_ := (nI_ltI (a := i + (n2 (i * 4 + 2))) (b := at_) (by omega) (by omega)).mp c99_5
                    refine lv_iinc (v := nI (i + 1)) (lv' := [(3, .int (nI (i + 1))), (0, .ref pa0), (1, .ref pa1), (2, .int (nI at_))]) hx hb dX1_becomeFenced_116 hl (k := 3) rfl (by rw [show Int32.ofInt 1 = nI 1 from by decide, nI_add]) (by decide) rfl (fun ls hl => ?_)
                    refine lv_goto (tgt := 66) hx hb dX1_becomeFenced_119 (by decide) ?_
                    exact ih66 (i + 1) n2 (by omega) (fen_keep hn2 (by omega) (hss i (by omega)) (fun q => absurd q.2 (by omega))) (hb2) (by omega) _ _ hP hD hS _ (lv_sub hl [1, 2, 3, 0] rfl)
                  · have c99_5 : ¬ (i + (n2 (i * 4 + 2)) < at_) := fun h9 => c99_5 ((nI_ltI (a := i + (n2 (i * 4 + 2))) (b := at_) (by omega) (by omega)).mpr h9)
                    refine lv_aload_n hx hb dX1_becomeFenced_102 rfl (lv_at hl 0 rfl) ?_
                    refine lv_iload_n hx hb dX1_becomeFenced_103 rfl (lv_at hl 3 rfl) ?_
                    refine lv_iconst (v := nI 2) hx hb dX1_becomeFenced_104 (by decide) ?_
                    refine lv_aload_n hx hb dX1_becomeFenced_105 rfl (lv_at hl 0 rfl) ?_
                    refine lv_iload_n hx hb dX1_becomeFenced_106 rfl (lv_at hl 3 rfl) ?_
                    refine lv_iconst (v := nI 2) hx hb dX1_becomeFenced_107 (by decide) ?_
                    have hPc := hP.sub (ws' := [(pa0, .inr (1, [.int (nI (n1 + 1)), .ref pb0, .ref pc0])), (pb0, .inl (kb0, 8, .inl (nA ss))), (pc0, .inl (kc0, 32, .inl (nA n2)))]) [0, 1, 2] rfl
                    have hKc := hK.sub (tys' := [(kb0, .int), (kc0, .int)]) [0, 1] rfl
                    refine cVi (As := [.int (nI i), .int (nI 2)]) (rest := [.int (nI 2), .int (nI i), .ref pa0]) ⟨hx, hb, hml, hown, hts⟩ (c_X1_number l D pa0 pb0 pc0 kb0 kc0 (n1 + 1) ss n2 i 2 (by omega)) (cwV 2 hts (gV mU_431 mU_417 mU_418 mU_22 mU_419) rfl rfl rfl (by decide +kernel) ⟨Nat.le_of_ble_eq_true rfl, Nat.le_of_ble_eq_true rfl⟩) fbR (va_recv hK hP (ci := 1) (q0 := 0) rfl rfl) (PR.of hPc hKc) rfl hl.1 rfl (Nat.le_of_ble_eq_true rfl) dX1_becomeFenced_108 ⟨Nat.zero_le _, Nat.zero_le _⟩ ?_
                    refine lv_iconst (v := nI 1) hx hb dX1_becomeFenced_111 (by decide) ?_
                    refine lv_iadd hx hb dX1_becomeFenced_112 ?_
                    refine lv_topE (nI ((n2 (i * 4 + 2)) + 1)) (nI_add _ _) ?_
                    refine kVv (As := [.int (nI i), .int (nI 2), .int (nI ((n2 (i * 4 + 2)) + 1))]) (rest := []) (wr := [(pa1, .inr (1, [.int (nI n1), .ref pb1, .ref pc1])), (pb1, .inl (kb1, 8, .inl (nA so1))), (pc1, .inl (kc1, 32, .inl (nA nu1)))]) ⟨hx, hb, hml, hown, hts⟩ (c_X1_setNumber l D pa0 pb0 pc0 kb0 kc0 (n1 + 1) ss n2 H.size i 2 ((n2 (i * 4 + 2)) + 1) (by omega)) (cwV 3 hts (gV mU_643 mU_236 mU_237 mU_22 mU_238) rfl rfl rfl (by decide +kernel) ⟨Nat.le_of_ble_eq_true rfl, Nat.le_of_ble_eq_true rfl⟩) (va_recv hK hP (ci := 1) (q0 := 0) rfl rfl) hP hK hD hS hA [0, 1, 2] [3, 4, 5] [0, 1] [2, 3] rfl rfl rfl rfl (by decide) rfl rfl rfl hl.1 rfl (Nat.le_of_ble_eq_true rfl) dX1_becomeFenced_113 ⟨by decide, by decide⟩ (fun u H locs hw hP hD hK hS => ?_)
                    subst hw
                    have hP := hP.sub (ws' := [(pa0, .inr (1, [.int (nI (n1 + 1)), .ref pb0, .ref pc0])), (pb0, .inl (kb0, 8, .inl (nA ss))), (pc0, .inl (kc0, 32, .inl (nA (upN n2 (i * 4 + 2) ((n2 (i * 4 + 2)) + 1))))), (pa1, .inr (1, [.int (nI n1), .ref pb1, .ref pc1])), (pb1, .inl (kb1, 8, .inl (nA so1))), (pc1, .inl (kc1, 32, .inl (nA nu1)))]) [3, 4, 5, 0, 1, 2] rfl
                    have hD := hD.sub (ws' := [(pa0, .inr (1, [.int (nI (n1 + 1)), .ref pb0, .ref pc0])), (pb0, .inl (kb0, 8, .inl (nA ss))), (pc0, .inl (kc0, 32, .inl (nA (upN n2 (i * 4 + 2) ((n2 (i * 4 + 2)) + 1))))), (pa1, .inr (1, [.int (nI n1), .ref pb1, .ref pc1])), (pb1, .inl (kb1, 8, .inl (nA so1))), (pc1, .inl (kc1, 32, .inl (nA nu1)))]) [3, 4, 5, 0, 1, 2] rfl rfl
                    have hK : va_K D vwCl [(kb0, .int), (kc0, .int), (kb1, .int), (kc1, .int)] s := hK.sub [2, 3, 0, 1] rfl
                    refine lv_iinc (v := nI (i + 1)) (lv' := [(3, .int (nI (i + 1))), (0, .ref pa0), (1, .ref pa1), (2, .int (nI at_))]) hx hb dX1_becomeFenced_116 hl (k := 3) rfl (by rw [show Int32.ofInt 1 = nI 1 from by decide, nI_add]) (by decide) rfl (fun ls hl => ?_)
                    refine lv_goto (tgt := 66) hx hb dX1_becomeFenced_119 (by decide) ?_
                    exact ih66 (i + 1) (upN n2 (i * 4 + 2) ((n2 (i * 4 + 2)) + 1)) (by omega) (fen_more hn2 (by omega) (by omega) ((hss i (by omega)).symm.trans c87_4) (by omega)) (up_lt hb2 (by omega)) (by omega) _ _ hP hD hS _ (lv_sub hl [1, 2, 3, 0] rfl)
        exact L66_51 ((at_ - 0) + 1) 0 nn (Nat.zero_le _) (fun j hj hn w hw => by rw [if_neg (Nat.not_lt_zero j)]; exact hnn j (by omega) hn w hw) (fun j => (hbs j).2) (Nat.lt_succ_self _) _ _ hP hD hS _ (lv_sub hl [1, 2, 3, 0] rfl)
      · have c22_1 : ¬ (n1 + 1 ≤ i) := fun h9 => c22_1 ((nI_leI (a := n1 + 1) (b := i) (by omega) (by omega)).mpr h9)
        refine lv_iload_n hx hb dX1_becomeFenced_25 rfl (lv_at hl 3 rfl) ?_
        refine lv_iload_n hx hb dX1_becomeFenced_26 rfl (lv_at hl 2 rfl) ?_
        refine lv_icmp_ne (tgt := 40) hx hb dX1_becomeFenced_27 (by decide) (fun c27_7 => ?_) (fun c27_7 => ?_)
        · have c27_7 : ¬ (i = at_) := fun h9 => c27_7 ((nI_eqG (a := i) (b := at_) (by omega) (by omega)).mpr h9)
          refine lv_aload_n hx hb dX1_becomeFenced_40 rfl (lv_at hl 0 rfl) ?_
          refine lv_aload_n hx hb dX1_becomeFenced_41 rfl (lv_at hl 1 rfl) ?_
          refine lv_iload_n hx hb dX1_becomeFenced_42 rfl (lv_at hl 3 rfl) ?_
          refine lv_iload_n hx hb dX1_becomeFenced_43 rfl (lv_at hl 2 rfl) ?_
          refine lv_icmp_ge (tgt := 51) hx hb dX1_becomeFenced_44 (by decide) (fun c44_8 => ?_) (fun c44_8 => ?_)
          · have c44_8 : at_ ≤ i := (nI_leI (a := at_) (b := i) (by omega) (by omega)).mp c44_8
            refine lv_iload_n hx hb dX1_becomeFenced_51 rfl (lv_at hl 3 rfl) ?_
            refine lv_iconst (v := nI 1) hx hb dX1_becomeFenced_52 (by decide) ?_
            refine lv_isub hx hb dX1_becomeFenced_53 ?_
            refine lv_topE (nI (i - 1)) (pk_sub (by omega)) ?_
            refine lv_iload_n hx hb dX1_becomeFenced_54 rfl (lv_at hl 3 rfl) ?_
            refine kVv (As := [.ref pa1, .int (nI (i - 1)), .int (nI i)]) (rest := []) (wr := []) ⟨hx, hb, hml, hown, hts⟩ (c_X1_copy l D pa0 pb0 pc0 kb0 kc0 (n1 + 1) ss nn pa1 pb1 pc1 kb1 kc1 n1 so1 nu1 H.size (i - 1) i (by omega) (by omega)) (cwV 3 hts (gV mU_639 mU_640 mU_641 mU_22 mU_642) rfl rfl rfl (by decide +kernel) ⟨Nat.le_of_ble_eq_true rfl, Nat.le_of_ble_eq_true rfl⟩) (va_recv hK hP (ci := 1) (q0 := 0) rfl rfl) hP hK hD hS hA [0, 1, 2, 3, 4, 5] [] [0, 1, 2, 3] [] rfl rfl rfl rfl (by decide) rfl rfl rfl hl.1 rfl (Nat.le_of_ble_eq_true rfl) dX1_becomeFenced_55 ⟨by decide, by decide⟩ (fun u H locs hw hP hD hK hS => ?_)
            subst hw
            have hP := hP.sub (ws' := [(pa0, .inr (1, [.int (nI (n1 + 1)), .ref pb0, .ref pc0])), (pb0, .inl (kb0, 8, .inl (nA (upN ss i (so1 (i - 1)))))), (pc0, .inl (kc0, 32, .inl (nA (cpC nn nu1 (i - 1) i)))), (pa1, .inr (1, [.int (nI n1), .ref pb1, .ref pc1])), (pb1, .inl (kb1, 8, .inl (nA so1))), (pc1, .inl (kc1, 32, .inl (nA nu1)))]) [0, 1, 2, 3, 4, 5] rfl
            have hD := hD.sub (ws' := [(pa0, .inr (1, [.int (nI (n1 + 1)), .ref pb0, .ref pc0])), (pb0, .inl (kb0, 8, .inl (nA (upN ss i (so1 (i - 1)))))), (pc0, .inl (kc0, 32, .inl (nA (cpC nn nu1 (i - 1) i)))), (pa1, .inr (1, [.int (nI n1), .ref pb1, .ref pc1])), (pb1, .inl (kb1, 8, .inl (nA so1))), (pc1, .inl (kc1, 32, .inl (nA nu1)))]) [0, 1, 2, 3, 4, 5] rfl rfl
            have hK : va_K D vwCl [(kb0, .int), (kc0, .int), (kb1, .int), (kc1, .int)] s := hK.sub [0, 1, 2, 3] rfl
            refine lv_iinc (v := nI (i + 1)) (lv' := [(3, .int (nI (i + 1))), (0, .ref pa0), (1, .ref pa1), (2, .int (nI at_))]) hx hb dX1_becomeFenced_58 hl (k := 3) rfl (by rw [show Int32.ofInt 1 = nI 1 from by decide, nI_add]) (by decide) rfl (fun ls hl => ?_)
            refine lv_goto (tgt := 17) hx hb dX1_becomeFenced_61 (by decide) ?_
            exact ih17 (i + 1) (upN ss i (so1 (i - 1))) (cpC nn nu1 (i - 1) i) (by omega) (fen_s3 hss c27_7 c44_8) (fen_n3 hnn c44_8) (fun j => ⟨up_lt (fun j => (hbs j).1) (hso1 _) j, cpC_lt (fun j => (hbs j).2) hnu1 j⟩) (by omega) _ _ hP hD hS _ (lv_sub hl [1, 2, 3, 0] rfl)
          · have c44_8 : ¬ (at_ ≤ i) := fun h9 => c44_8 ((nI_leI (a := at_) (b := i) (by omega) (by omega)).mpr h9)
            refine lv_iload_n hx hb dX1_becomeFenced_47 rfl (lv_at hl 3 rfl) ?_
            refine lv_goto (tgt := 54) hx hb dX1_becomeFenced_48 (by decide) ?_
            refine lv_iload_n hx hb dX1_becomeFenced_54 rfl (lv_at hl 3 rfl) ?_
            refine kVv (As := [.ref pa1, .int (nI i), .int (nI i)]) (rest := []) (wr := []) ⟨hx, hb, hml, hown, hts⟩ (c_X1_copy l D pa0 pb0 pc0 kb0 kc0 (n1 + 1) ss nn pa1 pb1 pc1 kb1 kc1 n1 so1 nu1 H.size i i (by omega) (by omega)) (cwV 3 hts (gV mU_639 mU_640 mU_641 mU_22 mU_642) rfl rfl rfl (by decide +kernel) ⟨Nat.le_of_ble_eq_true rfl, Nat.le_of_ble_eq_true rfl⟩) (va_recv hK hP (ci := 1) (q0 := 0) rfl rfl) hP hK hD hS hA [0, 1, 2, 3, 4, 5] [] [0, 1, 2, 3] [] rfl rfl rfl rfl (by decide) rfl rfl rfl hl.1 rfl (Nat.le_of_ble_eq_true rfl) dX1_becomeFenced_55 ⟨by decide, by decide⟩ (fun u H locs hw hP hD hK hS => ?_)
            subst hw
            have hP := hP.sub (ws' := [(pa0, .inr (1, [.int (nI (n1 + 1)), .ref pb0, .ref pc0])), (pb0, .inl (kb0, 8, .inl (nA (upN ss i (so1 i))))), (pc0, .inl (kc0, 32, .inl (nA (cpC nn nu1 i i)))), (pa1, .inr (1, [.int (nI n1), .ref pb1, .ref pc1])), (pb1, .inl (kb1, 8, .inl (nA so1))), (pc1, .inl (kc1, 32, .inl (nA nu1)))]) [0, 1, 2, 3, 4, 5] rfl
            have hD := hD.sub (ws' := [(pa0, .inr (1, [.int (nI (n1 + 1)), .ref pb0, .ref pc0])), (pb0, .inl (kb0, 8, .inl (nA (upN ss i (so1 i))))), (pc0, .inl (kc0, 32, .inl (nA (cpC nn nu1 i i)))), (pa1, .inr (1, [.int (nI n1), .ref pb1, .ref pc1])), (pb1, .inl (kb1, 8, .inl (nA so1))), (pc1, .inl (kc1, 32, .inl (nA nu1)))]) [0, 1, 2, 3, 4, 5] rfl rfl
            have hK : va_K D vwCl [(kb0, .int), (kc0, .int), (kb1, .int), (kc1, .int)] s := hK.sub [0, 1, 2, 3] rfl
            refine lv_iinc (v := nI (i + 1)) (lv' := [(3, .int (nI (i + 1))), (0, .ref pa0), (1, .ref pa1), (2, .int (nI at_))]) hx hb dX1_becomeFenced_58 hl (k := 3) rfl (by rw [show Int32.ofInt 1 = nI 1 from by decide, nI_add]) (by decide) rfl (fun ls hl => ?_)
            refine lv_goto (tgt := 17) hx hb dX1_becomeFenced_61 (by decide) ?_
            exact ih17 (i + 1) (upN ss i (so1 i)) (cpC nn nu1 i i) (by omega) (fen_s2 hss c44_8) (fen_n2 hnn c44_8) (fun j => ⟨up_lt (fun j => (hbs j).1) (hso1 _) j, cpC_lt (fun j => (hbs j).2) hnu1 j⟩) (by omega) _ _ hP hD hS _ (lv_sub hl [1, 2, 3, 0] rfl)
        · have c27_7 : i = at_ := (nI_eqG (a := i) (b := at_) (by omega) (by omega)).mp c27_7
          refine lv_aload_n hx hb dX1_becomeFenced_30 rfl (lv_at hl 0 rfl) ?_
          refine va_get (D := D) (ci := 1) (v := .ref pb0) (C := RX1) (T := TX1) (N := 3) hx hb hU iX1 hown hK hP 0 rfl rfl 1 (by decide) (hU _ mU_48) (fun _ h9 => h9) rfl dX1_becomeFenced_31 ?_
          refine lv_iload_n hx hb dX1_becomeFenced_34 rfl (lv_at hl 3 rfl) ?_
          refine lv_iconst (v := nI 4) hx hb dX1_becomeFenced_35 (by decide) ?_
          refine n_iast hx hb hK hP hD hS 1 0 rfl rfl (i := i) (v := 4) (by omega) (by decide) dX1_becomeFenced_36 (fun H locs hP hD hS => ?_)
          have hP : va_P D vwCl [(pa0, .inr (1, [.int (nI (n1 + 1)), .ref pb0, .ref pc0])), (pb0, .inl (kb0, 8, .inl (nA (upN ss i 4)))), (pc0, .inl (kc0, 32, .inl (nA nn))), (pa1, .inr (1, [.int (nI n1), .ref pb1, .ref pc1])), (pb1, .inl (kb1, 8, .inl (nA so1))), (pc1, .inl (kc1, 32, .inl (nA nu1)))] H := hP
          have hD : va_D Ar [(pa0, .inr (1, [.int (nI (n1 + 1)), .ref pb0, .ref pc0])), (pb0, .inl (kb0, 8, .inl (nA (upN ss i 4)))), (pc0, .inl (kc0, 32, .inl (nA nn))), (pa1, .inr (1, [.int (nI n1), .ref pb1, .ref pc1])), (pb1, .inl (kb1, 8, .inl (nA so1))), (pc1, .inl (kc1, 32, .inl (nA nu1)))] := hD
          refine lv_goto (tgt := 58) hx hb dX1_becomeFenced_37 (by decide) ?_
          refine lv_iinc (v := nI (i + 1)) (lv' := [(3, .int (nI (i + 1))), (0, .ref pa0), (1, .ref pa1), (2, .int (nI at_))]) hx hb dX1_becomeFenced_58 hl (k := 3) rfl (by rw [show Int32.ofInt 1 = nI 1 from by decide, nI_add]) (by decide) rfl (fun ls hl => ?_)
          refine lv_goto (tgt := 17) hx hb dX1_becomeFenced_61 (by decide) ?_
          exact ih17 (i + 1) (upN ss i 4) nn (by omega) (fen_s1 hss c27_7) (fen_n1 hnn c27_7) (fun j => ⟨up_lt (fun j => (hbs j).1) (by decide) j, (hbs j).2⟩) (by omega) _ _ hP hD hS _ (lv_sub hl [1, 2, 3, 0] rfl)
  exact L17_37 ((n1 + 1 - 0) + 1) 0 so0 nu0 (Nat.zero_le _) (fun j hj => absurd hj (Nat.not_lt_zero j)) (fun j hj => absurd hj (Nat.not_lt_zero j)) (fun j => ⟨hso0 j, hnu0 j⟩) (Nat.lt_succ_self _) _ _ hP hD hS _ (lv_sub hl [1, 2, 3, 0] rfl)

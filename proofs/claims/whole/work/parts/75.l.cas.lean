/-! LAW: the cases of its loop -/
theorem s_both {ad : Nat → Nat} {ka : Nat → ClassId} {L : Nat} {f : Nat → Nat} {g : Nat → Nat → Nat} {mf : Nat → Nat} {mg : Nat → Nat → Nat} {mt : Nat → Nat} {n : Nat} {r r' : Int32} {u : XSt} {v : MSt} {pa pb : Nat} (h : lawI n (ad, ka, L, f, g) (mf, mg, mt)) (hc : (¬ (pa ≤ f 10 ∧ pb ≤ f 11) → r = nI 4294967295 ∧ u = (ad, ka, L, f, g)) ∧ (pa ≤ f 10 ∧ pb ≤ f 11 → ∃ (wb : Nat) (wc : Nat) (wd : Nat) (k0 : ClassId) (k1 : ClassId) (k2 : ClassId) (L1 : Nat) (sp : Nat) (cn : Nat) (en : Nat) (ge : Nat) (be : Nat) (tl : Nat) (ts : Nat → Nat) (og : Nat → Nat) (sl : Nat → Nat), toldI (f 9) (GX f g) (BX f g) L1 (mOf L1) sp cn en ge be tl ts og sl ∧ L1 = (if f 1 = 0 ∧ 700 < (BX f g).1 then 12000 else L) ∧ sp ≤ f 12 + 1 ∧ (¬ (BX f g).1 ≤ 12000 → r = nI 4294967294 ∧ u = (adU ad wb wc wd, kaU ka k0 k1 k2, L1, fU f 1 sp cn en ge be tl, gUp g ts og sl)) ∧ ((BX f g).1 ≤ 12000 → (firstC 0 pa pb (f 10) (f 11) ts cn = 4294967295 → r = nI 4294967295 ∧ u = (adU ad wb wc wd, kaU ka k0 k1 k2, L1, fU f 1 sp cn en ge be tl, gUp g ts og sl)) ∧ (¬ firstC 0 pa pb (f 10) (f 11) ts cn = 4294967295 → r = nI (stpC og 32 (firstC 0 pa pb (f 10) (f 11) ts cn)) ∧ ∃ rw_, u = (adU ad wb wc wd, kaU ka k0 k1 k2, L1, upN (fU f 1 sp cn en ge be tl) 2 (stpC og 32 (firstC 0 pa pb (f 10) (f 11) ts cn)), upA (gUp g ts og sl) 23 rw_) ∧ (∀ k, k < stpC og 32 (firstC 0 pa pb (f 10) (f 11) ts cn) → rw_ k = og (anc (fun a => og a / 16) (stpC og 32 (firstC 0 pa pb (f 10) (f 11) ts cn) - 1 - k) (firstC 0 pa pb (f 10) (f 11) ts cn)) % 16) ∧ ∀ k, rw_ k < 2147483648))))
    (hm : (¬ (pa ≤ mg 1 0 ∧ pb ≤ mg 1 1) → r' = nI 4294967295 ∧ v = (mf, mg, mt)) ∧ (pa ≤ mg 1 0 ∧ pb ≤ mg 1 1 → ∃ f1 g1 t1, sameM mf f1 mg g1 ∧ MBase f1 g1 ∧ Walked f1 g1 t1 ∧ f1 20 ≠ 0 ∧ (¬ f1 19 ≤ 12000 → r' = nI 4294967294 ∧ v = (f1, g1, t1)) ∧ (f1 19 ≤ 12000 → keepPost f1 g1 t1 (findN (fun i => decide (bitsN (t1 i) 16 3 = pa ∧ bitsN (t1 i) 19 3 = pb)) (f1 19)) r' v))) : r = r' ∧ lawN n (ad, ka, L, f, g) u v ∧ (¬ (pa ≤ f 10 ∧ pb ≤ f 11) → u.2.2.1 = L) ∧ (pa ≤ f 10 ∧ pb ≤ f 11 → u.2.2.1 = (if f 1 = 0 ∧ 700 < (BX f g).1 then 12000 else L)) := by
  have hr := h.1.2.1
  have e10 : f 10 = mg 1 0 := hr.2.2.1.1
  have e11 : f 11 = mg 1 1 := hr.2.2.1.2.1
  rw [← e10, ← e11] at hm
  by_cases c : pa ≤ f 10 ∧ pb ≤ f 11
  · obtain ⟨wb, wc, wd, k0, k1, k2, L1, sp, cn, en, ge, be, tl, ts, og, sl, hT, hL1, hsp, hC⟩ := hc.2 c
    obtain ⟨f1, g1, t1, hs, hM, hW, -, hK⟩ := hm.2 c
    obtain ⟨a1, a2, a3⟩ := s_few (e_ := 0) (pa := pa) (pb := pb) h ⟨fun _ => c, fun q => absurd rfl q⟩ hT hL1 hsp hC hs hM hW hK
    exact ⟨a1, a2, fun z => absurd c z, fun _ => a3⟩
  · obtain ⟨a, hu⟩ := hc.1 c
    obtain ⟨b, hv⟩ := hm.1 c
    subst hu hv
    exact ⟨a.trans b.symm, s_same h, fun _ => rfl, fun z => absurd z c⟩
theorem s_outcome {ad : Nat → Nat} {ka : Nat → ClassId} {L : Nat} {f : Nat → Nat} {g : Nat → Nat → Nat} {mf : Nat → Nat} {mg : Nat → Nat → Nat} {mt : Nat → Nat} {n : Nat} {r r' : Int32} {u : XSt} {v : MSt} {pa pb : Nat} (h : lawI n (ad, ka, L, f, g) (mf, mg, mt)) (hc : (¬ (pa ≤ 255 ∧ pb ≤ 15) → r = nI 4294967295 ∧ u = (ad, ka, L, f, g)) ∧ (pa ≤ 255 ∧ pb ≤ 15 → ∃ (wb : Nat) (wc : Nat) (wd : Nat) (k0 : ClassId) (k1 : ClassId) (k2 : ClassId) (L1 : Nat) (sp : Nat) (cn : Nat) (en : Nat) (ge : Nat) (be : Nat) (tl : Nat) (ts : Nat → Nat) (og : Nat → Nat) (sl : Nat → Nat), toldI (f 9) (GX f g) (BX f g) L1 (mOf L1) sp cn en ge be tl ts og sl ∧ L1 = (if f 1 = 0 ∧ 700 < (BX f g).1 then 12000 else L) ∧ sp ≤ f 12 + 1 ∧ (¬ (BX f g).1 ≤ 12000 → r = nI 4294967294 ∧ u = (adU ad wb wc wd, kaU ka k0 k1 k2, L1, fU f 1 sp cn en ge be tl, gUp g ts og sl)) ∧ ((BX f g).1 ≤ 12000 → (firstC 1 pa pb (f 10) (f 11) ts cn = 4294967295 → r = nI 4294967295 ∧ u = (adU ad wb wc wd, kaU ka k0 k1 k2, L1, fU f 1 sp cn en ge be tl, gUp g ts og sl)) ∧ (¬ firstC 1 pa pb (f 10) (f 11) ts cn = 4294967295 → r = nI (stpC og 32 (firstC 1 pa pb (f 10) (f 11) ts cn)) ∧ ∃ rw_, u = (adU ad wb wc wd, kaU ka k0 k1 k2, L1, upN (fU f 1 sp cn en ge be tl) 2 (stpC og 32 (firstC 1 pa pb (f 10) (f 11) ts cn)), upA (gUp g ts og sl) 23 rw_) ∧ (∀ k, k < stpC og 32 (firstC 1 pa pb (f 10) (f 11) ts cn) → rw_ k = og (anc (fun a => og a / 16) (stpC og 32 (firstC 1 pa pb (f 10) (f 11) ts cn) - 1 - k) (firstC 1 pa pb (f 10) (f 11) ts cn)) % 16) ∧ ∀ k, rw_ k < 2147483648))))
    (hm : (¬ (pa ≤ 255 ∧ pb ≤ 15) → r' = nI 4294967295 ∧ v = (mf, mg, mt)) ∧ (pa ≤ 255 ∧ pb ≤ 15 → ∃ f1 g1 t1, sameM mf f1 mg g1 ∧ MBase f1 g1 ∧ Walked f1 g1 t1 ∧ f1 20 ≠ 0 ∧ (¬ f1 19 ≤ 12000 → r' = nI 4294967294 ∧ v = (f1, g1, t1)) ∧ (f1 19 ≤ 12000 → keepPost f1 g1 t1 (findN (fun i => endM (f1 5) g1 pa pb (t1 i)) (f1 19)) r' v))) : r = r' ∧ lawN n (ad, ka, L, f, g) u v ∧ (¬ (pa ≤ 255 ∧ pb ≤ 15) → u.2.2.1 = L) ∧ (pa ≤ 255 ∧ pb ≤ 15 → u.2.2.1 = (if f 1 = 0 ∧ 700 < (BX f g).1 then 12000 else L)) := by
  by_cases c : pa ≤ 255 ∧ pb ≤ 15
  · obtain ⟨wb, wc, wd, k0, k1, k2, L1, sp, cn, en, ge, be, tl, ts, og, sl, hT, hL1, hsp, hC⟩ := hc.2 c
    obtain ⟨f1, g1, t1, hs, hM, hW, -, hK⟩ := hm.2 c
    obtain ⟨a1, a2, a3⟩ := s_few (e_ := 1) (pa := pa) (pb := pb) h ⟨fun q => absurd q (by decide), fun _ => c⟩ hT hL1 hsp hC hs hM hW hK
    exact ⟨a1, a2, fun z => absurd c z, fun _ => a3⟩
  · obtain ⟨a, hu⟩ := hc.1 c
    obtain ⟨b, hv⟩ := hm.1 c
    subst hu hv
    exact ⟨a.trans b.symm, s_same h, fun _ => rfl, fun z => absurd z c⟩
theorem nI_is0 {a : Nat} (h : a < 4294967296) : nI a = 0 ↔ a = 0 := nI_eqG (a := a) (b := 0) h (by decide)
theorem lawR_rm {P : Prop} {L c k c0 s0 : Nat} (h : lawR L c k) (h1 : P → c0 = 3 ∧ s0 = 40384) (h2 : ¬ P → c0 = 0 ∧ s0 = 0) : c + c0 ≤ 600000 ∧ k + s0 ≤ 7302250 := by
  obtain ⟨a, b, -⟩ := h
  by_cases q : P
  · have := h1 q; omega
  · have := h2 q; omega
theorem lawR_wk {P C B : Prop} [Decidable B] {L L1 c k c0 s0 : Nat} (h : lawR L c k) (h1 : (C ∧ L = 700 ∧ B) → c0 = 3 ∧ s0 = 40384) (h2 : ¬ (C ∧ L = 700 ∧ B) → c0 = 0 ∧ s0 = 0) (hn : ¬ C → L1 = L) (hy : C → L1 = (if B then 12000 else L)) : lawR L1 (c + c0) (k + s0) := by
  refine lawR_up h h1 h2 (fun q => ⟨q.2.1, by rw [hy q.1, if_pos q.2.2]⟩) (fun q => ?_)
  by_cases z : C
  · rw [hy z]; split
    · exact Or.inr rfl
    · exact Or.inl rfl
  · exact Or.inl (hn z)
def lawC (p : Program) (s : State) (m : MethodId) (c : Code) (b L : Nat) (xs : Nat → Int32) (ak : Nat) (adK adV : Nat → Nat) : Prop := CallFix p m c cL_law 4 s #[Value.ref b] (Cond.classLink RL 7 RX4 :: wsL_law) RL ∧ va_X b L xs s s.heap ∧ b < s.heap.size ∧ L ≤ 3072 ∧ zz ak adK adV (fun q : Nat => s.heap.size ≤ q) s s.heap
def lawK (p : Program) (l : Launch) (e : Env) (s : State) (m : MethodId) (b : Nat) (below : List Frame) (meth : Method) (c : Code) (D : va_G) (Q : State → Prop) (ma : Nat → Nat) (mk : Nat → ClassId) (n i ad0 : Nat) : Prop := ∀ (u' : XSt) (v' : MSt) (H' : Heap) (locs' : List Loc) (cells' slots' : Nat), lawI (n + 1) u' v' → u'.1 0 = ad0 → lawR u'.2.2.1 cells' slots' → lawH D s u' ma mk v' H' locs' → ∀ ls' : Array Slot, lv_has ls' 4 [(0, .ref b), (1, .ref ad0), (2, .ref (ma 0)), (3, .int (nI i))] → W p l e room_1 s m #[Value.ref b] below meth c H' locs' cells' slots' Q (F0 m 566 ls' [])
section LAWC
variable {p : Program} {l : Launch} {e : Env} {s : State} {m : MethodId} {below : List Frame} {meth : Method} {c : Code} {H : Heap} {locs : List Loc} {cells slots : Nat} {Q : State → Prop} {ls : Array Slot}
variable {b L : Nat} {xs : Nat → Int32} {ak : Nat} {adK adV : Nat → Nat} {D : va_G} {ma : Nat → Nat} {mk : Nat → ClassId} {n i : Nat}
variable {ad : Nat → Nat} {ka : Nat → ClassId} {Lx : Nat} {f : Nat → Nat} {g : Nat → Nat → Nat} {mf : Nat → Nat} {mg : Nat → Nat → Nat} {mt : Nat → Nat}
set_option maxHeartbeats 4000000 in
set_option maxRecDepth 100000 in
theorem law_feed (C : lawC p s m c b L xs ak adK adV) (h : lawI n (ad, ka, Lx, f, g) (mf, mg, mt)) (hR : lawR Lx cells slots) (hi : i + 5 < L) (hn : n ≤ 600) (hH : lawH D s (ad, ka, Lx, f, g) ma mk (mf, mg, mt) H locs) (hl : lv_has ls 4 [(0, .ref b), (1, .ref (ad 0)), (2, .ref (ma 0)), (3, .int (nI i))]) (K : lawK p l e s m b below meth c D Q ma mk n i (ad 0)) : W p l e room_1 s m #[Value.ref b] below meth c H locs cells slots Q (F0 m 104 ls []) := by
  obtain ⟨SF, hX, hbl, h3, hZ⟩ := C
  obtain ⟨hx, hb, hml, hown, hts⟩ := id SF
  obtain ⟨⟨hXI, hr, hI⟩, h6, h12⟩ := id h
  have hXI : XInv Lx f g := hXI
  have hI : MInv mf mg mt := hI
  have h12 : f 12 ≤ 15 * n := h12
  have hRb := id hR
  obtain ⟨hR1, hR2, -⟩ := hRb
  refine lv_aload_n hx hb dL_law_104 rfl (lv_at hl 1 rfl) ?_
  refine lS (k := 1) (pc := 105) hx hb hX hbl hH hl (by omega) h3 (by decide) dL_law_105 dL_law_106 dL_law_107 dL_law_108 dL_law_109 ?_
  refine lS (k := 2) (pc := 110) hx hb hX hbl hH hl (by omega) h3 (by decide) dL_law_110 dL_law_111 dL_law_112 dL_law_113 dL_law_114 ?_
  refine lS (k := 3) (pc := 115) hx hb hX hbl hH hl (by omega) h3 (by decide) dL_law_115 dL_law_116 dL_law_117 dL_law_118 dL_law_119 ?_
  refine lS (k := 4) (pc := 120) hx hb hX hbl hH hl (by omega) h3 (by decide) dL_law_120 dL_law_121 dL_law_122 dL_law_123 dL_law_124 ?_
  refine lS (k := 5) (pc := 125) hx hb hX hbl hH hl (by omega) h3 (by decide) dL_law_125 dL_law_126 dL_law_127 dL_law_128 dL_law_129 ?_
  refine lX (As := [.int (nI (aN (xs (i + 1)))), .int (nI (aN (xs (i + 2)))), .int (nI (aN (xs (i + 3)))), .int (nI (aN (xs (i + 4)))), .int (nI (aN (xs (i + 5))))]) (rest := []) (u := (ad, ka, Lx, f, g)) (v := (mf, mg, mt)) SF (c_X4_feed l D ad ka Lx f g H.size (aN (xs (i + 1))) (aN (xs (i + 2))) (aN (xs (i + 3))) (aN (xs (i + 4))) (aN (xs (i + 5))) (aN_lt _) (aN_lt _) (aN_lt _) (aN_lt _) (aN_lt _) hXI.1.1.1) (cwV 5 hts (gV mU_91 mU_92 mU_93 mU_3 mU_94) rfl rfl rfl (by decide +kernel) ⟨Nat.le_of_ble_eq_true rfl, Nat.le_of_ble_eq_true rfl⟩) hH rfl hl.1 rfl (Nat.le_of_ble_eq_true rfl) dL_law_130 ⟨by omega, by omega⟩ (fun r u' H locs hc hH => ?_)
  refine lv_aload_n hx hb dL_law_133 rfl (lv_at hl 2 rfl) ?_
  refine lS (k := 1) (pc := 134) hx hb hX hbl hH hl (by omega) h3 (by decide) dL_law_134 dL_law_135 dL_law_136 dL_law_137 dL_law_138 ?_
  refine lS (k := 2) (pc := 139) hx hb hX hbl hH hl (by omega) h3 (by decide) dL_law_139 dL_law_140 dL_law_141 dL_law_142 dL_law_143 ?_
  refine lS (k := 3) (pc := 144) hx hb hX hbl hH hl (by omega) h3 (by decide) dL_law_144 dL_law_145 dL_law_146 dL_law_147 dL_law_148 ?_
  refine lS (k := 4) (pc := 149) hx hb hX hbl hH hl (by omega) h3 (by decide) dL_law_149 dL_law_150 dL_law_151 dL_law_152 dL_law_153 ?_
  refine lS (k := 5) (pc := 154) hx hb hX hbl hH hl (by omega) h3 (by decide) dL_law_154 dL_law_155 dL_law_156 dL_law_157 dL_law_158 ?_
  refine lM (As := [.int (nI (aN (xs (i + 1)))), .int (nI (aN (xs (i + 2)))), .int (nI (aN (xs (i + 3)))), .int (nI (aN (xs (i + 4)))), .int (nI (aN (xs (i + 5))))]) (rest := [.int r])  (v := (mf, mg, mt)) SF (c_X5_feed l D ma mk mf mg mt H.size (aN (xs (i + 1))) (aN (xs (i + 2))) (aN (xs (i + 3))) (aN (xs (i + 4))) (aN (xs (i + 5))) (aN_lt _) (aN_lt _) (aN_lt _) (aN_lt _) (aN_lt _) hI.1.2.2.2.2.2.1) (cwV 5 hts (gV mU_99 mU_100 mU_101 mU_6 mU_102) rfl rfl rfl (by decide +kernel) ⟨Nat.le_of_ble_eq_true rfl, Nat.le_of_ble_eq_true rfl⟩) hH rfl hl.1 rfl (Nat.le_of_ble_eq_true rfl) dL_law_159 ⟨by omega, by omega⟩ (fun r' v' H locs hm hH => ?_)
  have hs := s_feed h hc hm
  refine lv_icmp_eq (tgt := 566) hx hb dL_law_162 (by decide) (fun _ => ?_) (fun q => absurd hs.1 q)
  exact K _ _ _ _ _ _ hs.2.1.1 hs.2.1.2 (by rw [hs.2.2]; exact hR) hH _ hl
set_option maxHeartbeats 4000000 in
set_option maxRecDepth 100000 in
theorem law_end (C : lawC p s m c b L xs ak adK adV) (h : lawI n (ad, ka, Lx, f, g) (mf, mg, mt)) (hR : lawR Lx cells slots) (hi : i + 5 < L) (hn : n ≤ 600) (hH : lawH D s (ad, ka, Lx, f, g) ma mk (mf, mg, mt) H locs) (hl : lv_has ls 4 [(0, .ref b), (1, .ref (ad 0)), (2, .ref (ma 0)), (3, .int (nI i))]) (K : lawK p l e s m b below meth c D Q ma mk n i (ad 0)) : W p l e room_1 s m #[Value.ref b] below meth c H locs cells slots Q (F0 m 167 ls []) := by
  obtain ⟨SF, hX, hbl, h3, hZ⟩ := C
  obtain ⟨hx, hb, hml, hown, hts⟩ := id SF
  obtain ⟨⟨hXI, hr, hI⟩, h6, h12⟩ := id h
  have hXI : XInv Lx f g := hXI
  have hI : MInv mf mg mt := hI
  have h12 : f 12 ≤ 15 * n := h12
  have hRb := id hR
  obtain ⟨hR1, hR2, -⟩ := hRb
  refine lv_aload_n hx hb dL_law_167 rfl (lv_at hl 1 rfl) ?_
  refine lS (k := 1) (pc := 168) hx hb hX hbl hH hl (by omega) h3 (by decide) dL_law_168 dL_law_169 dL_law_170 dL_law_171 dL_law_172 ?_
  refine lX (As := [.int (nI (aN (xs (i + 1))))]) (rest := []) (u := (ad, ka, Lx, f, g)) (v := (mf, mg, mt)) SF (c_X4_end l D ad ka Lx f g H.size (aN (xs (i + 1))) (aN_lt _) hXI.1.1.1) (cwV 1 hts (gV mU_108 mU_109 mU_110 mU_3 mU_111) rfl rfl rfl (by decide +kernel) ⟨Nat.le_of_ble_eq_true rfl, Nat.le_of_ble_eq_true rfl⟩) hH rfl hl.1 rfl (Nat.le_of_ble_eq_true rfl) dL_law_173 ⟨by omega, by omega⟩ (fun r u' H locs hc hH => ?_)
  refine lv_aload_n hx hb dL_law_176 rfl (lv_at hl 2 rfl) ?_
  refine lS (k := 1) (pc := 177) hx hb hX hbl hH hl (by omega) h3 (by decide) dL_law_177 dL_law_178 dL_law_179 dL_law_180 dL_law_181 ?_
  refine lM (As := [.int (nI (aN (xs (i + 1))))]) (rest := [.int r])  (v := (mf, mg, mt)) SF (c_X5_end l D ma mk mf mg mt H.size (aN (xs (i + 1))) (aN_lt _) hI.1.2.2.2.2.2.1) (cwV 1 hts (gV mU_112 mU_113 mU_114 mU_6 mU_115) rfl rfl rfl (by decide +kernel) ⟨Nat.le_of_ble_eq_true rfl, Nat.le_of_ble_eq_true rfl⟩) hH rfl hl.1 rfl (Nat.le_of_ble_eq_true rfl) dL_law_182 ⟨by omega, by omega⟩ (fun r' v' H locs hm hH => ?_)
  have hs := s_end h hc hm
  refine lv_icmp_eq (tgt := 566) hx hb dL_law_185 (by decide) (fun _ => ?_) (fun q => absurd hs.1 q)
  exact K _ _ _ _ _ _ hs.2.1.1 hs.2.1.2 (by rw [hs.2.2]; exact hR) hH _ hl
set_option maxHeartbeats 4000000 in
set_option maxRecDepth 100000 in
theorem law_program (C : lawC p s m c b L xs ak adK adV) (h : lawI n (ad, ka, Lx, f, g) (mf, mg, mt)) (hR : lawR Lx cells slots) (hi : i + 5 < L) (hn : n ≤ 600) (hH : lawH D s (ad, ka, Lx, f, g) ma mk (mf, mg, mt) H locs) (hl : lv_has ls 4 [(0, .ref b), (1, .ref (ad 0)), (2, .ref (ma 0)), (3, .int (nI i))]) (K : lawK p l e s m b below meth c D Q ma mk n i (ad 0)) : W p l e room_1 s m #[Value.ref b] below meth c H locs cells slots Q (F0 m 190 ls []) := by
  obtain ⟨SF, hX, hbl, h3, hZ⟩ := C
  obtain ⟨hx, hb, hml, hown, hts⟩ := id SF
  obtain ⟨⟨hXI, hr, hI⟩, h6, h12⟩ := id h
  have hXI : XInv Lx f g := hXI
  have hI : MInv mf mg mt := hI
  have h12 : f 12 ≤ 15 * n := h12
  have hRb := id hR
  obtain ⟨hR1, hR2, -⟩ := hRb
  refine lv_aload_n hx hb dL_law_190 rfl (lv_at hl 1 rfl) ?_
  refine lS (k := 1) (pc := 191) hx hb hX hbl hH hl (by omega) h3 (by decide) dL_law_191 dL_law_192 dL_law_193 dL_law_194 dL_law_195 ?_
  refine lXZ (As := [.int (nI (aN (xs (i + 1))))]) (rest := []) (u := (ad, ka, Lx, f, g)) (v := (mf, mg, mt)) SF (c_X4_program l D ad ka Lx f g ak adK adV H.size (aN (xs (i + 1))) hXI.1 (aN_lt _) h6) (cwV 1 hts (gV mU_119 mU_120 mU_121 mU_3 mU_122) rfl rfl rfl (by decide +kernel) ⟨Nat.le_of_ble_eq_true rfl, Nat.le_of_ble_eq_true rfl⟩) hH hZ rfl hl.1 rfl (Nat.le_of_ble_eq_true rfl) dL_law_196 ⟨by omega, by omega⟩ (fun r u' H locs hc hH => ?_)
  refine lv_aload_n hx hb dL_law_199 rfl (lv_at hl 2 rfl) ?_
  refine lS (k := 1) (pc := 200) hx hb hX hbl hH hl (by omega) h3 (by decide) dL_law_200 dL_law_201 dL_law_202 dL_law_203 dL_law_204 ?_
  refine lM (As := [.int (nI (aN (xs (i + 1))))]) (rest := [.int r])  (v := (mf, mg, mt)) SF (c_X5_program l D ma mk mf mg mt H.size (aN (xs (i + 1))) hI (aN_lt _)) (cwV 1 hts (gV mU_243 mU_244 mU_245 mU_6 mU_246) rfl rfl rfl (by decide +kernel) ⟨Nat.le_of_ble_eq_true rfl, Nat.le_of_ble_eq_true rfl⟩) hH rfl hl.1 rfl (Nat.le_of_ble_eq_true rfl) dL_law_205 ⟨by omega, by omega⟩ (fun r' v' H locs hm hH => ?_)
  have hs := s_program h hc hm
  refine lv_icmp_eq (tgt := 566) hx hb dL_law_208 (by decide) (fun _ => ?_) (fun q => absurd hs.1 q)
  exact K _ _ _ _ _ _ hs.2.1.1 hs.2.1.2 (by rw [hs.2.2]; exact hR) hH _ hl
set_option maxHeartbeats 4000000 in
set_option maxRecDepth 100000 in
theorem law_fault (C : lawC p s m c b L xs ak adK adV) (h : lawI n (ad, ka, Lx, f, g) (mf, mg, mt)) (hR : lawR Lx cells slots) (hi : i + 5 < L) (hn : n ≤ 600) (hH : lawH D s (ad, ka, Lx, f, g) ma mk (mf, mg, mt) H locs) (hl : lv_has ls 4 [(0, .ref b), (1, .ref (ad 0)), (2, .ref (ma 0)), (3, .int (nI i))]) (K : lawK p l e s m b below meth c D Q ma mk n i (ad 0)) : W p l e room_1 s m #[Value.ref b] below meth c H locs cells slots Q (F0 m 213 ls []) := by
  obtain ⟨SF, hX, hbl, h3, hZ⟩ := C
  obtain ⟨hx, hb, hml, hown, hts⟩ := id SF
  obtain ⟨⟨hXI, hr, hI⟩, h6, h12⟩ := id h
  have hXI : XInv Lx f g := hXI
  have hI : MInv mf mg mt := hI
  have h12 : f 12 ≤ 15 * n := h12
  have hRb := id hR
  obtain ⟨hR1, hR2, -⟩ := hRb
  refine lv_aload_n hx hb dL_law_213 rfl (lv_at hl 1 rfl) ?_
  refine lS (k := 1) (pc := 214) hx hb hX hbl hH hl (by omega) h3 (by decide) dL_law_214 dL_law_215 dL_law_216 dL_law_217 dL_law_218 ?_
  refine lXr (As := [.int (nI (aN (xs (i + 1))))]) (rest := []) (u := (ad, ka, Lx, f, g)) (v := (mf, mg, mt)) SF (c_X4_fault l D ad ka Lx f g (aN (xs (i + 1))) (aN_lt _)) (cwV 1 hts (gV mU_292 mU_293 mU_294 mU_3 mU_295) rfl rfl rfl (by decide +kernel) ⟨Nat.le_of_ble_eq_true rfl, Nat.le_of_ble_eq_true rfl⟩) hH rfl hl.1 rfl (Nat.le_of_ble_eq_true rfl) dL_law_219 ⟨by omega, by omega⟩ ?_
  refine lv_aload_n hx hb dL_law_222 rfl (lv_at hl 2 rfl) ?_
  refine lS (k := 1) (pc := 223) hx hb hX hbl hH hl (by omega) h3 (by decide) dL_law_223 dL_law_224 dL_law_225 dL_law_226 dL_law_227 ?_
  refine lMr (As := [.int (nI (aN (xs (i + 1))))]) (rest := [.int _]) (u := (ad, ka, Lx, f, g)) (v := (mf, mg, mt)) SF (c_X5_fault l D ma mk mf mg mt (aN (xs (i + 1))) hI (aN_lt _)) (cwV 1 hts (gV mU_297 mU_298 mU_299 mU_6 mU_300) rfl rfl rfl (by decide +kernel) ⟨Nat.le_of_ble_eq_true rfl, Nat.le_of_ble_eq_true rfl⟩) hH rfl hl.1 rfl (Nat.le_of_ble_eq_true rfl) dL_law_228 ⟨by omega, by omega⟩ ?_
  refine lv_icmp_eq (tgt := 566) hx hb dL_law_231 (by decide) (fun _ => ?_) (fun q => absurd (congrArg nI (fault_eq hr)) q)
  exact K _ _ _ _ _ _ (lawI_up h) rfl hR hH _ hl
set_option maxHeartbeats 4000000 in
set_option maxRecDepth 100000 in
theorem law_word (C : lawC p s m c b L xs ak adK adV) (h : lawI n (ad, ka, Lx, f, g) (mf, mg, mt)) (hR : lawR Lx cells slots) (hi : i + 5 < L) (hn : n ≤ 600) (hH : lawH D s (ad, ka, Lx, f, g) ma mk (mf, mg, mt) H locs) (hl : lv_has ls 4 [(0, .ref b), (1, .ref (ad 0)), (2, .ref (ma 0)), (3, .int (nI i))]) (K : lawK p l e s m b below meth c D Q ma mk n i (ad 0)) : W p l e room_1 s m #[Value.ref b] below meth c H locs cells slots Q (F0 m 236 ls []) := by
  obtain ⟨SF, hX, hbl, h3, hZ⟩ := C
  obtain ⟨hx, hb, hml, hown, hts⟩ := id SF
  obtain ⟨⟨hXI, hr, hI⟩, h6, h12⟩ := id h
  have hXI : XInv Lx f g := hXI
  have hI : MInv mf mg mt := hI
  have h12 : f 12 ≤ 15 * n := h12
  have hRb := id hR
  obtain ⟨hR1, hR2, -⟩ := hRb
  refine lv_aload_n hx hb dL_law_236 rfl (lv_at hl 1 rfl) ?_
  refine lS (k := 1) (pc := 237) hx hb hX hbl hH hl (by omega) h3 (by decide) dL_law_237 dL_law_238 dL_law_239 dL_law_240 dL_law_241 ?_
  refine lS (k := 2) (pc := 242) hx hb hX hbl hH hl (by omega) h3 (by decide) dL_law_242 dL_law_243 dL_law_244 dL_law_245 dL_law_246 ?_
  refine lS (k := 3) (pc := 247) hx hb hX hbl hH hl (by omega) h3 (by decide) dL_law_247 dL_law_248 dL_law_249 dL_law_250 dL_law_251 ?_
  refine lX (As := [.int (nI (aN (xs (i + 1)))), .int (nI (aN (xs (i + 2)))), .int (nI (aN (xs (i + 3))))]) (rest := []) (u := (ad, ka, Lx, f, g)) (v := (mf, mg, mt)) SF (c_X4_word l D ad ka Lx f g H.size (aN (xs (i + 1))) (aN (xs (i + 2))) (aN (xs (i + 3))) (aN_lt _) (aN_lt _) (aN_lt _)) (cwV 3 hts (gV mU_301 mU_302 mU_303 mU_3 mU_304) rfl rfl rfl (by decide +kernel) ⟨Nat.le_of_ble_eq_true rfl, Nat.le_of_ble_eq_true rfl⟩) hH rfl hl.1 rfl (Nat.le_of_ble_eq_true rfl) dL_law_252 ⟨by omega, by omega⟩ (fun r u' H locs hc hH => ?_)
  refine lv_aload_n hx hb dL_law_255 rfl (lv_at hl 2 rfl) ?_
  refine lS (k := 1) (pc := 256) hx hb hX hbl hH hl (by omega) h3 (by decide) dL_law_256 dL_law_257 dL_law_258 dL_law_259 dL_law_260 ?_
  refine lS (k := 2) (pc := 261) hx hb hX hbl hH hl (by omega) h3 (by decide) dL_law_261 dL_law_262 dL_law_263 dL_law_264 dL_law_265 ?_
  refine lS (k := 3) (pc := 266) hx hb hX hbl hH hl (by omega) h3 (by decide) dL_law_266 dL_law_267 dL_law_268 dL_law_269 dL_law_270 ?_
  refine lM (As := [.int (nI (aN (xs (i + 1)))), .int (nI (aN (xs (i + 2)))), .int (nI (aN (xs (i + 3))))]) (rest := [.int r])  (v := (mf, mg, mt)) SF (c_X5_word l D ma mk mf mg mt H.size (aN (xs (i + 1))) (aN (xs (i + 2))) (aN (xs (i + 3))) (aN_lt _) (aN_lt _) (aN_lt _)) (cwV 3 hts (gV mU_307 mU_308 mU_309 mU_6 mU_310) rfl rfl rfl (by decide +kernel) ⟨Nat.le_of_ble_eq_true rfl, Nat.le_of_ble_eq_true rfl⟩) hH rfl hl.1 rfl (Nat.le_of_ble_eq_true rfl) dL_law_271 ⟨by omega, by omega⟩ (fun r' v' H locs hm hH => ?_)
  have hs := s_word h hc hm
  refine lv_icmp_eq (tgt := 566) hx hb dL_law_274 (by decide) (fun _ => ?_) (fun q => absurd hs.1 q)
  exact K _ _ _ _ _ _ hs.2.1.1 hs.2.1.2 (by rw [hs.2.2]; exact hR) hH _ hl
set_option maxHeartbeats 4000000 in
set_option maxRecDepth 100000 in
theorem law_falls (C : lawC p s m c b L xs ak adK adV) (h : lawI n (ad, ka, Lx, f, g) (mf, mg, mt)) (hR : lawR Lx cells slots) (hi : i + 5 < L) (hn : n ≤ 600) (hH : lawH D s (ad, ka, Lx, f, g) ma mk (mf, mg, mt) H locs) (hl : lv_has ls 4 [(0, .ref b), (1, .ref (ad 0)), (2, .ref (ma 0)), (3, .int (nI i))]) (K : lawK p l e s m b below meth c D Q ma mk n i (ad 0)) : W p l e room_1 s m #[Value.ref b] below meth c H locs cells slots Q (F0 m 279 ls []) := by
  obtain ⟨SF, hX, hbl, h3, hZ⟩ := C
  obtain ⟨hx, hb, hml, hown, hts⟩ := id SF
  obtain ⟨⟨hXI, hr, hI⟩, h6, h12⟩ := id h
  have hXI : XInv Lx f g := hXI
  have hI : MInv mf mg mt := hI
  have h12 : f 12 ≤ 15 * n := h12
  have hRb := id hR
  obtain ⟨hR1, hR2, -⟩ := hRb
  by_cases z : (aN (xs (i + 1))) = 0
  · refine lv_aload_n hx hb dL_law_279 rfl (lv_at hl 1 rfl) ?_
    refine lS (k := 1) (pc := 280) hx hb hX hbl hH hl (by omega) h3 (by decide) dL_law_280 dL_law_281 dL_law_282 dL_law_283 dL_law_284 ?_
    refine lv_if_eq (tgt := 292) hx hb dL_law_285 (by decide) (fun _ => ?_) (fun q => absurd ((nI_is0 (aN_lt _)).mpr z) q)
    refine lv_iconst (v := nI 0) hx hb dL_law_292 (by decide) ?_
    refine lXv (As := [.int (nI 0)]) (rest := []) (u := (ad, ka, Lx, f, g)) (v := (mf, mg, mt)) SF (c_X4_falls l D ad ka Lx f g H.size 0 (by decide)) (cwV 1 hts (gV mU_311 mU_312 mU_313 mU_3 mU_314) rfl rfl rfl (by decide +kernel) ⟨Nat.le_of_ble_eq_true rfl, Nat.le_of_ble_eq_true rfl⟩) hH rfl hl.1 rfl (Nat.le_of_ble_eq_true rfl) dL_law_293 ⟨by omega, by omega⟩ (fun u' H locs hc hH => ?_)
    refine lv_aload_n hx hb dL_law_296 rfl (lv_at hl 2 rfl) ?_
    refine lS (k := 1) (pc := 297) hx hb hX hbl hH hl (by omega) h3 (by decide) dL_law_297 dL_law_298 dL_law_299 dL_law_300 dL_law_301 ?_
    refine lv_if_eq (tgt := 309) hx hb dL_law_302 (by decide) (fun _ => ?_) (fun q => absurd ((nI_is0 (aN_lt _)).mpr z) q)
    refine lv_iconst (v := nI 0) hx hb dL_law_309 (by decide) ?_
    refine lMv (As := [.int (nI 0)]) (rest := [])  (v := (mf, mg, mt)) SF (c_X5_falls l D ma mk mf mg mt H.size 0 (by decide)) (cwV 1 hts (gV mU_316 mU_317 mU_318 mU_6 mU_319) rfl rfl rfl (by decide +kernel) ⟨Nat.le_of_ble_eq_true rfl, Nat.le_of_ble_eq_true rfl⟩) hH rfl hl.1 rfl (Nat.le_of_ble_eq_true rfl) dL_law_310 ⟨by omega, by omega⟩ (fun v' H locs hm hH => ?_)
    refine lv_goto (tgt := 566) hx hb dL_law_313 (by decide) ?_
    have hs := s_falls (by decide) h hc hm
    exact K _ _ _ _ _ _ hs.1.1 hs.1.2 (by rw [hs.2]; exact hR) hH _ hl
  · refine lv_aload_n hx hb dL_law_279 rfl (lv_at hl 1 rfl) ?_
    refine lS (k := 1) (pc := 280) hx hb hX hbl hH hl (by omega) h3 (by decide) dL_law_280 dL_law_281 dL_law_282 dL_law_283 dL_law_284 ?_
    refine lv_if_eq (tgt := 292) hx hb dL_law_285 (by decide) (fun q => absurd ((nI_is0 (aN_lt _)).mp q) z) (fun _ => ?_)
    refine lv_iconst (v := nI 1) hx hb dL_law_288 (by decide) ?_
    refine lv_goto (tgt := 293) hx hb dL_law_289 (by decide) ?_
    refine lXv (As := [.int (nI 1)]) (rest := []) (u := (ad, ka, Lx, f, g)) (v := (mf, mg, mt)) SF (c_X4_falls l D ad ka Lx f g H.size 1 (by decide)) (cwV 1 hts (gV mU_311 mU_312 mU_313 mU_3 mU_314) rfl rfl rfl (by decide +kernel) ⟨Nat.le_of_ble_eq_true rfl, Nat.le_of_ble_eq_true rfl⟩) hH rfl hl.1 rfl (Nat.le_of_ble_eq_true rfl) dL_law_293 ⟨by omega, by omega⟩ (fun u' H locs hc hH => ?_)
    refine lv_aload_n hx hb dL_law_296 rfl (lv_at hl 2 rfl) ?_
    refine lS (k := 1) (pc := 297) hx hb hX hbl hH hl (by omega) h3 (by decide) dL_law_297 dL_law_298 dL_law_299 dL_law_300 dL_law_301 ?_
    refine lv_if_eq (tgt := 309) hx hb dL_law_302 (by decide) (fun q => absurd ((nI_is0 (aN_lt _)).mp q) z) (fun _ => ?_)
    refine lv_iconst (v := nI 1) hx hb dL_law_305 (by decide) ?_
    refine lv_goto (tgt := 310) hx hb dL_law_306 (by decide) ?_
    refine lMv (As := [.int (nI 1)]) (rest := [])  (v := (mf, mg, mt)) SF (c_X5_falls l D ma mk mf mg mt H.size 1 (by decide)) (cwV 1 hts (gV mU_316 mU_317 mU_318 mU_6 mU_319) rfl rfl rfl (by decide +kernel) ⟨Nat.le_of_ble_eq_true rfl, Nat.le_of_ble_eq_true rfl⟩) hH rfl hl.1 rfl (Nat.le_of_ble_eq_true rfl) dL_law_310 ⟨by omega, by omega⟩ (fun v' H locs hm hH => ?_)
    refine lv_goto (tgt := 566) hx hb dL_law_313 (by decide) ?_
    have hs := s_falls (by decide) h hc hm
    exact K _ _ _ _ _ _ hs.1.1 hs.1.2 (by rw [hs.2]; exact hR) hH _ hl
set_option maxHeartbeats 4000000 in
set_option maxRecDepth 100000 in
theorem law_walk (C : lawC p s m c b L xs ak adK adV) (h : lawI n (ad, ka, Lx, f, g) (mf, mg, mt)) (hR : lawR Lx cells slots) (hi : i + 5 < L) (hn : n ≤ 600) (hH : lawH D s (ad, ka, Lx, f, g) ma mk (mf, mg, mt) H locs) (hl : lv_has ls 4 [(0, .ref b), (1, .ref (ad 0)), (2, .ref (ma 0)), (3, .int (nI i))]) (K : lawK p l e s m b below meth c D Q ma mk n i (ad 0)) : W p l e room_1 s m #[Value.ref b] below meth c H locs cells slots Q (F0 m 316 ls []) := by
  obtain ⟨SF, hX, hbl, h3, hZ⟩ := C
  obtain ⟨hx, hb, hml, hown, hts⟩ := id SF
  obtain ⟨⟨hXI, hr, hI⟩, h6, h12⟩ := id h
  have hXI : XInv Lx f g := hXI
  have hI : MInv mf mg mt := hI
  have h12 : f 12 ≤ 15 * n := h12
  have hRb := id hR
  obtain ⟨hR1, hR2, -⟩ := hRb
  obtain ⟨c0, s0, r1, r2⟩ := room_ex (True ∧ Lx = 700 ∧ (f 1 = 0 ∧ 700 < (BX f g).1))
  have hrm := lawR_rm hR r1 r2
  refine lv_aload_n hx hb dL_law_316 rfl (lv_at hl 1 rfl) ?_
  refine lX (As := []) (rest := []) (u := (ad, ka, Lx, f, g)) (v := (mf, mg, mt)) SF (c_X4_walk l D ad ka Lx f g c0 s0 H.size hXI (by omega) (fun q0 q1 q2 => by have := r1 ⟨trivial, q1, q0, q2⟩; omega)) (cwV 0 hts (gV mU_321 mU_322 mU_323 mU_3 mU_324) rfl rfl rfl (by decide +kernel) ⟨Nat.le_of_ble_eq_true rfl, Nat.le_of_ble_eq_true rfl⟩) hH rfl hl.1 rfl (Nat.le_of_ble_eq_true rfl) dL_law_317 hrm (fun r u' H locs hc hH => ?_)
  refine lv_aload_n hx hb dL_law_320 rfl (lv_at hl 2 rfl) ?_
  refine lM (As := []) (rest := [.int r])  (v := (mf, mg, mt)) SF (c_X5_walk l D ma mk mf mg mt H.size hI) (cwV 0 hts (gV mU_463 mU_464 mU_465 mU_6 mU_466) rfl rfl rfl (by decide +kernel) ⟨Nat.le_of_ble_eq_true rfl, Nat.le_of_ble_eq_true rfl⟩) hH rfl hl.1 rfl (Nat.le_of_ble_eq_true rfl) dL_law_321 ⟨by omega, by omega⟩ (fun r' v' H locs hm hH => ?_)
  have hs := s_walk h hc hm
  refine lv_icmp_eq (tgt := 566) hx hb dL_law_324 (by decide) (fun _ => ?_) (fun q => absurd hs.1 q)
  exact K _ _ _ _ _ _ hs.2.1.1 hs.2.1.2 (lawR_wk (P := True) hR r1 r2 (fun q => absurd trivial q) (fun _ => hs.2.2)) hH _ hl
set_option maxHeartbeats 4000000 in
set_option maxRecDepth 100000 in
theorem law_ends (C : lawC p s m c b L xs ak adK adV) (h : lawI n (ad, ka, Lx, f, g) (mf, mg, mt)) (hR : lawR Lx cells slots) (hi : i + 5 < L) (hn : n ≤ 600) (hH : lawH D s (ad, ka, Lx, f, g) ma mk (mf, mg, mt) H locs) (hl : lv_has ls 4 [(0, .ref b), (1, .ref (ad 0)), (2, .ref (ma 0)), (3, .int (nI i))]) (K : lawK p l e s m b below meth c D Q ma mk n i (ad 0)) : W p l e room_1 s m #[Value.ref b] below meth c H locs cells slots Q (F0 m 329 ls []) := by
  obtain ⟨SF, hX, hbl, h3, hZ⟩ := C
  obtain ⟨hx, hb, hml, hown, hts⟩ := id SF
  obtain ⟨⟨hXI, hr, hI⟩, h6, h12⟩ := id h
  have hXI : XInv Lx f g := hXI
  have hI : MInv mf mg mt := hI
  have h12 : f 12 ≤ 15 * n := h12
  have hRb := id hR
  obtain ⟨hR1, hR2, -⟩ := hRb
  obtain ⟨c0, s0, r1, r2⟩ := room_ex ((aN (xs (i + 1))) ≤ 3 ∧ Lx = 700 ∧ (f 1 = 0 ∧ 700 < (BX f g).1))
  have hrm := lawR_rm hR r1 r2
  refine lv_aload_n hx hb dL_law_329 rfl (lv_at hl 1 rfl) ?_
  refine lS (k := 1) (pc := 330) hx hb hX hbl hH hl (by omega) h3 (by decide) dL_law_330 dL_law_331 dL_law_332 dL_law_333 dL_law_334 ?_
  refine lX (As := [.int (nI (aN (xs (i + 1))))]) (rest := []) (u := (ad, ka, Lx, f, g)) (v := (mf, mg, mt)) SF (c_X4_ends l D ad ka Lx f g c0 s0 H.size (aN (xs (i + 1))) hXI (by omega) (fun q q0 q1 q2 => by have := r1 ⟨q, q1, q0, q2⟩; omega) (aN_lt _)) (cwV 1 hts (gV mU_528 mU_529 mU_530 mU_3 mU_531) rfl rfl rfl (by decide +kernel) ⟨Nat.le_of_ble_eq_true rfl, Nat.le_of_ble_eq_true rfl⟩) hH rfl hl.1 rfl (Nat.le_of_ble_eq_true rfl) dL_law_335 hrm (fun r u' H locs hc hH => ?_)
  refine lv_aload_n hx hb dL_law_338 rfl (lv_at hl 2 rfl) ?_
  refine lS (k := 1) (pc := 339) hx hb hX hbl hH hl (by omega) h3 (by decide) dL_law_339 dL_law_340 dL_law_341 dL_law_342 dL_law_343 ?_
  refine lM (As := [.int (nI (aN (xs (i + 1))))]) (rest := [.int r])  (v := (mf, mg, mt)) SF (c_X5_ends l D ma mk mf mg mt H.size (aN (xs (i + 1))) hI (aN_lt _)) (cwV 1 hts (gV mU_543 mU_544 mU_545 mU_6 mU_546) rfl rfl rfl (by decide +kernel) ⟨Nat.le_of_ble_eq_true rfl, Nat.le_of_ble_eq_true rfl⟩) hH rfl hl.1 rfl (Nat.le_of_ble_eq_true rfl) dL_law_344 ⟨by omega, by omega⟩ (fun r' v' H locs hm hH => ?_)
  have hs := s_ends h hc hm
  refine lv_icmp_eq (tgt := 566) hx hb dL_law_347 (by decide) (fun _ => ?_) (fun q => absurd hs.1 q)
  exact K _ _ _ _ _ _ hs.2.1.1 hs.2.1.2 (lawR_wk (P := True) hR r1 r2 hs.2.2.1 hs.2.2.2) hH _ hl
set_option maxHeartbeats 4000000 in
set_option maxRecDepth 100000 in
theorem law_both (C : lawC p s m c b L xs ak adK adV) (h : lawI n (ad, ka, Lx, f, g) (mf, mg, mt)) (hR : lawR Lx cells slots) (hi : i + 5 < L) (hn : n ≤ 600) (hH : lawH D s (ad, ka, Lx, f, g) ma mk (mf, mg, mt) H locs) (hl : lv_has ls 4 [(0, .ref b), (1, .ref (ad 0)), (2, .ref (ma 0)), (3, .int (nI i))]) (K : lawK p l e s m b below meth c D Q ma mk n i (ad 0)) : W p l e room_1 s m #[Value.ref b] below meth c H locs cells slots Q (F0 m 352 ls []) := by
  obtain ⟨SF, hX, hbl, h3, hZ⟩ := C
  obtain ⟨hx, hb, hml, hown, hts⟩ := id SF
  obtain ⟨⟨hXI, hr, hI⟩, h6, h12⟩ := id h
  have hXI : XInv Lx f g := hXI
  have hI : MInv mf mg mt := hI
  have h12 : f 12 ≤ 15 * n := h12
  have hRb := id hR
  obtain ⟨hR1, hR2, -⟩ := hRb
  obtain ⟨c0, s0, r1, r2⟩ := room_ex (((aN (xs (i + 1))) ≤ f 10 ∧ (aN (xs (i + 2))) ≤ f 11) ∧ Lx = 700 ∧ (f 1 = 0 ∧ 700 < (BX f g).1))
  have hrm := lawR_rm hR r1 r2
  refine lv_aload_n hx hb dL_law_352 rfl (lv_at hl 1 rfl) ?_
  refine lS (k := 1) (pc := 353) hx hb hX hbl hH hl (by omega) h3 (by decide) dL_law_353 dL_law_354 dL_law_355 dL_law_356 dL_law_357 ?_
  refine lS (k := 2) (pc := 358) hx hb hX hbl hH hl (by omega) h3 (by decide) dL_law_358 dL_law_359 dL_law_360 dL_law_361 dL_law_362 ?_
  refine lX (As := [.int (nI (aN (xs (i + 1)))), .int (nI (aN (xs (i + 2))))]) (rest := []) (u := (ad, ka, Lx, f, g)) (v := (mf, mg, mt)) SF (c_X4_both l D ad ka Lx f g c0 s0 H.size (aN (xs (i + 1))) (aN (xs (i + 2))) hXI (by omega) (fun q q0 q1 q2 => by have := r1 ⟨q, q1, q0, q2⟩; omega) (aN_lt _) (aN_lt _)) (cwV 2 hts (gV mU_555 mU_556 mU_557 mU_3 mU_558) rfl rfl rfl (by decide +kernel) ⟨Nat.le_of_ble_eq_true rfl, Nat.le_of_ble_eq_true rfl⟩) hH rfl hl.1 rfl (Nat.le_of_ble_eq_true rfl) dL_law_363 hrm (fun r u' H locs hc hH => ?_)
  refine lv_aload_n hx hb dL_law_366 rfl (lv_at hl 2 rfl) ?_
  refine lS (k := 1) (pc := 367) hx hb hX hbl hH hl (by omega) h3 (by decide) dL_law_367 dL_law_368 dL_law_369 dL_law_370 dL_law_371 ?_
  refine lS (k := 2) (pc := 372) hx hb hX hbl hH hl (by omega) h3 (by decide) dL_law_372 dL_law_373 dL_law_374 dL_law_375 dL_law_376 ?_
  refine lM (As := [.int (nI (aN (xs (i + 1)))), .int (nI (aN (xs (i + 2))))]) (rest := [.int r])  (v := (mf, mg, mt)) SF (c_X5_both l D ma mk mf mg mt H.size (aN (xs (i + 1))) (aN (xs (i + 2))) hI (aN_lt _) (aN_lt _)) (cwV 2 hts (gV mU_588 mU_589 mU_590 mU_6 mU_591) rfl rfl rfl (by decide +kernel) ⟨Nat.le_of_ble_eq_true rfl, Nat.le_of_ble_eq_true rfl⟩) hH rfl hl.1 rfl (Nat.le_of_ble_eq_true rfl) dL_law_377 ⟨by omega, by omega⟩ (fun r' v' H locs hm hH => ?_)
  have hs := s_both h hc hm
  refine lv_icmp_eq (tgt := 566) hx hb dL_law_380 (by decide) (fun _ => ?_) (fun q => absurd hs.1 q)
  exact K _ _ _ _ _ _ hs.2.1.1 hs.2.1.2 (lawR_wk (P := True) hR r1 r2 hs.2.2.1 hs.2.2.2) hH _ hl
set_option maxHeartbeats 4000000 in
set_option maxRecDepth 100000 in
theorem law_outcome (C : lawC p s m c b L xs ak adK adV) (h : lawI n (ad, ka, Lx, f, g) (mf, mg, mt)) (hR : lawR Lx cells slots) (hi : i + 5 < L) (hn : n ≤ 600) (hH : lawH D s (ad, ka, Lx, f, g) ma mk (mf, mg, mt) H locs) (hl : lv_has ls 4 [(0, .ref b), (1, .ref (ad 0)), (2, .ref (ma 0)), (3, .int (nI i))]) (K : lawK p l e s m b below meth c D Q ma mk n i (ad 0)) : W p l e room_1 s m #[Value.ref b] below meth c H locs cells slots Q (F0 m 385 ls []) := by
  obtain ⟨SF, hX, hbl, h3, hZ⟩ := C
  obtain ⟨hx, hb, hml, hown, hts⟩ := id SF
  obtain ⟨⟨hXI, hr, hI⟩, h6, h12⟩ := id h
  have hXI : XInv Lx f g := hXI
  have hI : MInv mf mg mt := hI
  have h12 : f 12 ≤ 15 * n := h12
  have hRb := id hR
  obtain ⟨hR1, hR2, -⟩ := hRb
  obtain ⟨c0, s0, r1, r2⟩ := room_ex (((aN (xs (i + 1))) ≤ 255 ∧ (aN (xs (i + 2))) ≤ 15) ∧ Lx = 700 ∧ (f 1 = 0 ∧ 700 < (BX f g).1))
  have hrm := lawR_rm hR r1 r2
  refine lv_aload_n hx hb dL_law_385 rfl (lv_at hl 1 rfl) ?_
  refine lS (k := 1) (pc := 386) hx hb hX hbl hH hl (by omega) h3 (by decide) dL_law_386 dL_law_387 dL_law_388 dL_law_389 dL_law_390 ?_
  refine lS (k := 2) (pc := 391) hx hb hX hbl hH hl (by omega) h3 (by decide) dL_law_391 dL_law_392 dL_law_393 dL_law_394 dL_law_395 ?_
  refine lX (As := [.int (nI (aN (xs (i + 1)))), .int (nI (aN (xs (i + 2))))]) (rest := []) (u := (ad, ka, Lx, f, g)) (v := (mf, mg, mt)) SF (c_X4_outcome l D ad ka Lx f g c0 s0 H.size (aN (xs (i + 1))) (aN (xs (i + 2))) hXI (by omega) (fun q q0 q1 q2 => by have := r1 ⟨q, q1, q0, q2⟩; omega) (aN_lt _) (aN_lt _)) (cwV 2 hts (gV mU_601 mU_602 mU_603 mU_3 mU_604) rfl rfl rfl (by decide +kernel) ⟨Nat.le_of_ble_eq_true rfl, Nat.le_of_ble_eq_true rfl⟩) hH rfl hl.1 rfl (Nat.le_of_ble_eq_true rfl) dL_law_396 hrm (fun r u' H locs hc hH => ?_)
  refine lv_aload_n hx hb dL_law_399 rfl (lv_at hl 2 rfl) ?_
  refine lS (k := 1) (pc := 400) hx hb hX hbl hH hl (by omega) h3 (by decide) dL_law_400 dL_law_401 dL_law_402 dL_law_403 dL_law_404 ?_
  refine lS (k := 2) (pc := 405) hx hb hX hbl hH hl (by omega) h3 (by decide) dL_law_405 dL_law_406 dL_law_407 dL_law_408 dL_law_409 ?_
  refine lM (As := [.int (nI (aN (xs (i + 1)))), .int (nI (aN (xs (i + 2))))]) (rest := [.int r])  (v := (mf, mg, mt)) SF (c_X5_outcome l D ma mk mf mg mt H.size (aN (xs (i + 1))) (aN (xs (i + 2))) hI (aN_lt _) (aN_lt _)) (cwV 2 hts (gV mU_608 mU_609 mU_610 mU_6 mU_611) rfl rfl rfl (by decide +kernel) ⟨Nat.le_of_ble_eq_true rfl, Nat.le_of_ble_eq_true rfl⟩) hH rfl hl.1 rfl (Nat.le_of_ble_eq_true rfl) dL_law_410 ⟨by omega, by omega⟩ (fun r' v' H locs hm hH => ?_)
  have hs := s_outcome h hc hm
  refine lv_icmp_eq (tgt := 566) hx hb dL_law_413 (by decide) (fun _ => ?_) (fun q => absurd hs.1 q)
  exact K _ _ _ _ _ _ hs.2.1.1 hs.2.1.2 (lawR_wk (P := True) hR r1 r2 hs.2.2.1 hs.2.2.2) hH _ hl
set_option maxHeartbeats 4000000 in
set_option maxRecDepth 100000 in
theorem law_step (C : lawC p s m c b L xs ak adK adV) (h : lawI n (ad, ka, Lx, f, g) (mf, mg, mt)) (hR : lawR Lx cells slots) (hi : i + 5 < L) (hn : n ≤ 600) (hH : lawH D s (ad, ka, Lx, f, g) ma mk (mf, mg, mt) H locs) (hl : lv_has ls 4 [(0, .ref b), (1, .ref (ad 0)), (2, .ref (ma 0)), (3, .int (nI i))]) (K : lawK p l e s m b below meth c D Q ma mk n i (ad 0)) : W p l e room_1 s m #[Value.ref b] below meth c H locs cells slots Q (F0 m 418 ls []) := by
  obtain ⟨SF, hX, hbl, h3, hZ⟩ := C
  obtain ⟨hx, hb, hml, hown, hts⟩ := id SF
  obtain ⟨⟨hXI, hr, hI⟩, h6, h12⟩ := id h
  have hXI : XInv Lx f g := hXI
  have hI : MInv mf mg mt := hI
  have h12 : f 12 ≤ 15 * n := h12
  have hRb := id hR
  obtain ⟨hR1, hR2, -⟩ := hRb
  refine lv_aload_n hx hb dL_law_418 rfl (lv_at hl 1 rfl) ?_
  refine lS (k := 1) (pc := 419) hx hb hX hbl hH hl (by omega) h3 (by decide) dL_law_419 dL_law_420 dL_law_421 dL_law_422 dL_law_423 ?_
  refine lXr (As := [.int (nI (aN (xs (i + 1))))]) (rest := []) (u := (ad, ka, Lx, f, g)) (v := (mf, mg, mt)) SF (c_X4_step l D ad ka Lx f g (aN (xs (i + 1))) (aN_lt _) hXI.1.1.2.2.1) (cwV 1 hts (gV mU_619 mU_620 mU_621 mU_3 mU_622) rfl rfl rfl (by decide +kernel) ⟨Nat.le_of_ble_eq_true rfl, Nat.le_of_ble_eq_true rfl⟩) hH rfl hl.1 rfl (Nat.le_of_ble_eq_true rfl) dL_law_424 ⟨by omega, by omega⟩ ?_
  refine lv_aload_n hx hb dL_law_427 rfl (lv_at hl 2 rfl) ?_
  refine lS (k := 1) (pc := 428) hx hb hX hbl hH hl (by omega) h3 (by decide) dL_law_428 dL_law_429 dL_law_430 dL_law_431 dL_law_432 ?_
  refine lMr (As := [.int (nI (aN (xs (i + 1))))]) (rest := [.int _]) (u := (ad, ka, Lx, f, g)) (v := (mf, mg, mt)) SF (c_X5_step l D ma mk mf mg mt (aN (xs (i + 1))) hI (aN_lt _)) (cwV 1 hts (gV mU_623 mU_624 mU_625 mU_6 mU_626) rfl rfl rfl (by decide +kernel) ⟨Nat.le_of_ble_eq_true rfl, Nat.le_of_ble_eq_true rfl⟩) hH rfl hl.1 rfl (Nat.le_of_ble_eq_true rfl) dL_law_433 ⟨by omega, by omega⟩ ?_
  refine lv_icmp_eq (tgt := 566) hx hb dL_law_436 (by decide) (fun _ => ?_) (fun q => absurd (congrArg nI (step_eq hr)) q)
  exact K _ _ _ _ _ _ (lawI_up h) rfl hR hH _ hl
set_option maxHeartbeats 4000000 in
set_option maxRecDepth 100000 in
theorem law_missing (C : lawC p s m c b L xs ak adK adV) (h : lawI n (ad, ka, Lx, f, g) (mf, mg, mt)) (hR : lawR Lx cells slots) (hi : i + 5 < L) (hn : n ≤ 600) (hH : lawH D s (ad, ka, Lx, f, g) ma mk (mf, mg, mt) H locs) (hl : lv_has ls 4 [(0, .ref b), (1, .ref (ad 0)), (2, .ref (ma 0)), (3, .int (nI i))]) (K : lawK p l e s m b below meth c D Q ma mk n i (ad 0)) : W p l e room_1 s m #[Value.ref b] below meth c H locs cells slots Q (F0 m 441 ls []) := by
  obtain ⟨SF, hX, hbl, h3, hZ⟩ := C
  obtain ⟨hx, hb, hml, hown, hts⟩ := id SF
  obtain ⟨⟨hXI, hr, hI⟩, h6, h12⟩ := id h
  have hXI : XInv Lx f g := hXI
  have hI : MInv mf mg mt := hI
  have h12 : f 12 ≤ 15 * n := h12
  have hRb := id hR
  obtain ⟨hR1, hR2, -⟩ := hRb
  by_cases z : (aN (xs (i + 1))) = 0
  · obtain ⟨c0, s0, r1, r2⟩ := room_ex (Lx = 700 ∧ askOK f 0 (aN (xs (i + 2))) (aN (xs (i + 3))) ∧ bigA f g 0 (aN (xs (i + 2))) (aN (xs (i + 3))))
    have hrm := lawR_rm hR r1 r2
    refine lv_aload_n hx hb dL_law_441 rfl (lv_at hl 1 rfl) ?_
    refine lS (k := 1) (pc := 442) hx hb hX hbl hH hl (by omega) h3 (by decide) dL_law_442 dL_law_443 dL_law_444 dL_law_445 dL_law_446 ?_
    refine lv_if_eq (tgt := 454) hx hb dL_law_447 (by decide) (fun _ => ?_) (fun q => absurd ((nI_is0 (aN_lt _)).mpr z) q)
    refine lv_iconst (v := nI 0) hx hb dL_law_454 (by decide) ?_
    refine lS (k := 2) (pc := 455) hx hb hX hbl hH hl (by omega) h3 (by decide) dL_law_455 dL_law_456 dL_law_457 dL_law_458 dL_law_459 ?_
    refine lS (k := 3) (pc := 460) hx hb hX hbl hH hl (by omega) h3 (by decide) dL_law_460 dL_law_461 dL_law_462 dL_law_463 dL_law_464 ?_
    refine lX (As := [.int (nI 0), .int (nI (aN (xs (i + 2)))), .int (nI (aN (xs (i + 3))))]) (rest := []) (u := (ad, ka, Lx, f, g)) (v := (mf, mg, mt)) SF (c_X4_missing l D ad ka Lx f g c0 s0 H.size 0 (aN (xs (i + 2))) (aN (xs (i + 3))) hXI (by omega) (by decide) (aN_lt _) (aN_lt _) (fun q0 q1 q2 => by have := r1 ⟨q0, q1, q2⟩; omega)) (cwV 3 hts (gV mU_627 mU_628 mU_629 mU_3 mU_630) rfl rfl rfl (by decide +kernel) ⟨Nat.le_of_ble_eq_true rfl, Nat.le_of_ble_eq_true rfl⟩) hH rfl hl.1 rfl (Nat.le_of_ble_eq_true rfl) dL_law_465 hrm (fun r u' H locs hc hH => ?_)
    refine lv_aload_n hx hb dL_law_468 rfl (lv_at hl 2 rfl) ?_
    refine lS (k := 1) (pc := 469) hx hb hX hbl hH hl (by omega) h3 (by decide) dL_law_469 dL_law_470 dL_law_471 dL_law_472 dL_law_473 ?_
    refine lv_if_eq (tgt := 481) hx hb dL_law_474 (by decide) (fun _ => ?_) (fun q => absurd ((nI_is0 (aN_lt _)).mpr z) q)
    refine lv_iconst (v := nI 0) hx hb dL_law_481 (by decide) ?_
    refine lS (k := 2) (pc := 482) hx hb hX hbl hH hl (by omega) h3 (by decide) dL_law_482 dL_law_483 dL_law_484 dL_law_485 dL_law_486 ?_
    refine lS (k := 3) (pc := 487) hx hb hX hbl hH hl (by omega) h3 (by decide) dL_law_487 dL_law_488 dL_law_489 dL_law_490 dL_law_491 ?_
    refine lM (As := [.int (nI 0), .int (nI (aN (xs (i + 2)))), .int (nI (aN (xs (i + 3))))]) (rest := [.int r])  (v := (mf, mg, mt)) SF (c_X5_missing l D ma mk mf mg mt H.size 0 (aN (xs (i + 2))) (aN (xs (i + 3))) hI (by decide) (aN_lt _) (aN_lt _)) (cwV 3 hts (gV mU_644 mU_645 mU_646 mU_6 mU_647) rfl rfl rfl (by decide +kernel) ⟨Nat.le_of_ble_eq_true rfl, Nat.le_of_ble_eq_true rfl⟩) hH rfl hl.1 rfl (Nat.le_of_ble_eq_true rfl) dL_law_492 ⟨by omega, by omega⟩ (fun r' v' H locs hm hH => ?_)
    have hs := s_miss h hc hm
    refine lv_icmp_eq (tgt := 566) hx hb dL_law_495 (by decide) (fun _ => ?_) (fun q => absurd hs.1 q)
    have hRn : lawR u'.2.2.1 (cells + c0) (slots + s0) := by
      refine lawR_up hR r1 r2 (fun q => ⟨q.1, (hs.2.2.2 q.2.1).1 q.2.2⟩) (fun q => ?_)
      by_cases k1 : askOK f 0 (aN (xs (i + 2))) (aN (xs (i + 3)))
      · by_cases k2 : bigA f g 0 (aN (xs (i + 2))) (aN (xs (i + 3)))
        · exact Or.inr ((hs.2.2.2 k1).1 k2)
        · exact Or.inl ((hs.2.2.2 k1).2 k2)
      · exact Or.inl (hs.2.2.1 k1)
    exact K _ _ _ _ _ _ hs.2.1.1 hs.2.1.2 hRn hH _ hl
  · obtain ⟨c0, s0, r1, r2⟩ := room_ex (Lx = 700 ∧ askOK f 1 (aN (xs (i + 2))) (aN (xs (i + 3))) ∧ bigA f g 1 (aN (xs (i + 2))) (aN (xs (i + 3))))
    have hrm := lawR_rm hR r1 r2
    refine lv_aload_n hx hb dL_law_441 rfl (lv_at hl 1 rfl) ?_
    refine lS (k := 1) (pc := 442) hx hb hX hbl hH hl (by omega) h3 (by decide) dL_law_442 dL_law_443 dL_law_444 dL_law_445 dL_law_446 ?_
    refine lv_if_eq (tgt := 454) hx hb dL_law_447 (by decide) (fun q => absurd ((nI_is0 (aN_lt _)).mp q) z) (fun _ => ?_)
    refine lv_iconst (v := nI 1) hx hb dL_law_450 (by decide) ?_
    refine lv_goto (tgt := 455) hx hb dL_law_451 (by decide) ?_
    refine lS (k := 2) (pc := 455) hx hb hX hbl hH hl (by omega) h3 (by decide) dL_law_455 dL_law_456 dL_law_457 dL_law_458 dL_law_459 ?_
    refine lS (k := 3) (pc := 460) hx hb hX hbl hH hl (by omega) h3 (by decide) dL_law_460 dL_law_461 dL_law_462 dL_law_463 dL_law_464 ?_
    refine lX (As := [.int (nI 1), .int (nI (aN (xs (i + 2)))), .int (nI (aN (xs (i + 3))))]) (rest := []) (u := (ad, ka, Lx, f, g)) (v := (mf, mg, mt)) SF (c_X4_missing l D ad ka Lx f g c0 s0 H.size 1 (aN (xs (i + 2))) (aN (xs (i + 3))) hXI (by omega) (by decide) (aN_lt _) (aN_lt _) (fun q0 q1 q2 => by have := r1 ⟨q0, q1, q2⟩; omega)) (cwV 3 hts (gV mU_627 mU_628 mU_629 mU_3 mU_630) rfl rfl rfl (by decide +kernel) ⟨Nat.le_of_ble_eq_true rfl, Nat.le_of_ble_eq_true rfl⟩) hH rfl hl.1 rfl (Nat.le_of_ble_eq_true rfl) dL_law_465 hrm (fun r u' H locs hc hH => ?_)
    refine lv_aload_n hx hb dL_law_468 rfl (lv_at hl 2 rfl) ?_
    refine lS (k := 1) (pc := 469) hx hb hX hbl hH hl (by omega) h3 (by decide) dL_law_469 dL_law_470 dL_law_471 dL_law_472 dL_law_473 ?_
    refine lv_if_eq (tgt := 481) hx hb dL_law_474 (by decide) (fun q => absurd ((nI_is0 (aN_lt _)).mp q) z) (fun _ => ?_)
    refine lv_iconst (v := nI 1) hx hb dL_law_477 (by decide) ?_
    refine lv_goto (tgt := 482) hx hb dL_law_478 (by decide) ?_
    refine lS (k := 2) (pc := 482) hx hb hX hbl hH hl (by omega) h3 (by decide) dL_law_482 dL_law_483 dL_law_484 dL_law_485 dL_law_486 ?_
    refine lS (k := 3) (pc := 487) hx hb hX hbl hH hl (by omega) h3 (by decide) dL_law_487 dL_law_488 dL_law_489 dL_law_490 dL_law_491 ?_
    refine lM (As := [.int (nI 1), .int (nI (aN (xs (i + 2)))), .int (nI (aN (xs (i + 3))))]) (rest := [.int r])  (v := (mf, mg, mt)) SF (c_X5_missing l D ma mk mf mg mt H.size 1 (aN (xs (i + 2))) (aN (xs (i + 3))) hI (by decide) (aN_lt _) (aN_lt _)) (cwV 3 hts (gV mU_644 mU_645 mU_646 mU_6 mU_647) rfl rfl rfl (by decide +kernel) ⟨Nat.le_of_ble_eq_true rfl, Nat.le_of_ble_eq_true rfl⟩) hH rfl hl.1 rfl (Nat.le_of_ble_eq_true rfl) dL_law_492 ⟨by omega, by omega⟩ (fun r' v' H locs hm hH => ?_)
    have hs := s_miss h hc hm
    refine lv_icmp_eq (tgt := 566) hx hb dL_law_495 (by decide) (fun _ => ?_) (fun q => absurd hs.1 q)
    have hRn : lawR u'.2.2.1 (cells + c0) (slots + s0) := by
      refine lawR_up hR r1 r2 (fun q => ⟨q.1, (hs.2.2.2 q.2.1).1 q.2.2⟩) (fun q => ?_)
      by_cases k1 : askOK f 1 (aN (xs (i + 2))) (aN (xs (i + 3)))
      · by_cases k2 : bigA f g 1 (aN (xs (i + 2))) (aN (xs (i + 3)))
        · exact Or.inr ((hs.2.2.2 k1).1 k2)
        · exact Or.inl ((hs.2.2.2 k1).2 k2)
      · exact Or.inl (hs.2.2.1 k1)
    exact K _ _ _ _ _ _ hs.2.1.1 hs.2.1.2 hRn hH _ hl
set_option maxHeartbeats 4000000 in
set_option maxRecDepth 100000 in
theorem law_statement (C : lawC p s m c b L xs ak adK adV) (h : lawI n (ad, ka, Lx, f, g) (mf, mg, mt)) (hR : lawR Lx cells slots) (hi : i + 5 < L) (hn : n ≤ 600) (hH : lawH D s (ad, ka, Lx, f, g) ma mk (mf, mg, mt) H locs) (hl : lv_has ls 4 [(0, .ref b), (1, .ref (ad 0)), (2, .ref (ma 0)), (3, .int (nI i))]) (K : lawK p l e s m b below meth c D Q ma mk n i (ad 0)) : W p l e room_1 s m #[Value.ref b] below meth c H locs cells slots Q (F0 m 500 ls []) := by
  obtain ⟨SF, hX, hbl, h3, hZ⟩ := C
  obtain ⟨hx, hb, hml, hown, hts⟩ := id SF
  obtain ⟨⟨hXI, hr, hI⟩, h6, h12⟩ := id h
  have hXI : XInv Lx f g := hXI
  have hI : MInv mf mg mt := hI
  have h12 : f 12 ≤ 15 * n := h12
  have hRb := id hR
  obtain ⟨hR1, hR2, -⟩ := hRb
  refine lv_aload_n hx hb dL_law_500 rfl (lv_at hl 1 rfl) ?_
  refine lS (k := 1) (pc := 501) hx hb hX hbl hH hl (by omega) h3 (by decide) dL_law_501 dL_law_502 dL_law_503 dL_law_504 dL_law_505 ?_
  refine lS (k := 2) (pc := 506) hx hb hX hbl hH hl (by omega) h3 (by decide) dL_law_506 dL_law_507 dL_law_508 dL_law_509 dL_law_510 ?_
  refine lS (k := 3) (pc := 511) hx hb hX hbl hH hl (by omega) h3 (by decide) dL_law_511 dL_law_512 dL_law_513 dL_law_514 dL_law_515 ?_
  refine lXrZ (As := [.int (nI (aN (xs (i + 1)))), .int (nI (aN (xs (i + 2)))), .int (nI (aN (xs (i + 3))))]) (rest := []) (u := (ad, ka, Lx, f, g)) (v := (mf, mg, mt)) SF (c_X4_statement l D ad ka Lx f g ak adK adV (aN (xs (i + 1))) (aN (xs (i + 2))) (aN (xs (i + 3))) hXI.1 (aN_lt _) (aN_lt _) (aN_lt _)) (cwV 3 hts (gV mU_659 mU_660 mU_661 mU_3 mU_662) rfl rfl rfl (by decide +kernel) ⟨Nat.le_of_ble_eq_true rfl, Nat.le_of_ble_eq_true rfl⟩) hH hZ rfl hl.1 rfl (Nat.le_of_ble_eq_true rfl) dL_law_516 ⟨by omega, by omega⟩ ?_
  refine lv_aload_n hx hb dL_law_519 rfl (lv_at hl 2 rfl) ?_
  refine lS (k := 1) (pc := 520) hx hb hX hbl hH hl (by omega) h3 (by decide) dL_law_520 dL_law_521 dL_law_522 dL_law_523 dL_law_524 ?_
  refine lS (k := 2) (pc := 525) hx hb hX hbl hH hl (by omega) h3 (by decide) dL_law_525 dL_law_526 dL_law_527 dL_law_528 dL_law_529 ?_
  refine lS (k := 3) (pc := 530) hx hb hX hbl hH hl (by omega) h3 (by decide) dL_law_530 dL_law_531 dL_law_532 dL_law_533 dL_law_534 ?_
  refine lMr (As := [.int (nI (aN (xs (i + 1)))), .int (nI (aN (xs (i + 2)))), .int (nI (aN (xs (i + 3))))]) (rest := [.int _]) (u := (ad, ka, Lx, f, g)) (v := (mf, mg, mt)) SF (c_X5_statement l D ma mk mf mg mt (aN (xs (i + 1))) (aN (xs (i + 2))) (aN (xs (i + 3))) hI (aN_lt _) (aN_lt _) (aN_lt _)) (cwV 3 hts (gV mU_666 mU_667 mU_668 mU_6 mU_669) rfl rfl rfl (by decide +kernel) ⟨Nat.le_of_ble_eq_true rfl, Nat.le_of_ble_eq_true rfl⟩) hH rfl hl.1 rfl (Nat.le_of_ble_eq_true rfl) dL_law_535 ⟨by omega, by omega⟩ ?_
  refine lv_icmp_eq (tgt := 566) hx hb dL_law_538 (by decide) (fun _ => ?_) (fun q => absurd (congrArg nI (statement_eq hXI.1 hr)) q)
  exact K _ _ _ _ _ _ (lawI_up h) rfl hR hH _ hl
set_option maxHeartbeats 4000000 in
set_option maxRecDepth 100000 in
theorem law_about (C : lawC p s m c b L xs ak adK adV) (h : lawI n (ad, ka, Lx, f, g) (mf, mg, mt)) (hR : lawR Lx cells slots) (hi : i + 5 < L) (hn : n ≤ 600) (hH : lawH D s (ad, ka, Lx, f, g) ma mk (mf, mg, mt) H locs) (hl : lv_has ls 4 [(0, .ref b), (1, .ref (ad 0)), (2, .ref (ma 0)), (3, .int (nI i))]) (K : lawK p l e s m b below meth c D Q ma mk n i (ad 0)) : W p l e room_1 s m #[Value.ref b] below meth c H locs cells slots Q (F0 m 543 ls []) := by
  obtain ⟨SF, hX, hbl, h3, hZ⟩ := C
  obtain ⟨hx, hb, hml, hown, hts⟩ := id SF
  obtain ⟨⟨hXI, hr, hI⟩, h6, h12⟩ := id h
  have hXI : XInv Lx f g := hXI
  have hI : MInv mf mg mt := hI
  have h12 : f 12 ≤ 15 * n := h12
  have hRb := id hR
  obtain ⟨hR1, hR2, -⟩ := hRb
  refine lv_aload_n hx hb dL_law_543 rfl (lv_at hl 1 rfl) ?_
  refine lS (k := 1) (pc := 544) hx hb hX hbl hH hl (by omega) h3 (by decide) dL_law_544 dL_law_545 dL_law_546 dL_law_547 dL_law_548 ?_
  refine lXr (As := [.int (nI (aN (xs (i + 1))))]) (rest := []) (u := (ad, ka, Lx, f, g)) (v := (mf, mg, mt)) SF (c_X4_about l D ad ka Lx f g (aN (xs (i + 1))) (aN_lt _) hXI.1.1.2.2.2.2.2) (cwV 1 hts (gV mU_670 mU_671 mU_672 mU_3 mU_673) rfl rfl rfl (by decide +kernel) ⟨Nat.le_of_ble_eq_true rfl, Nat.le_of_ble_eq_true rfl⟩) hH rfl hl.1 rfl (Nat.le_of_ble_eq_true rfl) dL_law_549 ⟨by omega, by omega⟩ ?_
  refine lv_aload_n hx hb dL_law_552 rfl (lv_at hl 2 rfl) ?_
  refine lS (k := 1) (pc := 553) hx hb hX hbl hH hl (by omega) h3 (by decide) dL_law_553 dL_law_554 dL_law_555 dL_law_556 dL_law_557 ?_
  refine lMr (As := [.int (nI (aN (xs (i + 1))))]) (rest := [.int _]) (u := (ad, ka, Lx, f, g)) (v := (mf, mg, mt)) SF (c_X5_about l D ma mk mf mg mt (aN (xs (i + 1))) hI (aN_lt _)) (cwV 1 hts (gV mU_674 mU_675 mU_676 mU_6 mU_677) rfl rfl rfl (by decide +kernel) ⟨Nat.le_of_ble_eq_true rfl, Nat.le_of_ble_eq_true rfl⟩) hH rfl hl.1 rfl (Nat.le_of_ble_eq_true rfl) dL_law_558 ⟨by omega, by omega⟩ ?_
  refine lv_icmp_eq (tgt := 566) hx hb dL_law_561 (by decide) (fun _ => ?_) (fun q => absurd (congrArg nI (about_eq hr)) q)
  exact K _ _ _ _ _ _ (lawI_up h) rfl hR hH _ hl
end LAWC

/-! LAW: its start -/
section LIB5
variable {p : Program} {l : Launch} {e : Env} {R : Room} {s : State} {m : MethodId} {args : Array Value} {below : List Frame} {meth : Method} {c : Code} {H : Heap} {locs : List Loc} {cells slots : Nat} {Q : State → Prop}
variable {pc : Nat} {ls : Array Slot} {rest st0 : List Value} {D : va_G} {tys : List (ClassId × FieldType)} {ws : va_W} {A : Nat → Prop} {cc : ByteArray} {S : Type} {W' : S → va_W} {T' : S → List (ClassId × FieldType)}
variable {Ts wq : List Cond} {bytes : ByteArray} {nL maxL index mc ms : Nat} {own host : String} {y : MethodName} {rm : Room} {b : Addr} {wc wr : va_W} {tc tr : List (ClassId × FieldType)}
theorem kI {post : S → Prop} (SF : CallFix p m c cc nL s args Ts own) (hM : Met l y wq rm (va_Pc [.ref b] (PW D wc tc H.size)) (va_Qv post (QW D W' T' (va_A wc H.size)) (va_A wc H.size)) mc ms (va_A wc H.size)) (cw : CallB R s args own index y bytes maxL none wq rm mc ms 0 ∧ y.name = "<init>" ∧ (Cond.instanceMethod y).before args s = true)
    (hP : va_P D vwCl ws H) (hK : va_K D vwCl tys s) (hD : va_D A ws) (hS : va_S A s.heap H locs) (hA : ∀ q, s.heap.size ≤ q → A q)
    (isC isR tC tR : List Nat) (hC : isC.map (fun i => ws[i]?) = wc.map some) (hnC : va_nd isC = true) (hR : isR.map (fun i => ws[i]?) = wr.map some) (hnR : va_nd isR = true) (hdis : ∀ i ∈ isR, i ∉ isC) (htC : tC.filterMap (fun i => tys[i]?) = tc) (htR : tR.filterMap (fun i => tys[i]?) = tr)
    (hsize : ls.size = nL) (hstack : st0 = .ref b :: rest) (hW : (rest.map fun v => v.category).sum ≤ 8) (hdg : decode cc pc = .ok (.invokespecial index, 3)) (hf : cells + mc ≤ R.cells ∧ slots + ms ≤ R.slots)
    (kk : ∀ (u : S) (H1 : Heap) (locs1 : List Loc), post u → va_P D vwCl (wr ++ W' u) H1 → va_D A (wr ++ W' u) → va_K D vwCl (tr ++ T' u) s → va_S A s.heap H1 locs1 → W p l e R s m args below meth c H1 locs1 (cells + mc) (slots + ms) Q (F0 m (pc + 3) ls rest)) : W p l e R s m args below meth c H locs cells slots Q (F0 m pc ls st0) := by
  have hPc : va_P D vwCl wc H := fun k q hq => by
    have h1 : (isC.map (fun i => ws[i]?))[k]? = some (some q) := by rw [hC, List.getElem?_map, hq]; rfl
    rw [List.getElem?_map] at h1
    cases hi : isC[k]? with
    | none => rw [hi] at h1; cases h1
    | some i => rw [hi] at h1; exact hP i q (Option.some.inj h1)
  have hDc := hD.sub (ws' := wc) isC hnC hC
  have hKc := hK.sub tC htC
  have hFc := va_free (wc := wc) hD hS hA isC hC
  refine va_callv (va_runI (As := []) SF hM cw ⟨fbW, fun U hU hW => ⟨rfl, by rw [hU], by rw [hU]; exact hPc, va_K.moved hW.alike hKc, hDc.weaken (fun _ _ _ _ => trivial)⟩⟩ rfl rfl hsize hstack (lv_room hW) hdg hf) hS (fun q _ h => hFc q h) hFc (fun u t H1 locs1 ht hvm hw hB hz1 hk1 hS1 => ?_)
  obtain ⟨hP1, hK1, hD1⟩ := hB
  rw [ht] at hP1
  obtain ⟨hP2, hD2⟩ := va_join (wr := wr) hP hD isC isR hC hR hnR hdis hk1 hFc hP1 hD1
  exact kk u H1 locs1 hw hP2 hD2 ((hK.sub tR htR).app (va_K.moved hvm.symm hK1)) hS1
theorem kIx {post : S → Prop} (SF : CallFix p m c cc nL s args Ts own) (hM : Met l y wq rm (va_Pc [.ref b] (PWN nnX D wc tc H.size)) (va_Qv post (QW D W' T' (va_A wc H.size)) (va_A wc H.size)) mc ms (va_A wc H.size)) (cw : CallB R s args own index y bytes maxL none wq rm mc ms 0 ∧ y.name = "<init>" ∧ (Cond.instanceMethod y).before args s = true)
    (hP : va_P D vwCl ws H) (hK : va_K D vwCl tys s) (hD : va_D A ws) (hS : va_S A s.heap H locs) (hA : ∀ q, s.heap.size ≤ q → A q) (hN : nnX s)
    (isC isR tC tR : List Nat) (hC : isC.map (fun i => ws[i]?) = wc.map some) (hnC : va_nd isC = true) (hR : isR.map (fun i => ws[i]?) = wr.map some) (hnR : va_nd isR = true) (hdis : ∀ i ∈ isR, i ∉ isC) (htC : tC.filterMap (fun i => tys[i]?) = tc) (htR : tR.filterMap (fun i => tys[i]?) = tr)
    (hsize : ls.size = nL) (hstack : st0 = .ref b :: rest) (hW : (rest.map fun v => v.category).sum ≤ 8) (hdg : decode cc pc = .ok (.invokespecial index, 3)) (hf : cells + mc ≤ R.cells ∧ slots + ms ≤ R.slots)
    (kk : ∀ (u : S) (H1 : Heap) (locs1 : List Loc), post u → va_P D vwCl (wr ++ W' u) H1 → va_D A (wr ++ W' u) → va_K D vwCl (tr ++ T' u) s → va_S A s.heap H1 locs1 → W p l e R s m args below meth c H1 locs1 (cells + mc) (slots + ms) Q (F0 m (pc + 3) ls rest)) : W p l e R s m args below meth c H locs cells slots Q (F0 m pc ls st0) := by
  have hPc : va_P D vwCl wc H := fun k q hq => by
    have h1 : (isC.map (fun i => ws[i]?))[k]? = some (some q) := by rw [hC, List.getElem?_map, hq]; rfl
    rw [List.getElem?_map] at h1
    cases hi : isC[k]? with
    | none => rw [hi] at h1; cases h1
    | some i => rw [hi] at h1; exact hP i q (Option.some.inj h1)
  have hDc := hD.sub (ws' := wc) isC hnC hC
  have hKc := hK.sub tC htC
  have hFc := va_free (wc := wc) hD hS hA isC hC
  refine va_callv (va_runI (As := []) SF hM cw ⟨fbWN (fun _ _ _ _ h => nnX_call h), fun U hU hW => ⟨rfl, ⟨by rw [hU], by rw [hU]; exact hPc, va_K.moved hW.alike hKc, hDc.weaken (fun _ _ _ _ => trivial)⟩, nnX_warm hW hN⟩⟩ rfl rfl hsize hstack (lv_room hW) hdg hf) hS (fun q _ h => hFc q h) hFc (fun u t H1 locs1 ht hvm hw hB hz1 hk1 hS1 => ?_)
  obtain ⟨hP1, hK1, hD1⟩ := hB
  rw [ht] at hP1
  obtain ⟨hP2, hD2⟩ := va_join (wr := wr) hP hD isC isR hC hR hnR hdis hk1 hFc hP1 hD1
  exact kk u H1 locs1 hw hP2 hD2 ((hK.sub tR htR).app (va_K.moved hvm.symm hK1)) hS1
end LIB5
theorem rights_7 (j : Nat) : rights0 j ≤ 7 := by
  unfold rights0 upN
  (repeat (first | split | omega | exact Nat.zero_le _))
theorem upA0_lt {k : Nat} {q : Nat → Nat} {B : Nat} (h0 : 0 < B) (hq : ∀ j, q j < B) : ∀ a j, upA (fun _ _ => 0) k q a j < B := fun a j => by
  unfold upA
  split
  · exact hq j
  · exact h0
theorem lawI_0 (ad : Nat → Nat) (ka : Nat → ClassId) : lawI 0 (ad, ka, 700, upN (upN (upN (fun _ => 0) 3 4294967295) 4 4294967295) 5 4294967295, upA (fun _ _ => 0) 12 rights0) (upN (upN (fun _ => 0) 8 4294967295) 9 4294967295, upA (fun _ _ => 0) 5 rights0, fun _ => 0) := by
  have r8 : ∀ j, rights0 j < 8 := fun j => Nat.lt_succ_of_le (rights_7 j)
  have rB : ∀ j, rights0 j < 2147483648 := fun j => by have := rights_7 j; omega
  have p4 : (0 : Nat) < 4294967296 := Nat.zero_lt_succ _
  refine ⟨⟨⟨⟨⟨Nat.zero_le _, Nat.zero_lt_two, Nat.zero_le _, Nat.lt_succ_self 4294967295, Nat.lt_succ_self 4294967295, Nat.zero_lt_two⟩, ⟨Nat.zero_le _, Nat.zero_le _, fun i hi => absurd hi (Nat.not_lt_zero i), fun i hi => absurd hi (Nat.not_lt_zero i), fun i hi => absurd hi (Nat.not_lt_zero i), fun i hi => absurd hi (Nat.not_lt_zero i)⟩, fun a _ _ _ j => upA0_lt (by decide) rB a j, ⟨fun j _ => Nat.zero_lt_succ _, fun j _ => r8 j⟩, ⟨Or.inl rfl, fun j => Nat.zero_lt_succ _, fun p _ => Nat.le_of_eq (Nat.zero_div 16384)⟩, fun i => Or.inl (Nat.zero_lt_succ _)⟩, fun q => absurd rfl q⟩, ⟨⟨rfl, fun j hj => absurd hj (Nat.not_lt_zero j), rfl, rfl, rfl⟩, fun w _ => ⟨rfl, rfl⟩, ⟨rfl, rfl, fun i hi => absurd hi (Nat.not_lt_zero i), fun i hi => absurd hi (Nat.not_lt_zero i)⟩, rfl, fun k hk => absurd hk (Nat.not_lt_zero k)⟩, ⟨fun h hh => ⟨Nat.zero_le _, fun i hi => absurd hi (Nat.not_lt_zero i)⟩, fun a _ i => upA0_lt (by decide) rB a i, Nat.zero_lt_two, fun w _ => Nat.zero_lt_succ _, fun w _ => r8 w, Nat.zero_le _, fun i => Nat.zero_lt_succ _, Nat.lt_succ_self 4294967295, Nat.lt_succ_self 4294967295, Nat.zero_lt_two, Nat.zero_le _, fun i => Nat.zero_lt_succ _⟩, fun q => absurd rfl q⟩, Nat.zero_lt_succ _, Nat.zero_le _⟩
set_option maxHeartbeats 4000000 in
set_option maxRecDepth 100000 in
/-- the law, from its entry -/
theorem whole_start {p : Program} {e : Env} {s : State} {m : MethodId} {below : List Frame} {meth : Method} {c : Code} (l : Launch) {b L : Nat} {xs : Nat → Int32} (hL : L ≤ 3072) (C0 : lw_At p s m meth c b L xs) : W p l e room_1 s m #[Value.ref b] below meth c s.heap [] 0 0 (lw_Z below #[Value.ref b] s) (entryFrame m ([Value.ref b] : List Value).toArray 4) := by
  obtain ⟨hx, hb0, hr, hml, hown, hts0, hX, hbl, hlocks, hgv⟩ := id C0
  have hb : c.code = cL_law := hb0
  have hown : s.vm.findClass RL = some m.cls := hown
  have hU : ∀ w ∈ wsL_law, w.before #[Value.ref b] s = true := fun w h => hts0 w (wsL_law_in w h)
  have hts : ∀ w ∈ (Cond.classLink RL 7 RX4 :: wsL_law), w.before #[Value.ref b] s = true := List.forall_mem_cons.mpr ⟨hU _ mU_1, hU⟩
  have SF : CallFix p m c cL_law 4 s #[Value.ref b] (Cond.classLink RL 7 RX4 :: wsL_law) RL := ⟨hx, hb, hml, hown, hts⟩
  obtain ⟨ak, adK, adV, hZ⟩ := zz_of hts0 hgv
  have hN := nnX_of hts0
  have CC : lawC p s m c b L xs ak adK adV := ⟨SF, hX, hbl, hL, hZ⟩
  have hA : ∀ q : Nat, s.heap.size ≤ q → (fun q : Nat => s.heap.size ≤ q) q := fun _ h => h
  obtain ⟨c0, iS0, hKn0⟩ := u_known (C := RX0) (T := TX0) (N := 4) (n := 4) hU iX0 (hU _ mU_26)
  obtain ⟨c1, iS1, hKn1⟩ := u_known (C := RX1) (T := TX1) (N := 3) (n := 3) hU iX1 (hU _ mU_21)
  obtain ⟨c2, iS2, hKn2⟩ := u_known (C := RX2) (T := TX2) (N := 4) (n := 4) hU iX2 (hU _ mU_17)
  obtain ⟨c3, iS3, hKn3⟩ := u_known (C := RX3) (T := TX3) (N := 9) (n := 9) hU iX3 (hU _ mU_30)
  obtain ⟨c4, iS4, hKn4⟩ := u_known (C := RX4) (T := TX4) (N := 10) (n := 10) hU iX4 (hU _ mU_2)
  obtain ⟨c5, iS5, hKn5⟩ := u_known (C := RX5) (T := TX5) (N := 23) (n := 23) hU iX5 (hU _ mU_5)
  obtain ⟨D, hKc⟩ : ∃ D : va_G, ∀ (k : Nat) (q : vw_C), vwCl[k]? = some q → u_Kn s q.1 q.2.1 q.2.2 (D.1 k) (D.2 k) := by
    refine ⟨(fun k => if k = 0 then c0 else if k = 1 then c1 else if k = 2 then c2 else if k = 3 then c3 else if k = 4 then c4 else c5, fun k => if k = 0 then iS0 else if k = 1 then iS1 else if k = 2 then iS2 else if k = 3 then iS3 else if k = 4 then iS4 else iS5), ?_⟩
    intro k q hq
    match k, hq with
    | 0, hq => cases hq; exact hKn0
    | 1, hq => cases hq; exact hKn1
    | 2, hq => cases hq; exact hKn2
    | 3, hq => cases hq; exact hKn3
    | 4, hq => cases hq; exact hKn4
    | 5, hq => cases hq; exact hKn5
    | k + 6, hq => simp at hq
  have hS : va_S (fun q : Nat => s.heap.size ≤ q) s.heap s.heap [] := va_S.rf
  have hK : va_K D vwCl [] s := ⟨hKc, fun k q h => by simp at h⟩
  have hP : va_P D vwCl [] s.heap := fun k q h => by simp at h
  have hD : va_D (fun q : Nat => s.heap.size ≤ q) [] := ⟨fun i j p q h => by simp at h, fun k q h => by simp at h⟩
  have hl := lv_entry ([.ref b]) (n := 4) (Nat.le_of_ble_eq_true rfl)
  rw [lg_entry_eq]
  generalize (lg_sl ([.ref b]) ++ List.replicate (4 - (lg_sl ([.ref b])).length) Slot.unset).toArray = ls at hl ⊢
  have hl : lv_has ls 4 [(0, .ref b)] := hl
  refine va_new (ci := 4) (fs := [.null, .int 0, .null, .null, .null, .null, .null, .int 0, .null, .int 0]) (C := RX4) (T := TX4) (N := 10) hx hb hU iX4 tyX4 tyX4_ok hown (hU _ mU_1) (hU _ mU_2) (hU _ mU_3) hK hP hD hS hA rfl (fun j hj => by rcases (show j = 0 ∨ j = 1 ∨ j = 2 ∨ j = 3 ∨ j = 4 ∨ j = 5 ∨ j = 6 ∨ j = 7 ∨ j = 8 ∨ j = 9 by omega) with rfl | rfl | rfl | rfl | rfl | rfl | rfl | rfl | rfl | rfl <;> rfl) (Nat.le_of_ble_eq_true rfl) (Nat.le_of_ble_eq_true rfl) dL_law_0 (fun q0 H hP hD hS => ?_)
  have hP : va_P D vwCl [(q0, .inr (4, [.null, .int 0, .null, .null, .null, .null, .null, .int 0, .null, .int 0]))] H := hP
  have hD : va_D (fun q : Nat => s.heap.size ≤ q) [(q0, .inr (4, [.null, .int 0, .null, .null, .null, .null, .null, .int 0, .null, .int 0]))] := hD
  refine lv_dup hx hb dL_law_3 rfl ?_
  refine kIx (wr := []) (tr := []) (rest := [.ref q0]) SF (c_X4_init l D q0 H.size) (cwI 0 hts (gC mU_9) rfl rfl rfl (hU _ mU_3) (hU _ mU_7) (hU _ mU_8) rfl (by decide +kernel) ⟨Nat.le_of_ble_eq_true rfl, Nat.le_of_ble_eq_true rfl⟩) hP hK hD hS hA hN [0] [] [] [] rfl rfl rfl rfl (by decide) rfl rfl hl.1 rfl (Nat.le_of_ble_eq_true rfl) dL_law_4 ⟨Nat.le_of_ble_eq_true rfl, Nat.le_of_ble_eq_true rfl⟩ (fun u H locs hw hP hD hK hS => ?_)
  obtain ⟨ad, ka, w3⟩ := u
  obtain ⟨ha, hw⟩ := hw
  have ha : ad 0 = q0 := ha
  have hw : w3 = (700, upN (upN (upN (fun _ => 0) 3 4294967295) 4 4294967295) 5 4294967295, upA (fun _ _ => 0) 12 rights0) := hw
  subst hw
  have hP : va_P D vwCl (xwL (ad, ka, 700, upN (upN (upN (fun _ => 0) 3 4294967295) 4 4294967295) 5 4294967295, upA (fun _ _ => 0) 12 rights0)) H := hP
  have hD : va_D (fun q : Nat => s.heap.size ≤ q) (xwL (ad, ka, 700, upN (upN (upN (fun _ => 0) 3 4294967295) 4 4294967295) 5 4294967295, upA (fun _ _ => 0) 12 rights0)) := hD
  have hK : va_K D vwCl (xT ka) s := hK
  refine lv_astore_n (lv' := [(1, .ref q0), (0, .ref b)]) hx hb dL_law_7 rfl hl (by decide) rfl (fun ls hl => ?_)
  refine va_new (ci := 5) (fs := [.null, .null, .null, .null, .null, .int 0, .null, .int 0, .int 0, .int 0, .int 0, .int 0, .int 0, .int 0, .null, .null, .null, .null, .null, .int 0, .int 0, .int 0, .null]) (C := RX5) (T := TX5) (N := 23) hx hb hU iX5 tyX5 tyX5_ok hown (hU _ mU_4) (hU _ mU_5) (hU _ mU_6) hK hP hD hS hA rfl (fun j hj => by rcases (show j = 0 ∨ j = 1 ∨ j = 2 ∨ j = 3 ∨ j = 4 ∨ j = 5 ∨ j = 6 ∨ j = 7 ∨ j = 8 ∨ j = 9 ∨ j = 10 ∨ j = 11 ∨ j = 12 ∨ j = 13 ∨ j = 14 ∨ j = 15 ∨ j = 16 ∨ j = 17 ∨ j = 18 ∨ j = 19 ∨ j = 20 ∨ j = 21 ∨ j = 22 by omega) with rfl | rfl | rfl | rfl | rfl | rfl | rfl | rfl | rfl | rfl | rfl | rfl | rfl | rfl | rfl | rfl | rfl | rfl | rfl | rfl | rfl | rfl | rfl <;> rfl) (Nat.le_of_ble_eq_true rfl) (Nat.le_of_ble_eq_true rfl) dL_law_8 (fun q5 H hP hD hS => ?_)
  have hP : va_P D vwCl (xwL (ad, ka, 700, upN (upN (upN (fun _ => 0) 3 4294967295) 4 4294967295) 5 4294967295, upA (fun _ _ => 0) 12 rights0) ++ [(q5, .inr (5, [.null, .null, .null, .null, .null, .int 0, .null, .int 0, .int 0, .int 0, .int 0, .int 0, .int 0, .int 0, .null, .null, .null, .null, .null, .int 0, .int 0, .int 0, .null]))]) H := hP
  have hD : va_D (fun q : Nat => s.heap.size ≤ q) (xwL (ad, ka, 700, upN (upN (upN (fun _ => 0) 3 4294967295) 4 4294967295) 5 4294967295, upA (fun _ _ => 0) 12 rights0) ++ [(q5, .inr (5, [.null, .null, .null, .null, .null, .int 0, .null, .int 0, .int 0, .int 0, .int 0, .int 0, .int 0, .int 0, .null, .null, .null, .null, .null, .int 0, .int 0, .int 0, .null]))]) := hD
  refine lv_dup hx hb dL_law_11 rfl ?_
  refine kI (wr := xwL (ad, ka, 700, upN (upN (upN (fun _ => 0) 3 4294967295) 4 4294967295) 5 4294967295, upA (fun _ _ => 0) 12 rights0)) (tr := xT ka) (rest := [.ref q5]) SF (c_X5_init l D q5 H.size) (cwI 0 hts (gC mU_73) rfl rfl rfl (hU _ mU_6) (hU _ mU_71) (hU _ mU_72) rfl (by decide +kernel) ⟨Nat.le_of_ble_eq_true rfl, Nat.le_of_ble_eq_true rfl⟩) hP hK hD hS hA [24] [0, 1, 2, 3, 4, 5, 6, 7, 8, 9, 10, 11, 12, 13, 14, 15, 16, 17, 18, 19, 20, 21, 22, 23] [] [0, 1, 2, 3, 4, 5, 6, 7, 8, 9, 10, 11, 12, 13, 14, 15] rfl rfl rfl rfl (by decide) rfl rfl hl.1 rfl (Nat.le_of_ble_eq_true rfl) dL_law_12 ⟨Nat.le_of_ble_eq_true rfl, Nat.le_of_ble_eq_true rfl⟩ (fun u H locs hw hP hD hK hS => ?_)
  obtain ⟨ma, mk, v⟩ := u
  obtain ⟨hm, hw⟩ := hw
  have hm : ma 0 = q5 := hm
  have hw : v = (upN (upN (fun _ => 0) 8 4294967295) 9 4294967295, upA (fun _ _ => 0) 5 rights0, fun _ => 0) := hw
  subst hw
  have hH : lawH D s (ad, ka, 700, upN (upN (upN (fun _ => 0) 3 4294967295) 4 4294967295) 5 4294967295, upA (fun _ _ => 0) 12 rights0) ma mk (upN (upN (fun _ => 0) 8 4294967295) 9 4294967295, upA (fun _ _ => 0) 5 rights0, fun _ => 0) H locs := ⟨hP, hD, hK, hS⟩
  refine lv_astore_n (lv' := [(2, .ref q5), (1, .ref q0), (0, .ref b)]) hx hb dL_law_15 rfl hl (by decide) rfl (fun ls hl => ?_)
  refine lv_iconst (v := nI 0) hx hb dL_law_16 (by decide) ?_
  refine lv_istore_n (lv' := [(3, .int (nI 0)), (2, .ref q5), (1, .ref q0), (0, .ref b)]) hx hb dL_law_17 rfl hl (by decide) rfl (fun ls hl => ?_)
  rw [← hm] at hl
  exact law_loop CC hr hlocks (L + 1) 0 _ _ H locs _ _ (by omega) (Nat.zero_le _) (lawI_0 ad ka) ha ⟨Nat.le_of_ble_eq_true rfl, Nat.le_of_ble_eq_true rfl, fun _ => ⟨Nat.le_of_ble_eq_true rfl, Nat.le_of_ble_eq_true rfl⟩⟩ hH ls (lv_sub hl [3, 2, 1, 0] rfl)
set_option maxHeartbeats 4000000 in
theorem lw_walk (l : Launch) (b : Addr) (xs : List Int32) : MetFree l x (headSpec (Jvm.Cond.code x code maxLocals ret :: tables_1) room_1) (lw_P b xs) (fun _ _ _ _ _ => True) lw_Q := by
  refine MetFree.of_bodyS (code := code) (maxLocals := maxLocals) (ret := ret) (by decide) ?_ ?_
  · intro args s m h hn
    obtain ⟨meth, c, h1, h2, h3, h4, h5, h6, -, -⟩ := Cond.code_spec hn (atoms_spec (ws := Jvm.Cond.code x code maxLocals ret :: tables_1) h _ List.mem_cons_self)
    exact ⟨meth, c, h1, h2, h3, h4, h5, h6⟩
  · intro p e s m args below meth c s₁ B hml0 hP _
    obtain ⟨rfl, hx, hbd, hgv⟩ := hP
    obtain ⟨scr, harrAt, hlist, hof, hsmall⟩ := hx
    obtain ⟨hcb, hkn, -, -⟩ := State.arrayAt?_spec harrAt
    have hown : s.vm.findClass R_law = some m.cls := findClass_of_methodNamed B.named
    have hts0 : ∀ c ∈ (Jvm.Cond.code x code maxLocals ret :: tables_1), c.before #[Value.ref b] s = true := atoms_spec (ws := Jvm.Cond.code x code maxLocals ret :: tables_1) B.pre
    have hts : ∀ w ∈ lw_tbl, w.before #[Value.ref b] s = true := k2_hts_sels lw_privs (fun w hw => hts0 w (List.mem_cons_of_mem _ hw)) lw_privs_ok
    have hml : c.maxLocals = 4 := B.maxLocals_eq (hts0 _ List.mem_cons_self)
    have X₀ : Stand p l e room_1 s m #[Value.ref b] below meth c s₁ [] 0 0 := Stand.of_body B
    have hh0 : s₁.heap = s.heap := by rw [B.state]; rfl
    have hsz : scr.slots.size = xs.length := by rw [← Array.length_toList, hlist, List.length_map]
    have hval : ∀ j : Nat, j < xs.length → scr.slots[j]? = some (.int (xs.getD j 0)) := fun j hj => by
      rw [← Array.getElem?_toList, hlist]
      simp [hj]
    have hbl : b < s.heap.size := (Array.getElem?_eq_some_iff.mp hcb).1
    have hX : va_X b xs.length (fun j => xs.getD j 0) s s.heap := ⟨scr, hcb, hof, hkn, hsz, hval⟩
    have K : W p l e room_1 s m #[Value.ref b] below meth c s₁.heap [] 0 0 (lw_Z below #[Value.ref b] s) (entryFrame m ([Value.ref b] : List Value).toArray 4) := by
      rw [hh0]
      exact whole_start l hbd ⟨B.exec, B.bytes, B.returns, hml, hown, hts, hX, hbl, B.notSynchronized, hgv⟩
    obtain ⟨t, a1, o, b1, b2, b3⟩ := K s₁ rfl X₀
    exact ⟨t, o, a1, b1, b2, b3⟩
theorem lw_pre_spec {args : Array Value} {s : State} (h : (Jvm.Cond.and given_1 narrow_1).before args s = true) (hr : rest_1_c.before args s = true) : ∃ (b : Addr) (xs : List Int32), lw_P b xs args s := by
  have hs := flat_of_before _ h
  have hq := flat_of_before _ hr
  have hc : (Cond.count 1).before args s = true := hs _ (by decide +kernel)
  have harr : (Cond.arrayOf (.arg 0) .int).before args s = true := hs _ (by decide +kernel)
  have hle : (Cond.le (.length (.arg 0)) (.int 3072)).before args s = true := hs _ (by decide +kernel)
  have hlen : (Cond.isInt (.length (.arg 0))).before args s = true := hq _ (by decide +kernel)
  have hall : (Cond.all (.arg 0) (.isInt (.elem (.arg 0) (.index 0)))).before args s = true := hq _ (by decide +kernel)
  obtain ⟨b, xs, hb, hx⟩ := State.ints_of_pre rfl harr hlen hall
  have hsm : xs.length < 2 ^ 31 := hx.choose_spec.2.2.2
  have hev : (Term.length (.arg 0)).eval args s none [] s = some (.int xs.length.toInt32) := hx.length_eval hb
  have hv := Cond.le_ints hev (show (Term.int 3072).eval args s none [] s = some (.int 3072) from rfl)
  have hd : xs.length.toInt32 ≤ 3072 := by
    simpa [Cond.before, Cond.holds, hv] using hle
  have hN : xs.length ≤ 3072 := (Int32.ofNat_le_ofNat hsm (by decide)).mp (show Int32.ofNat xs.length ≤ Int32.ofNat 3072 from hd)
  exact ⟨b, xs, Cond.one_arg hc (show args[0]? = some (.ref b) from hb), hx, hN, h⟩
theorem lw_comes (l : Launch) : Comes l x (Jvm.Cond.code x code maxLocals ret :: tables_1) room_1 (fun tb e args s => Calls_1 tb e args s ∧ rest_1 tb e args s ∧ Pre_1 tb e args s)
    (fun _ _ args s o t => lw_Q args s o t) := by
  intro p e ha hc hk s m args below hf hfit hheap happ hpre
  obtain ⟨b, xs, hP⟩ := lw_pre_spec hpre.2.2 hpre.2.1
  obtain ⟨k, o, h1, h2, h3, hQ⟩ := lw_walk l b xs p e ha hc hk s m args below hf ((Spec.applies_iff_loose hf).mp happ).1 hP trivial
  exact ⟨k, o, h1, h2, h3, hQ⟩
theorem lw_frame {s t : State} {o : Outcome} {args : Array Value} (h : Framed s o t [] 600000 7302250) :
    Framed s o t (fieldLocs frame_1_writes args s ++ arrayLocs frame_1_arrays args s ++ staticLocs frame_1_statics s) 600000 7302250 := h
theorem lw_limb (L : Cond) (hL : ∀ (args : Array Value) (s t : State), L.after args s (.returned (some (.int 1))) t = true) :
    ArmFor flags0 classFile x code maxLocals ret World_1 tables_1 room_1 Calls_1 rest_1 Pre_1
      (fun tb e a s o t => postC L tb e a s o t ∧ Framed s o t (fieldLocs frame_1_writes a s ++ arrayLocs frame_1_arrays a s ++ staticLocs frame_1_statics s) 600000 7302250) := by
  intro l _ _ _ p e ha hc hk s m args below hf hfit hheap happ hpre
  obtain ⟨k, o, h1, h2, h3, rfl, hF⟩ := lw_comes l p e ha hc hk s m args below hf hfit hheap happ hpre
  exact ⟨k, _, h1, h2, h3, hL args s _, lw_frame hF⟩
theorem i_vc : Claimed_1_1 ∧ Claimed_1_2 := ⟨lw_limb limb_1_1 (fun args s t => by simp [limb_1_1, Cond.after, Cond.holds, Cond.value]), lw_limb limb_1_2 (fun args s t => Cond.after_iff.mpr (by
  first | (rw [show limb_1_2 = Cond.eq .result (.int 1) from rfl, Cond.eq_ints (x := 1) (y := 1) rfl rfl]; simp; done) | (simp [limb_1_2, Cond.value, Term.eval]; done)))⟩

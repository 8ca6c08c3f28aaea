abbrev WSt : Type := Nat × Nat × Nat × ClassId × ClassId × ClassId × Nat × Nat × Nat × Nat × Nat × Nat × Nat × Nat × (Nat → Nat) × (Nat → Nat) × (Nat → Nat)
abbrev rW (wa wb wc wd : Nat) (kw0 kw1 kw2 : ClassId) (L M sp cn en ge be tl : Nat) (ts og sl : Nat → Nat) (ra : Nat) (kr : ClassId) (rw_ : Nat → Nat) : va_W := [(wa, .inr (3, [.ref wb, .ref wc, .ref wd, .int (nI sp), .int (nI cn), .int (nI en), .int (nI ge), .int (nI be), .int (nI tl)])), (wb, .inl (kw0, L, .inr (.inl (lA ts)))), (wc, .inl (kw1, L, .inl (nA og))), (wd, .inl (kw2, M, .inl (nA sl))), (ra, .inl (kr, 32, .inl (nA rw_)))]
abbrev rT (kw0 kw1 kw2 kr : ClassId) : List (ClassId × FieldType) := [(kw0, .long), (kw1, .int), (kw2, .int), (kr, .int)]
theorem z_cp7 {f : Nat → Nat} : va_cpy (nA f) (nA (fun _ => 0)) (nI 0).toNatClampNeg (nI 0).toNatClampNeg (nI 700).toNatClampNeg = nA (cp7 f) := by
  rw [show (nI 0).toNatClampNeg = 0 from by decide, show (nI 700).toNatClampNeg = 700 from by decide]
  funext k
  unfold va_cpy cp7 nA
  by_cases h : k < 700
  · simp [h]
  · simp [h]
theorem z_cp7l {f : Nat → Nat} : va_cpy (lA f) (lA (fun _ => 0)) (nI 0).toNatClampNeg (nI 0).toNatClampNeg (nI 700).toNatClampNeg = lA (cp7 f) := by
  rw [show (nI 0).toNatClampNeg = 0 from by decide, show (nI 700).toNatClampNeg = 700 from by decide]
  funext k
  unfold va_cpy cp7 lA
  by_cases h : k < 700
  · simp [h]
  · simp [h]
theorem z_or14 {a c : Nat} (h : c < 16384) : nI (a * 16384) ||| nI c = nI (a * 16384 + c) := by
  have := fa_or_sum (k := 14) a h
  rw [Nat.mul_comm] at this
  exact this
theorem z_and16 {x : Nat} (hx : x < 2 ^ 44) : lN x &&& (-65536) = lN (x / 65536 * 65536) := by
  rw [show (-65536 : Int64) = lN ((2 ^ 48 - 1) * 2 ^ 16) from by decide, wb_and (by omega) (by decide)]
  congr 1
  apply Nat.eq_of_testBit_eq
  intro i
  rw [Nat.testBit_and, Nat.testBit_mul_two_pow, Nat.testBit_two_pow_sub_one, show x / 65536 * 65536 = x / 2 ^ 16 * 2 ^ 16 from rfl, Nat.testBit_mul_two_pow, Nat.testBit_div_two_pow]
  by_cases h : 16 ≤ i
  · rw [show i - 16 + 16 = i by omega]
    by_cases q : i - 16 < 48
    · simp [h, q]
    · rw [tb_hi hx (show 44 ≤ i by omega)]; simp
  · simp [h]
theorem TI_00 {sp cn : Nat} {ts og sl : Nat → Nat} (h : TI 700 1024 sp cn ts og sl) : TI 12000 16384 sp 0 (cp7 ts) (cp7 og) (fun _ => 0) := by
  obtain ⟨h1, h2, h3, h4, h5, h6, h7, h8, h9, h10⟩ := h
  exact ⟨Or.inr ⟨rfl, rfl⟩, Nat.zero_le _, tabC_0 (fun p hp q => by have q : 0 / 16384 = sp := q; omega), fun i j hi => absurd hi (Nat.not_lt_zero i), cp7_b h5 (by decide), cp7_b h6 (by decide), fun _ => (by decide : 0 < 2147483648), h8, h9, fun p hp => by show 0 / 16384 ≤ sp; omega⟩
/-! LIB 3: answers that are cells of the world -/
def QWr {S : Type} (ad : S → Nat) (D : va_G) (W' : S → va_W) (T' : S → List (ClassId × FieldType)) (A : Nat → Prop) : S → Nat → State → Prop := fun u a t => a = ad u ∧ QW D W' T' A u t
section LIB3
variable {p : Program} {l : Launch} {e : Env} {R : Room} {s : State} {m : MethodId} {args : Array Value} {below : List Frame} {meth : Method} {c : Code} {H : Heap} {locs : List Loc} {cells slots : Nat} {Q : State → Prop}
variable {pc : Nat} {ls : Array Slot} {rest st0 : List Value}
variable {D : va_G} {tys : List (ClassId × FieldType)} {ws : va_W} {A : Nat → Prop} {cc : ByteArray}
variable {S : Type} {W' : S → va_W} {T' : S → List (ClassId × FieldType)} {ad : S → Nat}
theorem rwr {post : S → Prop} {u : S} {v : Nat} {rt : FieldType} (hv : v = ad u) (hexec : p.tables.exec = Jvm.exec) (hb : c.code = cc) (hr : meth.sig.returnType = some rt) (hrt : (∃ n, rt = .object n) ∨ ∃ t, rt = .array t) (hlocks : meth.locks = false) (hpost : post u) (hP : va_P D vwCl (W' u) H) (hK : va_K D vwCl (T' u) s) (hD : va_D A (W' u)) (hS : va_S A s.heap H locs) (hdg : decode cc pc = .ok (.areturn, 1)) : W p l e R s m args below meth c H locs cells slots (MQ below (va_Qr post (QWr ad D W' T' A) A) args s cells slots A) (F0 m pc ls [.ref v]) :=
  W.aret hexec hb hr hrt (Or.inr ⟨v, rfl⟩) (fun t ht hW => ⟨⟨u, v, rfl, hpost, hv, by rw [ht]; exact hP, va_K.moved hW.alike hK, hD⟩, hS.F ht⟩) hS.2.2 hdg
variable {Ts wq : List Cond} {bytes : ByteArray} {nL maxL index n mc ms : Nat} {own C : String} {y : MethodName} {ret : Option FieldType} {rm : Room} {b : Addr} {As : List Value} {wc wr : va_W} {tc tr : List (ClassId × FieldType)}
theorem kSr {post : S → Prop} (SF : CallFix p m c cc nL s args Ts own) (hM : Met l y wq rm (va_Pc As (PW D wc tc H.size)) (va_Qr post (QWr ad D W' T' (va_A wc H.size)) (va_A wc H.size)) mc ms (va_A wc H.size)) (cw : CallB R s args own index y bytes maxL ret wq rm mc ms n ∧ (Cond.static y).before args s = true)
    (hP : va_P D vwCl ws H) (hK : va_K D vwCl tys s) (hD : va_D A ws) (hS : va_S A s.heap H locs) (hA : ∀ q, s.heap.size ≤ q → A q)
    (isC isR tC tR : List Nat) (hC : isC.map (fun i => ws[i]?) = wc.map some) (hnC : va_nd isC = true) (hR : isR.map (fun i => ws[i]?) = wr.map some) (hnR : va_nd isR = true) (hdis : ∀ i ∈ isR, i ∉ isC) (htC : tC.filterMap (fun i => tys[i]?) = tc) (htR : tR.filterMap (fun i => tys[i]?) = tr)
    (hn : As.length = n) (hsize : ls.size = nL) (hstack : st0 = As.reverse ++ rest) (hW : (rest.map fun v => v.category).sum ≤ 8) (hdg : decode cc pc = .ok (.invokestatic index, 3)) (hf : cells + mc ≤ R.cells ∧ slots + ms ≤ R.slots)
    (kk : ∀ (u : S) (H1 : Heap) (locs1 : List Loc), post u → va_P D vwCl (wr ++ W' u) H1 → va_D A (wr ++ W' u) → va_K D vwCl (tr ++ T' u) s → va_S A s.heap H1 locs1 → W p l e R s m args below meth c H1 locs1 (cells + mc) (slots + ms) Q (F0 m (pc + 3) ls (.ref (ad u) :: rest))) : W p l e R s m args below meth c H locs cells slots Q (F0 m pc ls st0) := by
  have hPc : va_P D vwCl wc H := fun k q hq => by
    have h1 : (isC.map (fun i => ws[i]?))[k]? = some (some q) := by rw [hC, List.getElem?_map, hq]; rfl
    rw [List.getElem?_map] at h1
    cases hi : isC[k]? with
    | none => rw [hi] at h1; cases h1
    | some i => rw [hi] at h1; exact hP i q (Option.some.inj h1)
  have hDc := hD.sub (ws' := wc) isC hnC hC
  have hKc := hK.sub tC htC
  have hFc := va_free (wc := wc) hD hS hA isC hC
  refine va_callr (va_runS SF hM cw ⟨fbW, fun U hU hW => ⟨rfl, by rw [hU], by rw [hU]; exact hPc, va_K.moved hW.alike hKc, hDc.weaken (fun _ _ _ _ => trivial)⟩⟩ rfl hn hsize hstack (lv_room hW) hdg hf) hS (fun q _ h => hFc q h) hFc (fun u ra t H1 locs1 ht hvm hw hB hz1 hk1 hS1 => ?_)
  obtain ⟨rfl, hP1, hK1, hD1⟩ := hB
  rw [ht] at hP1
  obtain ⟨hP2, hD2⟩ := va_join (wr := wr) hP hD isC isR hC hR hnR hdis hk1 hFc hP1 hD1
  exact kk u H1 locs1 hw hP2 hD2 ((hK.sub tR htR).app (va_K.moved hvm.symm hK1)) hS1
end LIB3
set_option maxHeartbeats 4000000 in
set_option maxRecDepth 100000 in
theorem c_J7_copyOf_59c91 (l : Launch) (D : va_G) (aa : Nat) (kk : ClassId) (fa : Nat → Nat) (sz : Nat)  : Met l yJ7_copyOf_59c91 (.code yJ7_copyOf_59c91 cJ7_copyOf_59c91 3 (some (.array .int)) :: wsL_law) ({ frames := 1, cells := 1, slots := 12000, locals := 18 }) (va_Pc [.ref aa, .int (nI 12000)] (PW D ([(aa, .inl (kk, 700, .inl (nA fa)))]) ([(kk, .int)]) sz)) (va_Qr (fun _ => True) (QWr (fun u : Nat × ClassId => u.1) D (fun u : Nat × ClassId => [(aa, .inl (kk, 700, .inl (nA fa))), (u.1, .inl (u.2, 12000, .inl (nA (cp7 fa))))]) (fun u => [(kk, .int), (u.2, .int)]) (va_A ([(aa, .inl (kk, 700, .inl (nA fa)))]) sz)) (va_A ([(aa, .inl (kk, 700, .inl (nA fa)))]) sz)) 1 12000 (va_A ([(aa, .inl (kk, 700, .inl (nA fa)))]) sz) := by
  refine Met.ofW (cc := cJ7_copyOf_59c91) (maxL := 3) (ret := (some (.array .int))) (by decide) rfl ?_
  intro p e s m args below meth c s₁ B hml hv
  obtain ⟨rfl, hsz, hP, hK, hD0⟩ := hv
  have hx := B.exec
  have hb := B.bytes
  have hr := B.returns
  have hts := atoms_spec (ws := .code yJ7_copyOf_59c91 cJ7_copyOf_59c91 3 (some (.array .int)) :: wsL_law) B.pre
  have hU : ∀ w ∈ wsL_law, w.before _ s = true := fun w h => hts w (List.mem_cons_of_mem _ h)
  have hown : s.vm.findClass RJ7 = some m.cls := findClass_of_methodNamed B.named
  have hlocks := B.notSynchronized
  subst hsz
  have hD := hD0.self (sz := s.heap.size)
  generalize hAe : va_A ([(aa, .inl (kk, 700, .inl (nA fa)))]) s.heap.size = Ar at hD ⊢
  have hA : ∀ q : Nat, s.heap.size ≤ q → Ar q := fun q h => by rw [← hAe]; exact Or.inr h
  have hS : va_S Ar s.heap s.heap [] := va_S.rf
  have hP : va_P D vwCl [(aa, .inl (kk, 700, .inl (nA fa)))] s.heap := hP
  have hD : va_D Ar [(aa, .inl (kk, 700, .inl (nA fa)))] := hD
  generalize hQ : MQ _ _ _ _ _ _ _ = Q
  have hl := lv_entry ([.ref aa, .int (nI 12000)]) (n := 3) (Nat.le_of_ble_eq_true rfl)
  rw [lg_entry_eq]
  generalize (lg_sl ([.ref aa, .int (nI 12000)]) ++ List.replicate (3 - (lg_sl ([.ref aa, .int (nI 12000)])).length) Slot.unset).toArray = ls at hl ⊢
  have hl : lv_has ls 3 [(0, .ref aa), (1, .int (nI 12000))] := hl
  refine lv_iload_n hx hb dJ7_copyOf_59c91_0 rfl (lv_at hl 1 rfl) ?_
  refine lv_aload_n hx hb dJ7_copyOf_59c91_1 rfl (lv_at hl 0 rfl) ?_
  refine va_alen (v := nI 700) hx hb hK hP 0 0 rfl rfl rfl dJ7_copyOf_59c91_2 ?_
  refine lv_icmp_ne (tgt := 14) hx hb dJ7_copyOf_59c91_3 (by decide) (fun c3_1 => ?_) (fun c3_1 => by first | exact absurd (by decide) c3_1 | exact absurd c3_1 (by decide))
  refine lv_iload_n hx hb dJ7_copyOf_59c91_14 rfl (lv_at hl 1 rfl) ?_
  refine va_newa (atype := .int) (ty := .int) (N' := 12000) (a0 := (12000, .inl (nA (fun _ => 0)))) hx hb (hU _ mU_34) rfl hK hP hD hS hA (fun _ => rfl) (by decide) (by decide) (by decide) (Nat.le_of_ble_eq_true rfl) (Nat.le_of_ble_eq_true rfl) dJ7_copyOf_59c91_15 (fun q_2 ca_3 H hK hP hD hS => ?_)
  have hP : va_P D vwCl [(aa, .inl (kk, 700, .inl (nA fa))), (q_2, .inl (ca_3, 12000, .inl (nA (fun _ => 0))))] H := hP
  have hD : va_D Ar [(aa, .inl (kk, 700, .inl (nA fa))), (q_2, .inl (ca_3, 12000, .inl (nA (fun _ => 0))))] := hD
  have hK : va_K D vwCl [(kk, .int), (ca_3, .int)] s := hK
  refine lv_astore_n (lv' := [(2, .ref q_2), (0, .ref aa), (1, .int (nI 12000))]) hx hb dJ7_copyOf_59c91_17 rfl hl (by decide) rfl (fun ls hl => ?_)
  refine lv_aload_n hx hb dJ7_copyOf_59c91_18 rfl (lv_at hl 1 rfl) ?_
  refine lv_iconst (v := nI 0) hx hb dJ7_copyOf_59c91_19 (by decide) ?_
  refine lv_aload_n hx hb dJ7_copyOf_59c91_20 rfl (lv_at hl 0 rfl) ?_
  refine lv_iconst (v := nI 0) hx hb dJ7_copyOf_59c91_21 (by decide) ?_
  refine lv_aload_n hx hb dJ7_copyOf_59c91_22 rfl (lv_at hl 1 rfl) ?_
  refine va_alen (v := nI 700) hx hb hK hP 0 0 rfl rfl rfl dJ7_copyOf_59c91_23 ?_
  refine lv_iload_n hx hb dJ7_copyOf_59c91_24 rfl (lv_at hl 2 rfl) ?_
  refine va_mmin hx hb (hml.trans hl.1.symm) hown (hU _ mU_375) (hU _ mU_229) (hU _ mU_230) (hU _ mU_231) (Nat.le_of_ble_eq_true rfl) (Nat.le_of_ble_eq_true rfl) (by decide) (by decide) dJ7_copyOf_59c91_25 ?_
  refine lv_topE (nI (if 12000 < 700 then 12000 else 700)) (z_min (by omega) (by omega)) ?_
  refine lv_topE (nI 700) (by decide) ?_
  refine va_copyi (own := RJ7) hx hb (hml.trans hl.1.symm) hown (hU _ mU_376) (hU _ mU_377) (hU _ mU_378) (hU _ mU_379) hK hP hD hS 0 1 0 1 rfl rfl rfl rfl rfl (by decide) (by decide) (by decide) (by decide) (by decide) (fun _ _ => rfl) (Nat.le_of_ble_eq_true rfl) (Nat.le_of_ble_eq_true rfl) dJ7_copyOf_59c91_28 (fun H locs hP hD hS => ?_)
  have hP : va_P D vwCl [(aa, .inl (kk, 700, .inl (nA fa))), (q_2, .inl (ca_3, 12000, .inl (nA (cp7 fa))))] H := by rw [← z_cp7]; exact hP
  have hD : va_D Ar [(aa, .inl (kk, 700, .inl (nA fa))), (q_2, .inl (ca_3, 12000, .inl (nA (cp7 fa))))] := by rw [← z_cp7]; exact hD
  refine lv_aload_n hx hb dJ7_copyOf_59c91_31 rfl (lv_at hl 0 rfl) ?_
  subst hQ
  refine W.widen (k := 1) (n := 12000) (by omega) (by omega) ?_
  exact rwr (u := (q_2, ca_3)) rfl hx hb hr (Or.inr ⟨_, rfl⟩) hlocks (trivial) hP hK hD hS dJ7_copyOf_59c91_32

set_option maxHeartbeats 4000000 in
set_option maxRecDepth 100000 in
theorem c_J7_copyOf_c38d5 (l : Launch) (D : va_G) (aa : Nat) (kk : ClassId) (fa : Nat → Nat) (sz : Nat)  : Met l yJ7_copyOf_c38d5 (.code yJ7_copyOf_c38d5 cJ7_copyOf_c38d5 3 (some (.array .long)) :: wsL_law) ({ frames := 1, cells := 1, slots := 12000, locals := 18 }) (va_Pc [.ref aa, .int (nI 12000)] (PW D ([(aa, .inl (kk, 700, .inr (.inl (lA fa))))]) ([(kk, .long)]) sz)) (va_Qr (fun _ => True) (QWr (fun u : Nat × ClassId => u.1) D (fun u : Nat × ClassId => [(aa, .inl (kk, 700, .inr (.inl (lA fa)))), (u.1, .inl (u.2, 12000, .inr (.inl (lA (cp7 fa)))))]) (fun u => [(kk, .long), (u.2, .long)]) (va_A ([(aa, .inl (kk, 700, .inr (.inl (lA fa))))]) sz)) (va_A ([(aa, .inl (kk, 700, .inr (.inl (lA fa))))]) sz)) 1 12000 (va_A ([(aa, .inl (kk, 700, .inr (.inl (lA fa))))]) sz) := by
  refine Met.ofW (cc := cJ7_copyOf_c38d5) (maxL := 3) (ret := (some (.array .long))) (by decide) rfl ?_
  intro p e s m args below meth c s₁ B hml hv
  obtain ⟨rfl, hsz, hP, hK, hD0⟩ := hv
  have hx := B.exec
  have hb := B.bytes
  have hr := B.returns
  have hts := atoms_spec (ws := .code yJ7_copyOf_c38d5 cJ7_copyOf_c38d5 3 (some (.array .long)) :: wsL_law) B.pre
  have hU : ∀ w ∈ wsL_law, w.before _ s = true := fun w h => hts w (List.mem_cons_of_mem _ h)
  have hown : s.vm.findClass RJ7 = some m.cls := findClass_of_methodNamed B.named
  have hlocks := B.notSynchronized
  subst hsz
  have hD := hD0.self (sz := s.heap.size)
  generalize hAe : va_A ([(aa, .inl (kk, 700, .inr (.inl (lA fa))))]) s.heap.size = Ar at hD ⊢
  have hA : ∀ q : Nat, s.heap.size ≤ q → Ar q := fun q h => by rw [← hAe]; exact Or.inr h
  have hS : va_S Ar s.heap s.heap [] := va_S.rf
  have hP : va_P D vwCl [(aa, .inl (kk, 700, .inr (.inl (lA fa))))] s.heap := hP
  have hD : va_D Ar [(aa, .inl (kk, 700, .inr (.inl (lA fa))))] := hD
  generalize hQ : MQ _ _ _ _ _ _ _ = Q
  have hl := lv_entry ([.ref aa, .int (nI 12000)]) (n := 3) (Nat.le_of_ble_eq_true rfl)
  rw [lg_entry_eq]
  generalize (lg_sl ([.ref aa, .int (nI 12000)]) ++ List.replicate (3 - (lg_sl ([.ref aa, .int (nI 12000)])).length) Slot.unset).toArray = ls at hl ⊢
  have hl : lv_has ls 3 [(0, .ref aa), (1, .int (nI 12000))] := hl
  refine lv_iload_n hx hb dJ7_copyOf_c38d5_0 rfl (lv_at hl 1 rfl) ?_
  refine lv_aload_n hx hb dJ7_copyOf_c38d5_1 rfl (lv_at hl 0 rfl) ?_
  refine va_alen (v := nI 700) hx hb hK hP 0 0 rfl rfl rfl dJ7_copyOf_c38d5_2 ?_
  refine lv_icmp_ne (tgt := 14) hx hb dJ7_copyOf_c38d5_3 (by decide) (fun c3_1 => ?_) (fun c3_1 => by first | exact absurd (by decide) c3_1 | exact absurd c3_1 (by decide))
  refine lv_iload_n hx hb dJ7_copyOf_c38d5_14 rfl (lv_at hl 1 rfl) ?_
  refine va_newa (atype := .long) (ty := .long) (N' := 12000) (a0 := (12000, .inr (.inl (lA (fun _ => 0))))) hx hb (hU _ mU_61) rfl hK hP hD hS hA (fun _ => rfl) (by decide) (by decide) (by decide) (Nat.le_of_ble_eq_true rfl) (Nat.le_of_ble_eq_true rfl) dJ7_copyOf_c38d5_15 (fun q_2 ca_3 H hK hP hD hS => ?_)
  have hP : va_P D vwCl [(aa, .inl (kk, 700, .inr (.inl (lA fa)))), (q_2, .inl (ca_3, 12000, .inr (.inl (lA (fun _ => 0)))))] H := hP
  have hD : va_D Ar [(aa, .inl (kk, 700, .inr (.inl (lA fa)))), (q_2, .inl (ca_3, 12000, .inr (.inl (lA (fun _ => 0)))))] := hD
  have hK : va_K D vwCl [(kk, .long), (ca_3, .long)] s := hK
  refine lv_astore_n (lv' := [(2, .ref q_2), (0, .ref aa), (1, .int (nI 12000))]) hx hb dJ7_copyOf_c38d5_17 rfl hl (by decide) rfl (fun ls hl => ?_)
  refine lv_aload_n hx hb dJ7_copyOf_c38d5_18 rfl (lv_at hl 1 rfl) ?_
  refine lv_iconst (v := nI 0) hx hb dJ7_copyOf_c38d5_19 (by decide) ?_
  refine lv_aload_n hx hb dJ7_copyOf_c38d5_20 rfl (lv_at hl 0 rfl) ?_
  refine lv_iconst (v := nI 0) hx hb dJ7_copyOf_c38d5_21 (by decide) ?_
  refine lv_aload_n hx hb dJ7_copyOf_c38d5_22 rfl (lv_at hl 1 rfl) ?_
  refine va_alen (v := nI 700) hx hb hK hP 0 0 rfl rfl rfl dJ7_copyOf_c38d5_23 ?_
  refine lv_iload_n hx hb dJ7_copyOf_c38d5_24 rfl (lv_at hl 2 rfl) ?_
  refine va_mmin hx hb (hml.trans hl.1.symm) hown (hU _ mU_375) (hU _ mU_229) (hU _ mU_230) (hU _ mU_231) (Nat.le_of_ble_eq_true rfl) (Nat.le_of_ble_eq_true rfl) (by decide) (by decide) dJ7_copyOf_c38d5_25 ?_
  refine lv_topE (nI (if 12000 < 700 then 12000 else 700)) (z_min (by omega) (by omega)) ?_
  refine lv_topE (nI 700) (by decide) ?_
  refine va_copyl (own := RJ7) hx hb (hml.trans hl.1.symm) hown (hU _ mU_376) (hU _ mU_377) (hU _ mU_378) (hU _ mU_379) hK hP hD hS 0 1 0 1 rfl rfl rfl rfl rfl (by decide) (by decide) (by decide) (by decide) (by decide) (fun _ _ => rfl) (Nat.le_of_ble_eq_true rfl) (Nat.le_of_ble_eq_true rfl) dJ7_copyOf_c38d5_28 (fun H locs hP hD hS => ?_)
  have hP : va_P D vwCl [(aa, .inl (kk, 700, .inr (.inl (lA fa)))), (q_2, .inl (ca_3, 12000, .inr (.inl (lA (cp7 fa)))))] H := by rw [← z_cp7l]; exact hP
  have hD : va_D Ar [(aa, .inl (kk, 700, .inr (.inl (lA fa)))), (q_2, .inl (ca_3, 12000, .inr (.inl (lA (cp7 fa)))))] := by rw [← z_cp7l]; exact hD
  refine lv_aload_n hx hb dJ7_copyOf_c38d5_31 rfl (lv_at hl 0 rfl) ?_
  subst hQ
  refine W.widen (k := 1) (n := 12000) (by omega) (by omega) ?_
  exact rwr (u := (q_2, ca_3)) rfl hx hb hr (Or.inr ⟨_, rfl⟩) hlocks (trivial) hP hK hD hS dJ7_copyOf_c38d5_32

set_option maxHeartbeats 4000000 in
set_option maxRecDepth 100000 in
theorem c_X3_clear (l : Launch) (D : va_G) (wa wb wc wd : Nat) (kw0 kw1 kw2 : ClassId) (L M sp cn en ge be tl : Nat) (ts og sl : Nat → Nat) (sz : Nat)  (hs9 : sp < 100000) : Met l yX3_clear (.code yX3_clear cX3_clear 1 none :: wsL_law) ({ frames := 0, cells := 0, slots := 0, locals := 0 }) (va_Pc [.ref wa] (PW D (wW wa wb wc wd kw0 kw1 kw2 L M sp cn en ge be tl ts og sl) (wT kw0 kw1 kw2) sz)) (va_Qv (fun u : WSt => u = (wb, wc, wd, kw0, kw1, kw2, L, M, sp + 1, 0, 0, 0, 0, 0, ts, og, sl)) (QW D (fun u : WSt => wW wa u.1 u.2.1 u.2.2.1 u.2.2.2.1 u.2.2.2.2.1 u.2.2.2.2.2.1 u.2.2.2.2.2.2.1 u.2.2.2.2.2.2.2.1 u.2.2.2.2.2.2.2.2.1 u.2.2.2.2.2.2.2.2.2.1 u.2.2.2.2.2.2.2.2.2.2.1 u.2.2.2.2.2.2.2.2.2.2.2.1 u.2.2.2.2.2.2.2.2.2.2.2.2.1 u.2.2.2.2.2.2.2.2.2.2.2.2.2.1 u.2.2.2.2.2.2.2.2.2.2.2.2.2.2.1 u.2.2.2.2.2.2.2.2.2.2.2.2.2.2.2.1 u.2.2.2.2.2.2.2.2.2.2.2.2.2.2.2.2) (fun u : WSt => wT u.2.2.2.1 u.2.2.2.2.1 u.2.2.2.2.2.1) (va_A (wW wa wb wc wd kw0 kw1 kw2 L M sp cn en ge be tl ts og sl) sz)) (va_A (wW wa wb wc wd kw0 kw1 kw2 L M sp cn en ge be tl ts og sl) sz)) 0 0 (va_A (wW wa wb wc wd kw0 kw1 kw2 L M sp cn en ge be tl ts og sl) sz) := by
  refine Met.ofW (cc := cX3_clear) (maxL := 1) (ret := none) (by decide) rfl ?_
  intro p e s m args below meth c s₁ B hml hv
  obtain ⟨rfl, hsz, hP, hK, hD0⟩ := hv
  have hx := B.exec
  have hb := B.bytes
  have hr := B.returns
  have hts := atoms_spec (ws := .code yX3_clear cX3_clear 1 none :: wsL_law) B.pre
  have hU : ∀ w ∈ wsL_law, w.before _ s = true := fun w h => hts w (List.mem_cons_of_mem _ h)
  have hown : s.vm.findClass RX3 = some m.cls := findClass_of_methodNamed B.named
  have hlocks := B.notSynchronized
  subst hsz
  have hD := hD0.self (sz := s.heap.size)
  generalize hAe : va_A (wW wa wb wc wd kw0 kw1 kw2 L M sp cn en ge be tl ts og sl) s.heap.size = Ar at hD ⊢
  have hA : ∀ q : Nat, s.heap.size ≤ q → Ar q := fun q h => by rw [← hAe]; exact Or.inr h
  have hS : va_S Ar s.heap s.heap [] := va_S.rf
  have hP : va_P D vwCl [(wa, .inr (3, [.ref wb, .ref wc, .ref wd, .int (nI sp), .int (nI cn), .int (nI en), .int (nI ge), .int (nI be), .int (nI tl)])), (wb, .inl (kw0, L, .inr (.inl (lA ts)))), (wc, .inl (kw1, L, .inl (nA og))), (wd, .inl (kw2, M, .inl (nA sl)))] s.heap := hP
  have hD : va_D Ar [(wa, .inr (3, [.ref wb, .ref wc, .ref wd, .int (nI sp), .int (nI cn), .int (nI en), .int (nI ge), .int (nI be), .int (nI tl)])), (wb, .inl (kw0, L, .inr (.inl (lA ts)))), (wc, .inl (kw1, L, .inl (nA og))), (wd, .inl (kw2, M, .inl (nA sl)))] := hD
  generalize hQ : MQ _ _ _ _ _ _ _ = Q
  have hl := lv_entry ([.ref wa]) (n := 1) (Nat.le_of_ble_eq_true rfl)
  rw [lg_entry_eq]
  generalize (lg_sl ([.ref wa]) ++ List.replicate (1 - (lg_sl ([.ref wa])).length) Slot.unset).toArray = ls at hl ⊢
  have hl : lv_has ls 1 [(0, .ref wa)] := hl
  refine lv_aload_n hx hb dX3_clear_0 rfl (lv_at hl 0 rfl) ?_
  refine va_get (D := D) (ci := 3) (v := .int (nI sp)) (C := RX3) (T := TX3) (N := 9) hx hb hU iX3 hown hK hP 0 rfl rfl 3 (by decide) (hU _ mU_65) (fun _ h9 => h9) rfl dX3_clear_1 ?_
  refine lv_ldc (v := nI 100000) hx hb hown (hU _ mU_340) dX3_clear_4 ?_
  refine lv_icmp_lt (tgt := 22) hx hb dX3_clear_6 (by decide) (fun c6_1 => ?_) (fun c6_1 => ?_)
  · have c6_1 : sp < 100000 := (nI_ltI (a := sp) (b := 100000) (by omega) (by omega)).mp c6_1
    refine lv_aload_n hx hb dX3_clear_22 rfl (lv_at hl 0 rfl) ?_
    refine lv_dup hx hb dX3_clear_23 rfl ?_
    refine va_get (D := D) (ci := 3) (v := .int (nI sp)) (C := RX3) (T := TX3) (N := 9) hx hb hU iX3 hown hK hP 0 rfl rfl 3 (by decide) (hU _ mU_65) (fun _ h9 => h9) rfl dX3_clear_24 ?_
    refine lv_iconst (v := nI 1) hx hb dX3_clear_27 (by decide) ?_
    refine lv_iadd hx hb dX3_clear_28 ?_
    refine lv_topE (nI (sp + 1)) (nI_add _ _) ?_
    refine va_put (D := D) (ci := 3) (v := .int (nI (sp + 1))) (ty := .int) (C := RX3) (T := TX3) (N := 9) hx hb hU iX3 tyX3 tyX3_ok nmX3 hown hK hP hD hS 0 rfl rfl 3 (by decide) (hU _ mU_65) (fun _ h9 => h9) rfl (by decide +kernel) rfl rfl (Nat.le_of_ble_eq_true rfl) dX3_clear_29 (fun H locs hP hD hS => ?_)
    have hP : va_P D vwCl [(wa, .inr (3, [.ref wb, .ref wc, .ref wd, .int (nI (sp + 1)), .int (nI cn), .int (nI en), .int (nI ge), .int (nI be), .int (nI tl)])), (wb, .inl (kw0, L, .inr (.inl (lA ts)))), (wc, .inl (kw1, L, .inl (nA og))), (wd, .inl (kw2, M, .inl (nA sl)))] H := hP
    have hD : va_D Ar [(wa, .inr (3, [.ref wb, .ref wc, .ref wd, .int (nI (sp + 1)), .int (nI cn), .int (nI en), .int (nI ge), .int (nI be), .int (nI tl)])), (wb, .inl (kw0, L, .inr (.inl (lA ts)))), (wc, .inl (kw1, L, .inl (nA og))), (wd, .inl (kw2, M, .inl (nA sl)))] := hD
    refine lv_aload_n hx hb dX3_clear_32 rfl (lv_at hl 0 rfl) ?_
    refine lv_iconst (v := nI 0) hx hb dX3_clear_33 (by decide) ?_
    refine va_put (D := D) (ci := 3) (v := .int (nI 0)) (ty := .int) (C := RX3) (T := TX3) (N := 9) hx hb hU iX3 tyX3 tyX3_ok nmX3 hown hK hP hD hS 0 rfl rfl 4 (by decide) (hU _ mU_66) (fun _ h9 => h9) rfl (by decide +kernel) rfl rfl (Nat.le_of_ble_eq_true rfl) dX3_clear_34 (fun H locs hP hD hS => ?_)
    have hP : va_P D vwCl [(wa, .inr (3, [.ref wb, .ref wc, .ref wd, .int (nI (sp + 1)), .int (nI 0), .int (nI en), .int (nI ge), .int (nI be), .int (nI tl)])), (wb, .inl (kw0, L, .inr (.inl (lA ts)))), (wc, .inl (kw1, L, .inl (nA og))), (wd, .inl (kw2, M, .inl (nA sl)))] H := hP
    have hD : va_D Ar [(wa, .inr (3, [.ref wb, .ref wc, .ref wd, .int (nI (sp + 1)), .int (nI 0), .int (nI en), .int (nI ge), .int (nI be), .int (nI tl)])), (wb, .inl (kw0, L, .inr (.inl (lA ts)))), (wc, .inl (kw1, L, .inl (nA og))), (wd, .inl (kw2, M, .inl (nA sl)))] := hD
    refine lv_aload_n hx hb dX3_clear_37 rfl (lv_at hl 0 rfl) ?_
    refine lv_iconst (v := nI 0) hx hb dX3_clear_38 (by decide) ?_
    refine va_put (D := D) (ci := 3) (v := .int (nI 0)) (ty := .int) (C := RX3) (T := TX3) (N := 9) hx hb hU iX3 tyX3 tyX3_ok nmX3 hown hK hP hD hS 0 rfl rfl 5 (by decide) (hU _ mU_67) (fun _ h9 => h9) rfl (by decide +kernel) rfl rfl (Nat.le_of_ble_eq_true rfl) dX3_clear_39 (fun H locs hP hD hS => ?_)
    have hP : va_P D vwCl [(wa, .inr (3, [.ref wb, .ref wc, .ref wd, .int (nI (sp + 1)), .int (nI 0), .int (nI 0), .int (nI ge), .int (nI be), .int (nI tl)])), (wb, .inl (kw0, L, .inr (.inl (lA ts)))), (wc, .inl (kw1, L, .inl (nA og))), (wd, .inl (kw2, M, .inl (nA sl)))] H := hP
    have hD : va_D Ar [(wa, .inr (3, [.ref wb, .ref wc, .ref wd, .int (nI (sp + 1)), .int (nI 0), .int (nI 0), .int (nI ge), .int (nI be), .int (nI tl)])), (wb, .inl (kw0, L, .inr (.inl (lA ts)))), (wc, .inl (kw1, L, .inl (nA og))), (wd, .inl (kw2, M, .inl (nA sl)))] := hD
    refine lv_aload_n hx hb dX3_clear_42 rfl (lv_at hl 0 rfl) ?_
    refine lv_iconst (v := nI 0) hx hb dX3_clear_43 (by decide) ?_
    refine va_put (D := D) (ci := 3) (v := .int (nI 0)) (ty := .int) (C := RX3) (T := TX3) (N := 9) hx hb hU iX3 tyX3 tyX3_ok nmX3 hown hK hP hD hS 0 rfl rfl 6 (by decide) (hU _ mU_68) (fun _ h9 => h9) rfl (by decide +kernel) rfl rfl (Nat.le_of_ble_eq_true rfl) dX3_clear_44 (fun H locs hP hD hS => ?_)
    have hP : va_P D vwCl [(wa, .inr (3, [.ref wb, .ref wc, .ref wd, .int (nI (sp + 1)), .int (nI 0), .int (nI 0), .int (nI 0), .int (nI be), .int (nI tl)])), (wb, .inl (kw0, L, .inr (.inl (lA ts)))), (wc, .inl (kw1, L, .inl (nA og))), (wd, .inl (kw2, M, .inl (nA sl)))] H := hP
    have hD : va_D Ar [(wa, .inr (3, [.ref wb, .ref wc, .ref wd, .int (nI (sp + 1)), .int (nI 0), .int (nI 0), .int (nI 0), .int (nI be), .int (nI tl)])), (wb, .inl (kw0, L, .inr (.inl (lA ts)))), (wc, .inl (kw1, L, .inl (nA og))), (wd, .inl (kw2, M, .inl (nA sl)))] := hD
    refine lv_aload_n hx hb dX3_clear_47 rfl (lv_at hl 0 rfl) ?_
    refine lv_iconst (v := nI 0) hx hb dX3_clear_48 (by decide) ?_
    refine va_put (D := D) (ci := 3) (v := .int (nI 0)) (ty := .int) (C := RX3) (T := TX3) (N := 9) hx hb hU iX3 tyX3 tyX3_ok nmX3 hown hK hP hD hS 0 rfl rfl 7 (by decide) (hU _ mU_69) (fun _ h9 => h9) rfl (by decide +kernel) rfl rfl (Nat.le_of_ble_eq_true rfl) dX3_clear_49 (fun H locs hP hD hS => ?_)
    have hP : va_P D vwCl [(wa, .inr (3, [.ref wb, .ref wc, .ref wd, .int (nI (sp + 1)), .int (nI 0), .int (nI 0), .int (nI 0), .int (nI 0), .int (nI tl)])), (wb, .inl (kw0, L, .inr (.inl (lA ts)))), (wc, .inl (kw1, L, .inl (nA og))), (wd, .inl (kw2, M, .inl (nA sl)))] H := hP
    have hD : va_D Ar [(wa, .inr (3, [.ref wb, .ref wc, .ref wd, .int (nI (sp + 1)), .int (nI 0), .int (nI 0), .int (nI 0), .int (nI 0), .int (nI tl)])), (wb, .inl (kw0, L, .inr (.inl (lA ts)))), (wc, .inl (kw1, L, .inl (nA og))), (wd, .inl (kw2, M, .inl (nA sl)))] := hD
    refine lv_aload_n hx hb dX3_clear_52 rfl (lv_at hl 0 rfl) ?_
    refine lv_iconst (v := nI 0) hx hb dX3_clear_53 (by decide) ?_
    refine va_put (D := D) (ci := 3) (v := .int (nI 0)) (ty := .boolean) (C := RX3) (T := TX3) (N := 9) hx hb hU iX3 tyX3 tyX3_ok nmX3 hown hK hP hD hS 0 rfl rfl 8 (by decide) (hU _ mU_70) (fun _ h9 => h9) rfl (by decide +kernel) rfl rfl (Nat.le_of_ble_eq_true rfl) dX3_clear_54 (fun H locs hP hD hS => ?_)
    have hP : va_P D vwCl [(wa, .inr (3, [.ref wb, .ref wc, .ref wd, .int (nI (sp + 1)), .int (nI 0), .int (nI 0), .int (nI 0), .int (nI 0), .int (nI 0)])), (wb, .inl (kw0, L, .inr (.inl (lA ts)))), (wc, .inl (kw1, L, .inl (nA og))), (wd, .inl (kw2, M, .inl (nA sl)))] H := hP
    have hD : va_D Ar [(wa, .inr (3, [.ref wb, .ref wc, .ref wd, .int (nI (sp + 1)), .int (nI 0), .int (nI 0), .int (nI 0), .int (nI 0), .int (nI 0)])), (wb, .inl (kw0, L, .inr (.inl (lA ts)))), (wc, .inl (kw1, L, .inl (nA og))), (wd, .inl (kw2, M, .inl (nA sl)))] := hD
    subst hQ
    exact rwv (wb, wc, wd, kw0, kw1, kw2, L, M, sp + 1, 0, 0, 0, 0, 0, ts, og, sl) hx hb hr hlocks (rfl) hP hK hD hS dX3_clear_57
  · have c6_1 : ¬ (sp < 100000) := fun h9 => c6_1 ((nI_ltI (a := sp) (b := 100000) (by omega) (by omega)).mpr h9)
    exfalso; omega

set_option maxHeartbeats 4000000 in
set_option maxRecDepth 100000 in
theorem c_X3_countEnd (l : Launch) (D : va_G) (wa wb wc wd : Nat) (kw0 kw1 kw2 : ClassId) (L M sp cn en ge be tl : Nat) (ts og sl : Nat → Nat) (sz : Nat) (sx : Nat) (gx : Nat) (hsx : sx < 2 ^ 44) (hgx : gx < 2 ^ 44) (hen : en < 20000) (hge : ge < 20000) (hbe : be < 20000) : Met l yX3_countEnd (.code yX3_countEnd cX3_countEnd 5 none :: wsL_law) ({ frames := 0, cells := 0, slots := 0, locals := 0 }) (va_Pc [.ref wa, .long (lN sx), .long (lN gx)] (PW D (wW wa wb wc wd kw0 kw1 kw2 L M sp cn en ge be tl ts og sl) (wT kw0 kw1 kw2) sz)) (va_Qv (fun u : WSt => u = (wb, wc, wd, kw0, kw1, kw2, L, M, sp, cn, en + 1, ge + (if sx / 65536 * 65536 = gx then 1 else 0), be + (if sx / 2 ^ 40 % 4 = 0 then 0 else 1), tl, ts, og, sl)) (QW D (fun u : WSt => wW wa u.1 u.2.1 u.2.2.1 u.2.2.2.1 u.2.2.2.2.1 u.2.2.2.2.2.1 u.2.2.2.2.2.2.1 u.2.2.2.2.2.2.2.1 u.2.2.2.2.2.2.2.2.1 u.2.2.2.2.2.2.2.2.2.1 u.2.2.2.2.2.2.2.2.2.2.1 u.2.2.2.2.2.2.2.2.2.2.2.1 u.2.2.2.2.2.2.2.2.2.2.2.2.1 u.2.2.2.2.2.2.2.2.2.2.2.2.2.1 u.2.2.2.2.2.2.2.2.2.2.2.2.2.2.1 u.2.2.2.2.2.2.2.2.2.2.2.2.2.2.2.1 u.2.2.2.2.2.2.2.2.2.2.2.2.2.2.2.2) (fun u : WSt => wT u.2.2.2.1 u.2.2.2.2.1 u.2.2.2.2.2.1) (va_A (wW wa wb wc wd kw0 kw1 kw2 L M sp cn en ge be tl ts og sl) sz)) (va_A (wW wa wb wc wd kw0 kw1 kw2 L M sp cn en ge be tl ts og sl) sz)) 0 0 (va_A (wW wa wb wc wd kw0 kw1 kw2 L M sp cn en ge be tl ts og sl) sz) := by
  refine Met.ofW (cc := cX3_countEnd) (maxL := 5) (ret := none) (by decide) rfl ?_
  intro p e s m args below meth c s₁ B hml hv
  obtain ⟨rfl, hsz, hP, hK, hD0⟩ := hv
  have hx := B.exec
  have hb := B.bytes
  have hr := B.returns
  have hts := atoms_spec (ws := .code yX3_countEnd cX3_countEnd 5 none :: wsL_law) B.pre
  have hU : ∀ w ∈ wsL_law, w.before _ s = true := fun w h => hts w (List.mem_cons_of_mem _ h)
  have hown : s.vm.findClass RX3 = some m.cls := findClass_of_methodNamed B.named
  have hlocks := B.notSynchronized
  subst hsz
  have hD := hD0.self (sz := s.heap.size)
  generalize hAe : va_A (wW wa wb wc wd kw0 kw1 kw2 L M sp cn en ge be tl ts og sl) s.heap.size = Ar at hD ⊢
  have hA : ∀ q : Nat, s.heap.size ≤ q → Ar q := fun q h => by rw [← hAe]; exact Or.inr h
  have hS : va_S Ar s.heap s.heap [] := va_S.rf
  have hP : va_P D vwCl [(wa, .inr (3, [.ref wb, .ref wc, .ref wd, .int (nI sp), .int (nI cn), .int (nI en), .int (nI ge), .int (nI be), .int (nI tl)])), (wb, .inl (kw0, L, .inr (.inl (lA ts)))), (wc, .inl (kw1, L, .inl (nA og))), (wd, .inl (kw2, M, .inl (nA sl)))] s.heap := hP
  have hD : va_D Ar [(wa, .inr (3, [.ref wb, .ref wc, .ref wd, .int (nI sp), .int (nI cn), .int (nI en), .int (nI ge), .int (nI be), .int (nI tl)])), (wb, .inl (kw0, L, .inr (.inl (lA ts)))), (wc, .inl (kw1, L, .inl (nA og))), (wd, .inl (kw2, M, .inl (nA sl)))] := hD
  generalize hQ : MQ _ _ _ _ _ _ _ = Q
  have hl := lv_entry ([.ref wa, .long (lN sx), .long (lN gx)]) (n := 5) (Nat.le_of_ble_eq_true rfl)
  rw [lg_entry_eq]
  generalize (lg_sl ([.ref wa, .long (lN sx), .long (lN gx)]) ++ List.replicate (5 - (lg_sl ([.ref wa, .long (lN sx), .long (lN gx)])).length) Slot.unset).toArray = ls at hl ⊢
  have hl : lv_has ls 5 [(0, .ref wa), (1, .long (lN sx)), (3, .long (lN gx))] := hl
  refine lv_aload_n hx hb dX3_countEnd_0 rfl (lv_at hl 0 rfl) ?_
  refine lv_dup hx hb dX3_countEnd_1 rfl ?_
  refine va_get (D := D) (ci := 3) (v := .int (nI en)) (C := RX3) (T := TX3) (N := 9) hx hb hU iX3 hown hK hP 0 rfl rfl 5 (by decide) (hU _ mU_67) (fun _ h9 => h9) rfl dX3_countEnd_2 ?_
  refine lv_iconst (v := nI 1) hx hb dX3_countEnd_5 (by decide) ?_
  refine lv_iadd hx hb dX3_countEnd_6 ?_
  refine lv_topE (nI (en + 1)) (nI_add _ _) ?_
  refine va_put (D := D) (ci := 3) (v := .int (nI (en + 1))) (ty := .int) (C := RX3) (T := TX3) (N := 9) hx hb hU iX3 tyX3 tyX3_ok nmX3 hown hK hP hD hS 0 rfl rfl 5 (by decide) (hU _ mU_67) (fun _ h9 => h9) rfl (by decide +kernel) rfl rfl (Nat.le_of_ble_eq_true rfl) dX3_countEnd_7 (fun H locs hP hD hS => ?_)
  have hP : va_P D vwCl [(wa, .inr (3, [.ref wb, .ref wc, .ref wd, .int (nI sp), .int (nI cn), .int (nI (en + 1)), .int (nI ge), .int (nI be), .int (nI tl)])), (wb, .inl (kw0, L, .inr (.inl (lA ts)))), (wc, .inl (kw1, L, .inl (nA og))), (wd, .inl (kw2, M, .inl (nA sl)))] H := hP
  have hD : va_D Ar [(wa, .inr (3, [.ref wb, .ref wc, .ref wd, .int (nI sp), .int (nI cn), .int (nI (en + 1)), .int (nI ge), .int (nI be), .int (nI tl)])), (wb, .inl (kw0, L, .inr (.inl (lA ts)))), (wc, .inl (kw1, L, .inl (nA og))), (wd, .inl (kw2, M, .inl (nA sl)))] := hD
  refine lv_lload_n hx hb dX3_countEnd_10 rfl (lv_at hl 1 rfl) ?_
  refine lv_ldc2 (v := (-65536)) hx hb hown (hU _ mU_461) dX3_countEnd_11 ?_
  refine lv_land hx hb dX3_countEnd_14 ?_
  refine lv_topEl (lN (sx / 65536 * 65536)) (z_and16 (by omega)) ?_
  refine lv_lload_n hx hb dX3_countEnd_15 rfl (lv_at hl 2 rfl) ?_
  refine W.lcmp hx hb dX3_countEnd_16 ?_
  refine lv_if_ne (tgt := 30) hx hb dX3_countEnd_17 (by decide) (fun c17_1 => ?_) (fun c17_1 => ?_)
  · have c17_1 : ¬ (sx / 65536 * 65536 = gx) := fun h9 => c17_1 ((lg_cmp_eq _ _).mpr ((pk_lEQ (a := sx / 65536 * 65536) (b := gx) (by omega) (by omega)).mpr h9))
    refine lv_lload_n hx hb dX3_countEnd_30 rfl (lv_at hl 1 rfl) ?_
    refine lv_bipush (v := nI 40) hx hb dX3_countEnd_31 (by decide) ?_
    refine lv_lushr hx hb dX3_countEnd_33 rfl ?_
    refine lv_topEl (lN (sx / 2 ^ 40)) (wb_shr (by omega) (by decide)) ?_
    refine lv_ldc2 (v := (3)) hx hb hown (hU _ mU_462) dX3_countEnd_34 ?_
    refine lv_topEl (lN 3) (by decide) ?_
    refine lv_land hx hb dX3_countEnd_37 ?_
    refine lv_topEl (lN (sx / 2 ^ 40 % 4)) (wb_mask (k := 2) (by omega) (by decide)) ?_
    refine lv_lconst (v := lN 0) hx hb dX3_countEnd_38 rfl ?_
    refine W.lcmp hx hb dX3_countEnd_39 ?_
    refine lv_if_eq (tgt := 53) hx hb dX3_countEnd_40 (by decide) (fun c40_2 => ?_) (fun c40_2 => ?_)
    · have c40_2 : sx / 2 ^ 40 % 4 = 0 := (pk_lEQ (a := sx / 2 ^ 40 % 4) (b := 0) (by omega) (by omega)).mp ((lg_cmp_eq _ _).mp c40_2)
      subst hQ
      exact rwv (wb, wc, wd, kw0, kw1, kw2, L, M, sp, cn, en + 1, ge, be, tl, ts, og, sl) hx hb hr hlocks (by rw [if_neg c17_1, if_pos c40_2]; try rfl) hP hK hD hS dX3_countEnd_53
    · have c40_2 : ¬ (sx / 2 ^ 40 % 4 = 0) := fun h9 => c40_2 ((lg_cmp_eq _ _).mpr ((pk_lEQ (a := sx / 2 ^ 40 % 4) (b := 0) (by omega) (by omega)).mpr h9))
      refine lv_aload_n hx hb dX3_countEnd_43 rfl (lv_at hl 0 rfl) ?_
      refine lv_dup hx hb dX3_countEnd_44 rfl ?_
      refine va_get (D := D) (ci := 3) (v := .int (nI be)) (C := RX3) (T := TX3) (N := 9) hx hb hU iX3 hown hK hP 0 rfl rfl 7 (by decide) (hU _ mU_69) (fun _ h9 => h9) rfl dX3_countEnd_45 ?_
      refine lv_iconst (v := nI 1) hx hb dX3_countEnd_48 (by decide) ?_
      refine lv_iadd hx hb dX3_countEnd_49 ?_
      refine lv_topE (nI (be + 1)) (nI_add _ _) ?_
      refine va_put (D := D) (ci := 3) (v := .int (nI (be + 1))) (ty := .int) (C := RX3) (T := TX3) (N := 9) hx hb hU iX3 tyX3 tyX3_ok nmX3 hown hK hP hD hS 0 rfl rfl 7 (by decide) (hU _ mU_69) (fun _ h9 => h9) rfl (by decide +kernel) rfl rfl (Nat.le_of_ble_eq_true rfl) dX3_countEnd_50 (fun H locs hP hD hS => ?_)
      have hP : va_P D vwCl [(wa, .inr (3, [.ref wb, .ref wc, .ref wd, .int (nI sp), .int (nI cn), .int (nI (en + 1)), .int (nI ge), .int (nI (be + 1)), .int (nI tl)])), (wb, .inl (kw0, L, .inr (.inl (lA ts)))), (wc, .inl (kw1, L, .inl (nA og))), (wd, .inl (kw2, M, .inl (nA sl)))] H := hP
      have hD : va_D Ar [(wa, .inr (3, [.ref wb, .ref wc, .ref wd, .int (nI sp), .int (nI cn), .int (nI (en + 1)), .int (nI ge), .int (nI (be + 1)), .int (nI tl)])), (wb, .inl (kw0, L, .inr (.inl (lA ts)))), (wc, .inl (kw1, L, .inl (nA og))), (wd, .inl (kw2, M, .inl (nA sl)))] := hD
      subst hQ
      exact rwv (wb, wc, wd, kw0, kw1, kw2, L, M, sp, cn, en + 1, ge, be + 1, tl, ts, og, sl) hx hb hr hlocks (by rw [if_neg c17_1, if_neg c40_2]; try rfl) hP hK hD hS dX3_countEnd_53
  · have c17_1 : sx / 65536 * 65536 = gx := (pk_lEQ (a := sx / 65536 * 65536) (b := gx) (by omega) (by omega)).mp ((lg_cmp_eq _ _).mp c17_1)
    refine lv_aload_n hx hb dX3_countEnd_20 rfl (lv_at hl 0 rfl) ?_
    refine lv_dup hx hb dX3_countEnd_21 rfl ?_
    refine va_get (D := D) (ci := 3) (v := .int (nI ge)) (C := RX3) (T := TX3) (N := 9) hx hb hU iX3 hown hK hP 0 rfl rfl 6 (by decide) (hU _ mU_68) (fun _ h9 => h9) rfl dX3_countEnd_22 ?_
    refine lv_iconst (v := nI 1) hx hb dX3_countEnd_25 (by decide) ?_
    refine lv_iadd hx hb dX3_countEnd_26 ?_
    refine lv_topE (nI (ge + 1)) (nI_add _ _) ?_
    refine va_put (D := D) (ci := 3) (v := .int (nI (ge + 1))) (ty := .int) (C := RX3) (T := TX3) (N := 9) hx hb hU iX3 tyX3 tyX3_ok nmX3 hown hK hP hD hS 0 rfl rfl 6 (by decide) (hU _ mU_68) (fun _ h9 => h9) rfl (by decide +kernel) rfl rfl (Nat.le_of_ble_eq_true rfl) dX3_countEnd_27 (fun H locs hP hD hS => ?_)
    have hP : va_P D vwCl [(wa, .inr (3, [.ref wb, .ref wc, .ref wd, .int (nI sp), .int (nI cn), .int (nI (en + 1)), .int (nI (ge + 1)), .int (nI be), .int (nI tl)])), (wb, .inl (kw0, L, .inr (.inl (lA ts)))), (wc, .inl (kw1, L, .inl (nA og))), (wd, .inl (kw2, M, .inl (nA sl)))] H := hP
    have hD : va_D Ar [(wa, .inr (3, [.ref wb, .ref wc, .ref wd, .int (nI sp), .int (nI cn), .int (nI (en + 1)), .int (nI (ge + 1)), .int (nI be), .int (nI tl)])), (wb, .inl (kw0, L, .inr (.inl (lA ts)))), (wc, .inl (kw1, L, .inl (nA og))), (wd, .inl (kw2, M, .inl (nA sl)))] := hD
    refine lv_lload_n hx hb dX3_countEnd_30 rfl (lv_at hl 1 rfl) ?_
    refine lv_bipush (v := nI 40) hx hb dX3_countEnd_31 (by decide) ?_
    refine lv_lushr hx hb dX3_countEnd_33 rfl ?_
    refine lv_topEl (lN (sx / 2 ^ 40)) (wb_shr (by omega) (by decide)) ?_
    refine lv_ldc2 (v := (3)) hx hb hown (hU _ mU_462) dX3_countEnd_34 ?_
    refine lv_topEl (lN 3) (by decide) ?_
    refine lv_land hx hb dX3_countEnd_37 ?_
    refine lv_topEl (lN (sx / 2 ^ 40 % 4)) (wb_mask (k := 2) (by omega) (by decide)) ?_
    refine lv_lconst (v := lN 0) hx hb dX3_countEnd_38 rfl ?_
    refine W.lcmp hx hb dX3_countEnd_39 ?_
    refine lv_if_eq (tgt := 53) hx hb dX3_countEnd_40 (by decide) (fun c40_3 => ?_) (fun c40_3 => ?_)
    · have c40_3 : sx / 2 ^ 40 % 4 = 0 := (pk_lEQ (a := sx / 2 ^ 40 % 4) (b := 0) (by omega) (by omega)).mp ((lg_cmp_eq _ _).mp c40_3)
      subst hQ
      exact rwv (wb, wc, wd, kw0, kw1, kw2, L, M, sp, cn, en + 1, ge + 1, be, tl, ts, og, sl) hx hb hr hlocks (by rw [if_pos c17_1, if_pos c40_3]; try rfl) hP hK hD hS dX3_countEnd_53
    · have c40_3 : ¬ (sx / 2 ^ 40 % 4 = 0) := fun h9 => c40_3 ((lg_cmp_eq _ _).mpr ((pk_lEQ (a := sx / 2 ^ 40 % 4) (b := 0) (by omega) (by omega)).mpr h9))
      refine lv_aload_n hx hb dX3_countEnd_43 rfl (lv_at hl 0 rfl) ?_
      refine lv_dup hx hb dX3_countEnd_44 rfl ?_
      refine va_get (D := D) (ci := 3) (v := .int (nI be)) (C := RX3) (T := TX3) (N := 9) hx hb hU iX3 hown hK hP 0 rfl rfl 7 (by decide) (hU _ mU_69) (fun _ h9 => h9) rfl dX3_countEnd_45 ?_
      refine lv_iconst (v := nI 1) hx hb dX3_countEnd_48 (by decide) ?_
      refine lv_iadd hx hb dX3_countEnd_49 ?_
      refine lv_topE (nI (be + 1)) (nI_add _ _) ?_
      refine va_put (D := D) (ci := 3) (v := .int (nI (be + 1))) (ty := .int) (C := RX3) (T := TX3) (N := 9) hx hb hU iX3 tyX3 tyX3_ok nmX3 hown hK hP hD hS 0 rfl rfl 7 (by decide) (hU _ mU_69) (fun _ h9 => h9) rfl (by decide +kernel) rfl rfl (Nat.le_of_ble_eq_true rfl) dX3_countEnd_50 (fun H locs hP hD hS => ?_)
      have hP : va_P D vwCl [(wa, .inr (3, [.ref wb, .ref wc, .ref wd, .int (nI sp), .int (nI cn), .int (nI (en + 1)), .int (nI (ge + 1)), .int (nI (be + 1)), .int (nI tl)])), (wb, .inl (kw0, L, .inr (.inl (lA ts)))), (wc, .inl (kw1, L, .inl (nA og))), (wd, .inl (kw2, M, .inl (nA sl)))] H := hP
      have hD : va_D Ar [(wa, .inr (3, [.ref wb, .ref wc, .ref wd, .int (nI sp), .int (nI cn), .int (nI (en + 1)), .int (nI (ge + 1)), .int (nI (be + 1)), .int (nI tl)])), (wb, .inl (kw0, L, .inr (.inl (lA ts)))), (wc, .inl (kw1, L, .inl (nA og))), (wd, .inl (kw2, M, .inl (nA sl)))] := hD
      subst hQ
      exact rwv (wb, wc, wd, kw0, kw1, kw2, L, M, sp, cn, en + 1, ge + 1, be + 1, tl, ts, og, sl) hx hb hr hlocks (by rw [if_pos c17_1, if_neg c40_3]; try rfl) hP hK hD hS dX3_countEnd_53

set_option maxHeartbeats 4000000 in
set_option maxRecDepth 100000 in
theorem c_X3_writeRow (l : Launch) (D : va_G) (wa wb wc wd : Nat) (kw0 kw1 kw2 : ClassId) (L M sp cn en ge be tl : Nat) (ts og sl : Nat → Nat) (ra : Nat) (kr : ClassId) (rw_ : Nat → Nat) (sz : Nat) (i : Nat) (hog : ∀ j, og j < 2147483648) (hoc : ∀ j, j < cn → og j / 16 < cn) (hL9 : L ≤ 12000) (hcn : cn ≤ L) (hi : i < cn) (hrw : ∀ k, rw_ k < 2147483648) : Met l yX3_writeRow (.code yX3_writeRow cX3_writeRow 6 (some .int) :: wsL_law) ({ frames := 1, cells := 0, slots := 0, locals := 23 }) (va_Pc [.ref wa, .int (nI i), .ref ra] (PW D (rW wa wb wc wd kw0 kw1 kw2 L M sp cn en ge be tl ts og sl ra kr rw_) (rT kw0 kw1 kw2 kr) sz)) (va_Qi (fun (r : Int32) (u : Nat → Nat) => r = nI (stpC og 32 i) ∧ (∀ k, k < stpC og 32 i → u k = og (anc (fun a => og a / 16) (stpC og 32 i - 1 - k) i) % 16) ∧ ∀ k, u k < 2147483648) (QW D (fun u : Nat → Nat => rW wa wb wc wd kw0 kw1 kw2 L M sp cn en ge be tl ts og sl ra kr u) (fun _ => rT kw0 kw1 kw2 kr) (va_A (rW wa wb wc wd kw0 kw1 kw2 L M sp cn en ge be tl ts og sl ra kr rw_) sz)) (va_A (rW wa wb wc wd kw0 kw1 kw2 L M sp cn en ge be tl ts og sl ra kr rw_) sz)) 0 0 (va_A (rW wa wb wc wd kw0 kw1 kw2 L M sp cn en ge be tl ts og sl ra kr rw_) sz) := by
  refine Met.ofW (cc := cX3_writeRow) (maxL := 6) (ret := (some .int)) (by decide) rfl ?_
  intro p e s m args below meth c s₁ B hml hv
  obtain ⟨rfl, hsz, hP, hK, hD0⟩ := hv
  have hx := B.exec
  have hb := B.bytes
  have hr := B.returns
  have hts := atoms_spec (ws := .code yX3_writeRow cX3_writeRow 6 (some .int) :: wsL_law) B.pre
  have hU : ∀ w ∈ wsL_law, w.before _ s = true := fun w h => hts w (List.mem_cons_of_mem _ h)
  have hown : s.vm.findClass RX3 = some m.cls := findClass_of_methodNamed B.named
  have hlocks := B.notSynchronized
  subst hsz
  have hD := hD0.self (sz := s.heap.size)
  generalize hAe : va_A (rW wa wb wc wd kw0 kw1 kw2 L M sp cn en ge be tl ts og sl ra kr rw_) s.heap.size = Ar at hD ⊢
  have hA : ∀ q : Nat, s.heap.size ≤ q → Ar q := fun q h => by rw [← hAe]; exact Or.inr h
  have hS : va_S Ar s.heap s.heap [] := va_S.rf
  have hP : va_P D vwCl [(wa, .inr (3, [.ref wb, .ref wc, .ref wd, .int (nI sp), .int (nI cn), .int (nI en), .int (nI ge), .int (nI be), .int (nI tl)])), (wb, .inl (kw0, L, .inr (.inl (lA ts)))), (wc, .inl (kw1, L, .inl (nA og))), (wd, .inl (kw2, M, .inl (nA sl))), (ra, .inl (kr, 32, .inl (nA rw_)))] s.heap := hP
  have hD : va_D Ar [(wa, .inr (3, [.ref wb, .ref wc, .ref wd, .int (nI sp), .int (nI cn), .int (nI en), .int (nI ge), .int (nI be), .int (nI tl)])), (wb, .inl (kw0, L, .inr (.inl (lA ts)))), (wc, .inl (kw1, L, .inl (nA og))), (wd, .inl (kw2, M, .inl (nA sl))), (ra, .inl (kr, 32, .inl (nA rw_)))] := hD
  generalize hQ : MQ _ _ _ _ _ _ _ = Q
  have hl := lv_entry ([.ref wa, .int (nI i), .ref ra]) (n := 6) (Nat.le_of_ble_eq_true rfl)
  rw [lg_entry_eq]
  generalize (lg_sl ([.ref wa, .int (nI i), .ref ra]) ++ List.replicate (6 - (lg_sl ([.ref wa, .int (nI i), .ref ra])).length) Slot.unset).toArray = ls at hl ⊢
  have hl : lv_has ls 6 [(0, .ref wa), (1, .int (nI i)), (2, .ref ra)] := hl
  refine lv_aload_n hx hb dX3_writeRow_0 rfl (lv_at hl 0 rfl) ?_
  refine lv_iload_n hx hb dX3_writeRow_1 rfl (lv_at hl 1 rfl) ?_
  have hPc := hP.sub (ws' := [(wa, .inr (3, [.ref wb, .ref wc, .ref wd, .int (nI sp), .int (nI cn), .int (nI en), .int (nI ge), .int (nI be), .int (nI tl)])), (wb, .inl (kw0, L, .inr (.inl (lA ts)))), (wc, .inl (kw1, L, .inl (nA og))), (wd, .inl (kw2, M, .inl (nA sl)))]) [0, 1, 2, 3] rfl
  have hKc := hK.sub (tys' := [(kw0, .long), (kw1, .int), (kw2, .int)]) [0, 1, 2] rfl
  refine cVi (As := [.int (nI i)]) (rest := []) ⟨hx, hb, hml, hown, hts⟩ (c_X3_stepsTo l D wa wb wc wd kw0 kw1 kw2 L M sp cn en ge be tl ts og sl i (hog) (hoc) (by omega) (by omega) (by omega)) (cwV 1 hts (gV mU_539 mU_540 mU_541 mU_31 mU_542) rfl rfl rfl (by decide +kernel) ⟨Nat.le_of_ble_eq_true rfl, Nat.le_of_ble_eq_true rfl⟩) fbR (va_recv hK hP (ci := 3) (q0 := 0) rfl rfl) (PR.of hPc hKc) rfl hl.1 rfl (Nat.le_of_ble_eq_true rfl) dX3_writeRow_2 ⟨Nat.zero_le _, Nat.zero_le _⟩ ?_
  have hf_1 : stpC og 32 i ≤ 32 := stpC_le _ _ _
  refine lv_istore_n (lv' := [(3, .int (nI (stpC og 32 i))), (0, .ref wa), (1, .int (nI i)), (2, .ref ra)]) hx hb dX3_writeRow_5 rfl hl (by decide) rfl (fun ls hl => ?_)
  refine lv_iload_n hx hb dX3_writeRow_6 rfl (lv_at hl 2 rfl) ?_
  refine lv_istore (lv' := [(4, .int (nI i)), (3, .int (nI (stpC og 32 i))), (0, .ref wa), (1, .int (nI i)), (2, .ref ra)]) hx hb dX3_writeRow_7 hl (by decide) rfl (fun ls hl => ?_)
  refine lv_iload_n hx hb dX3_writeRow_9 rfl (lv_at hl 1 rfl) ?_
  refine lv_aload_n hx hb dX3_writeRow_10 rfl (lv_at hl 4 rfl) ?_
  refine va_alen (v := nI 32) hx hb hK hP 4 3 rfl rfl rfl dX3_writeRow_11 ?_
  refine va_mmin hx hb (hml.trans hl.1.symm) hown (hU _ mU_587) (hU _ mU_229) (hU _ mU_230) (hU _ mU_231) (Nat.le_of_ble_eq_true rfl) (Nat.le_of_ble_eq_true rfl) (Nat.zero_le _) (Nat.zero_le _) dX3_writeRow_12 ?_
  refine lv_topE (nI (if 32 < stpC og 32 i then 32 else stpC og 32 i)) (z_min (by omega) (by omega)) ?_
  refine lv_topE (nI (stpC og 32 i)) (congrArg nI (if_neg (by omega))) ?_
  refine lv_iconst (v := nI 1) hx hb dX3_writeRow_15 (by decide) ?_
  refine lv_isub hx hb dX3_writeRow_16 ?_
  refine lv_istore (lv' := [(5, .int ((nI (stpC og 32 i)) - (nI 1))), (4, .int (nI i)), (3, .int (nI (stpC og 32 i))), (0, .ref wa), (1, .int (nI i)), (2, .ref ra)]) hx hb dX3_writeRow_17 hl (by decide) rfl (fun ls hl => ?_)
  have L19_40 : ∀ (n : Nat) (j : Nat) (x : Nat) (rw2 : Nat → Nat), (j ≤ stpC og 32 i) → (x = anc (fun a => og a / 16) (stpC og 32 i - j) i) → (x < cn) → (∀ k, j ≤ k → k < stpC og 32 i → rw2 k = og (anc (fun a => og a / 16) (stpC og 32 i - 1 - k) i) % 16) → (∀ k, rw2 k < 2147483648) → j < n → ∀ (H : Heap) (locs : List Loc), va_P D vwCl [(wa, .inr (3, [.ref wb, .ref wc, .ref wd, .int (nI sp), .int (nI cn), .int (nI en), .int (nI ge), .int (nI be), .int (nI tl)])), (wb, .inl (kw0, L, .inr (.inl (lA ts)))), (wc, .inl (kw1, L, .inl (nA og))), (wd, .inl (kw2, M, .inl (nA sl))), (ra, .inl (kr, 32, .inl (nA rw2)))] H → va_D Ar [(wa, .inr (3, [.ref wb, .ref wc, .ref wd, .int (nI sp), .int (nI cn), .int (nI en), .int (nI ge), .int (nI be), .int (nI tl)])), (wb, .inl (kw0, L, .inr (.inl (lA ts)))), (wc, .inl (kw1, L, .inl (nA og))), (wd, .inl (kw2, M, .inl (nA sl))), (ra, .inl (kr, 32, .inl (nA rw2)))] → va_S Ar s.heap H locs → ∀ ls : Array Slot, lv_has ls 6 [(0, .ref wa), (2, .ref ra), (3, .int (nI (stpC og 32 i))), (4, .int (nI x)), (5, .int (nI j - nI 1))] → W p l e ({ frames := 1, cells := 0, slots := 0, locals := 23 } : Room) s m (([.ref wa, .int (nI i), .ref ra] : List Value).toArray) below meth c H locs 0 0 Q (F0 m 19 ls []) := by
    intro n19
    induction n19 with
    | zero => intro j x rw2 hj hxa hxn hrow hrb hm19; exact absurd hm19 (Nat.not_lt_zero _)
    | succ n19 ih19 =>
      intro j x rw2 hj hxa hxn hrow hrb hm19 H locs hP hD hS ls hl
      refine lv_iload hx hb dX3_writeRow_19 (lv_at hl 4 rfl) ?_
      refine lv_if_lt (tgt := 55) hx hb dX3_writeRow_21 (by decide) (fun c21_2 => ?_) (fun c21_2 => ?_)
      · have c21_2 : j = 0 := keep_z (by omega) c21_2
        refine lv_iload_n hx hb dX3_writeRow_55 rfl (lv_at hl 2 rfl) ?_
        subst hQ
        exact rwi rw2 hx hb hr hlocks (⟨rfl, fun k hk => hrow k (by omega) hk, hrb⟩) hP hK hD hS dX3_writeRow_56
      · have c21_2 : 0 < j := keep_p (by omega) c21_2
        have hl : lv_has ls 6 [(0, .ref wa), (2, .ref ra), (3, .int (nI (stpC og 32 i))), (4, .int (nI x)), (5, .int (nI (j - 1)))] := by rw [pk_sub (by omega)] at hl; exact hl
        refine lv_aload_n hx hb dX3_writeRow_24 rfl (lv_at hl 1 rfl) ?_
        refine lv_iload hx hb dX3_writeRow_25 (lv_at hl 4 rfl) ?_
        refine lv_aload_n hx hb dX3_writeRow_27 rfl (lv_at hl 0 rfl) ?_
        refine va_get (D := D) (ci := 3) (v := .ref wc) (C := RX3) (T := TX3) (N := 9) hx hb hU iX3 hown hK hP 0 rfl rfl 1 (by decide) (hU _ mU_63) (fun _ h9 => h9) rfl dX3_writeRow_28 ?_
        refine lv_iload hx hb dX3_writeRow_31 (lv_at hl 3 rfl) ?_
        refine n_iald hx hb hK hP 2 1 rfl rfl (i := x) (by omega) (by omega) dX3_writeRow_33 ?_
        have hb_3 := hog  x
        refine lv_bipush (v := nI 15) hx hb dX3_writeRow_34 (by decide) ?_
        refine lv_iand hx hb dX3_writeRow_36 ?_
        refine lv_topE (nI (og x % 16)) (fa_mask _ 4) ?_
        refine n_iast hx hb hK hP hD hS 4 3 rfl rfl (i := j - 1) (v := og x % 16) (by omega) (by decide) dX3_writeRow_37 (fun H locs hP hD hS => ?_)
        have hP : va_P D vwCl [(wa, .inr (3, [.ref wb, .ref wc, .ref wd, .int (nI sp), .int (nI cn), .int (nI en), .int (nI ge), .int (nI be), .int (nI tl)])), (wb, .inl (kw0, L, .inr (.inl (lA ts)))), (wc, .inl (kw1, L, .inl (nA og))), (wd, .inl (kw2, M, .inl (nA sl))), (ra, .inl (kr, 32, .inl (nA (upN rw2 (j - 1) (og x % 16)))))] H := hP
        have hD : va_D Ar [(wa, .inr (3, [.ref wb, .ref wc, .ref wd, .int (nI sp), .int (nI cn), .int (nI en), .int (nI ge), .int (nI be), .int (nI tl)])), (wb, .inl (kw0, L, .inr (.inl (lA ts)))), (wc, .inl (kw1, L, .inl (nA og))), (wd, .inl (kw2, M, .inl (nA sl))), (ra, .inl (kr, 32, .inl (nA (upN rw2 (j - 1) (og x % 16)))))] := hD
        refine lv_aload_n hx hb dX3_writeRow_38 rfl (lv_at hl 0 rfl) ?_
        refine va_get (D := D) (ci := 3) (v := .ref wc) (C := RX3) (T := TX3) (N := 9) hx hb hU iX3 hown hK hP 0 rfl rfl 1 (by decide) (hU _ mU_63) (fun _ h9 => h9) rfl dX3_writeRow_39 ?_
        refine lv_iload hx hb dX3_writeRow_42 (lv_at hl 3 rfl) ?_
        refine n_iald hx hb hK hP 2 1 rfl rfl (i := x) (by omega) (by omega) dX3_writeRow_44 ?_
        have hb_4 := hog  x
        refine lv_iconst (v := nI 4) hx hb dX3_writeRow_45 (by decide) ?_
        refine lv_iushr hx hb dX3_writeRow_46 rfl ?_
        refine lv_topE (nI (og x / 16)) (z_ushr (k := 4) (by omega) (by decide)) ?_
        refine lv_istore (lv' := [(4, .int (nI (og x / 16))), (0, .ref wa), (2, .ref ra), (3, .int (nI (stpC og 32 i))), (5, .int (nI (j - 1)))]) hx hb dX3_writeRow_47 hl (by decide) rfl (fun ls hl => ?_)
        refine lv_iinc (v := nI (j - 1) - nI 1) (lv' := [(5, .int (nI (j - 1) - nI 1)), (4, .int (nI (og x / 16))), (0, .ref wa), (2, .ref ra), (3, .int (nI (stpC og 32 i)))]) hx hb dX3_writeRow_49 hl (k := 4) rfl (by rw [show Int32.ofInt (-1) = -nI 1 from by decide, ← Int32.sub_eq_add_neg]) (by decide) rfl (fun ls hl => ?_)
        refine lv_goto (tgt := 19) hx hb dX3_writeRow_52 (by decide) ?_
        exact ih19 (j - 1) (og x / 16) (upN rw2 (j - 1) (og x % 16)) (by omega) (keep_x hxa hj (by omega)) (hoc x hxn) (keep_row (st := fun a => og a % 16) hrow hxa hj (by omega)) (up_lt hrb (by omega)) (by omega) _ _ hP hD hS _ (lv_sub hl [2, 3, 4, 1, 0] rfl)
  exact L19_40 ((stpC og 32 i) + 1) (stpC og 32 i) i rw_ (Nat.le_refl _) (by rw [Nat.sub_self]; rfl) (hi) (fun k h1 h2 => absurd h2 (by omega)) (hrw) (Nat.lt_succ_self _) _ _ hP hD hS _ (lv_sub hl [3, 5, 2, 1, 0] rfl)

set_option maxHeartbeats 4000000 in
set_option maxRecDepth 100000 in
theorem c_X3_makeLongRows (l : Launch) (D : va_G) (wa wb wc wd : Nat) (kw0 kw1 kw2 : ClassId) (L M sp cn en ge be tl : Nat) (ts og sl : Nat → Nat) (sz : Nat)  (hL7 : L = 700) (hM7 : M = 1024) (hT : TI L M sp cn ts og sl) : Met l yX3_makeLongRows (.code yX3_makeLongRows cX3_makeLongRows 2 none :: wsL_law) ({ frames := 2, cells := 3, slots := 40384, locals := 46 }) (va_Pc [.ref wa] (PW D (wW wa wb wc wd kw0 kw1 kw2 L M sp cn en ge be tl ts og sl) (wT kw0 kw1 kw2) sz)) (va_Qv (fun u : WSt => ∃ wb2 wc2 wd2 ka2 kb2 kc2 sl2, u = (wb2, wc2, wd2, ka2, kb2, kc2, 12000, 16384, sp, cn, en, ge, be, tl, cp7 ts, cp7 og, sl2) ∧ TI 12000 16384 sp cn (cp7 ts) (cp7 og) sl2) (QW D (fun u : WSt => wW wa u.1 u.2.1 u.2.2.1 u.2.2.2.1 u.2.2.2.2.1 u.2.2.2.2.2.1 u.2.2.2.2.2.2.1 u.2.2.2.2.2.2.2.1 u.2.2.2.2.2.2.2.2.1 u.2.2.2.2.2.2.2.2.2.1 u.2.2.2.2.2.2.2.2.2.2.1 u.2.2.2.2.2.2.2.2.2.2.2.1 u.2.2.2.2.2.2.2.2.2.2.2.2.1 u.2.2.2.2.2.2.2.2.2.2.2.2.2.1 u.2.2.2.2.2.2.2.2.2.2.2.2.2.2.1 u.2.2.2.2.2.2.2.2.2.2.2.2.2.2.2.1 u.2.2.2.2.2.2.2.2.2.2.2.2.2.2.2.2) (fun u : WSt => wT u.2.2.2.1 u.2.2.2.2.1 u.2.2.2.2.2.1) (va_A (wW wa wb wc wd kw0 kw1 kw2 L M sp cn en ge be tl ts og sl) sz)) (va_A (wW wa wb wc wd kw0 kw1 kw2 L M sp cn en ge be tl ts og sl) sz)) 3 40384 (va_A (wW wa wb wc wd kw0 kw1 kw2 L M sp cn en ge be tl ts og sl) sz) := by
  subst hL7
  subst hM7
  refine Met.ofW (cc := cX3_makeLongRows) (maxL := 2) (ret := none) (by decide) rfl ?_
  intro p e s m args below meth c s₁ B hml hv
  obtain ⟨rfl, hsz, hP, hK, hD0⟩ := hv
  have hx := B.exec
  have hb := B.bytes
  have hr := B.returns
  have hts := atoms_spec (ws := .code yX3_makeLongRows cX3_makeLongRows 2 none :: wsL_law) B.pre
  have hU : ∀ w ∈ wsL_law, w.before _ s = true := fun w h => hts w (List.mem_cons_of_mem _ h)
  have hown : s.vm.findClass RX3 = some m.cls := findClass_of_methodNamed B.named
  have hlocks := B.notSynchronized
  subst hsz
  have hD := hD0.self (sz := s.heap.size)
  generalize hAe : va_A (wW wa wb wc wd kw0 kw1 kw2 700 1024 sp cn en ge be tl ts og sl) s.heap.size = Ar at hD ⊢
  have hA : ∀ q : Nat, s.heap.size ≤ q → Ar q := fun q h => by rw [← hAe]; exact Or.inr h
  have hS : va_S Ar s.heap s.heap [] := va_S.rf
  have hP : va_P D vwCl [(wa, .inr (3, [.ref wb, .ref wc, .ref wd, .int (nI sp), .int (nI cn), .int (nI en), .int (nI ge), .int (nI be), .int (nI tl)])), (wb, .inl (kw0, 700, .inr (.inl (lA ts)))), (wc, .inl (kw1, 700, .inl (nA og))), (wd, .inl (kw2, 1024, .inl (nA sl)))] s.heap := hP
  have hD : va_D Ar [(wa, .inr (3, [.ref wb, .ref wc, .ref wd, .int (nI sp), .int (nI cn), .int (nI en), .int (nI ge), .int (nI be), .int (nI tl)])), (wb, .inl (kw0, 700, .inr (.inl (lA ts)))), (wc, .inl (kw1, 700, .inl (nA og))), (wd, .inl (kw2, 1024, .inl (nA sl)))] := hD
  generalize hQ : MQ _ _ _ _ _ _ _ = Q
  have hl := lv_entry ([.ref wa]) (n := 2) (Nat.le_of_ble_eq_true rfl)
  rw [lg_entry_eq]
  generalize (lg_sl ([.ref wa]) ++ List.replicate (2 - (lg_sl ([.ref wa])).length) Slot.unset).toArray = ls at hl ⊢
  have hl : lv_has ls 2 [(0, .ref wa)] := hl
  have hcn7 := hT.2.1
  have hd7 : dstN cn (cp7 ts) := dst_congr hT.2.2.2.1 (fun i hi => cp7_lt (by omega))
  have hsp9 := hT.2.2.2.2.2.2.2.2.1
  refine lv_aload_n hx hb dX3_makeLongRows_0 rfl (lv_at hl 0 rfl) ?_
  refine lv_aload_n hx hb dX3_makeLongRows_1 rfl (lv_at hl 0 rfl) ?_
  refine va_get (D := D) (ci := 3) (v := .ref wb) (C := RX3) (T := TX3) (N := 9) hx hb hU iX3 hown hK hP 0 rfl rfl 0 (by decide) (hU _ mU_62) (fun _ h9 => h9) rfl dX3_makeLongRows_2 ?_
  refine lv_sipush (v := nI 12000) hx hb dX3_makeLongRows_5 (by decide) ?_
  refine kSr (As := [.ref wb, .int (nI 12000)]) (rest := [.ref wa]) (wr := [(wa, .inr (3, [.ref wb, .ref wc, .ref wd, .int (nI sp), .int (nI cn), .int (nI en), .int (nI ge), .int (nI be), .int (nI tl)])), (wc, .inl (kw1, 700, .inl (nA og))), (wd, .inl (kw2, 1024, .inl (nA sl)))]) ⟨hx, hb, hml, hown, hts⟩ (c_J7_copyOf_c38d5 l D wb kw0 ts s.heap.size  ) (va_cwS 2 hts (gS mU_366 mU_367 mU_343 mU_368) rfl rfl rfl (by decide +kernel) ⟨Nat.le_of_ble_eq_true rfl, Nat.le_of_ble_eq_true rfl⟩) hP hK hD hS hA [1] [0, 2, 3] [0] [1, 2] rfl rfl rfl rfl (by decide) rfl rfl rfl hl.1 rfl (Nat.le_of_ble_eq_true rfl) dX3_makeLongRows_8 ⟨by decide, by decide⟩ (fun u H locs hw hP hD hK hS => ?_)
  obtain ⟨qa1, qk1⟩ := u
  have hP := hP.sub (ws' := [(wa, .inr (3, [.ref wb, .ref wc, .ref wd, .int (nI sp), .int (nI cn), .int (nI en), .int (nI ge), .int (nI be), .int (nI tl)])), (wb, .inl (kw0, 700, .inr (.inl (lA ts)))), (wc, .inl (kw1, 700, .inl (nA og))), (wd, .inl (kw2, 1024, .inl (nA sl))), (qa1, .inl (qk1, 12000, .inr (.inl (lA (cp7 ts)))))]) [0, 3, 1, 2, 4] rfl
  have hD := hD.sub (ws' := [(wa, .inr (3, [.ref wb, .ref wc, .ref wd, .int (nI sp), .int (nI cn), .int (nI en), .int (nI ge), .int (nI be), .int (nI tl)])), (wb, .inl (kw0, 700, .inr (.inl (lA ts)))), (wc, .inl (kw1, 700, .inl (nA og))), (wd, .inl (kw2, 1024, .inl (nA sl))), (qa1, .inl (qk1, 12000, .inr (.inl (lA (cp7 ts)))))]) [0, 3, 1, 2, 4] rfl rfl
  have hK : va_K D vwCl [(kw0, .long), (kw1, .int), (kw2, .int), (qk1, .long)] s := hK.sub [2, 0, 1, 3] rfl
  refine W.eq (g2 := F0 m 11 ls [.ref qa1, .ref wa]) rfl ?_
  refine va_put (D := D) (ci := 3) (v := .ref qa1) (ty := .array .long) (C := RX3) (T := TX3) (N := 9) hx hb hU iX3 tyX3 tyX3_ok nmX3 hown hK hP hD hS 0 rfl rfl 0 (by decide) (hU _ mU_62) (fun _ h9 => h9) rfl (by decide +kernel) rfl rfl (Nat.le_of_ble_eq_true rfl) dX3_makeLongRows_11 (fun H locs hP hD hS => ?_)
  have hP : va_P D vwCl [(wa, .inr (3, [.ref qa1, .ref wc, .ref wd, .int (nI sp), .int (nI cn), .int (nI en), .int (nI ge), .int (nI be), .int (nI tl)])), (wb, .inl (kw0, 700, .inr (.inl (lA ts)))), (wc, .inl (kw1, 700, .inl (nA og))), (wd, .inl (kw2, 1024, .inl (nA sl))), (qa1, .inl (qk1, 12000, .inr (.inl (lA (cp7 ts)))))] H := hP
  have hD : va_D Ar [(wa, .inr (3, [.ref qa1, .ref wc, .ref wd, .int (nI sp), .int (nI cn), .int (nI en), .int (nI ge), .int (nI be), .int (nI tl)])), (wb, .inl (kw0, 700, .inr (.inl (lA ts)))), (wc, .inl (kw1, 700, .inl (nA og))), (wd, .inl (kw2, 1024, .inl (nA sl))), (qa1, .inl (qk1, 12000, .inr (.inl (lA (cp7 ts)))))] := hD
  refine lv_aload_n hx hb dX3_makeLongRows_14 rfl (lv_at hl 0 rfl) ?_
  refine lv_aload_n hx hb dX3_makeLongRows_15 rfl (lv_at hl 0 rfl) ?_
  refine va_get (D := D) (ci := 3) (v := .ref wc) (C := RX3) (T := TX3) (N := 9) hx hb hU iX3 hown hK hP 0 rfl rfl 1 (by decide) (hU _ mU_63) (fun _ h9 => h9) rfl dX3_makeLongRows_16 ?_
  refine lv_sipush (v := nI 12000) hx hb dX3_makeLongRows_19 (by decide) ?_
  refine kSr (As := [.ref wc, .int (nI 12000)]) (rest := [.ref wa]) (wr := [(wa, .inr (3, [.ref qa1, .ref wc, .ref wd, .int (nI sp), .int (nI cn), .int (nI en), .int (nI ge), .int (nI be), .int (nI tl)])), (wb, .inl (kw0, 700, .inr (.inl (lA ts)))), (wd, .inl (kw2, 1024, .inl (nA sl))), (qa1, .inl (qk1, 12000, .inr (.inl (lA (cp7 ts)))))]) ⟨hx, hb, hml, hown, hts⟩ (c_J7_copyOf_59c91 l D wc kw1 og H.size  ) (va_cwS 2 hts (gS mU_380 mU_381 mU_343 mU_382) rfl rfl rfl (by decide +kernel) ⟨Nat.le_of_ble_eq_true rfl, Nat.le_of_ble_eq_true rfl⟩) hP hK hD hS hA [2] [0, 1, 3, 4] [1] [0, 2, 3] rfl rfl rfl rfl (by decide) rfl rfl rfl hl.1 rfl (Nat.le_of_ble_eq_true rfl) dX3_makeLongRows_22 ⟨by decide, by decide⟩ (fun u H locs hw hP hD hK hS => ?_)
  obtain ⟨qa3, qk3⟩ := u
  have hP := hP.sub (ws' := [(wa, .inr (3, [.ref qa1, .ref wc, .ref wd, .int (nI sp), .int (nI cn), .int (nI en), .int (nI ge), .int (nI be), .int (nI tl)])), (wb, .inl (kw0, 700, .inr (.inl (lA ts)))), (wc, .inl (kw1, 700, .inl (nA og))), (wd, .inl (kw2, 1024, .inl (nA sl))), (qa1, .inl (qk1, 12000, .inr (.inl (lA (cp7 ts))))), (qa3, .inl (qk3, 12000, .inl (nA (cp7 og))))]) [0, 1, 4, 2, 3, 5] rfl
  have hD := hD.sub (ws' := [(wa, .inr (3, [.ref qa1, .ref wc, .ref wd, .int (nI sp), .int (nI cn), .int (nI en), .int (nI ge), .int (nI be), .int (nI tl)])), (wb, .inl (kw0, 700, .inr (.inl (lA ts)))), (wc, .inl (kw1, 700, .inl (nA og))), (wd, .inl (kw2, 1024, .inl (nA sl))), (qa1, .inl (qk1, 12000, .inr (.inl (lA (cp7 ts))))), (qa3, .inl (qk3, 12000, .inl (nA (cp7 og))))]) [0, 1, 4, 2, 3, 5] rfl rfl
  have hK : va_K D vwCl [(kw0, .long), (kw1, .int), (kw2, .int), (qk1, .long), (qk3, .int)] s := hK.sub [0, 3, 1, 2, 4] rfl
  refine W.eq (g2 := F0 m 25 ls [.ref qa3, .ref wa]) rfl ?_
  refine va_put (D := D) (ci := 3) (v := .ref qa3) (ty := .array .int) (C := RX3) (T := TX3) (N := 9) hx hb hU iX3 tyX3 tyX3_ok nmX3 hown hK hP hD hS 0 rfl rfl 1 (by decide) (hU _ mU_63) (fun _ h9 => h9) rfl (by decide +kernel) rfl rfl (Nat.le_of_ble_eq_true rfl) dX3_makeLongRows_25 (fun H locs hP hD hS => ?_)
  have hP : va_P D vwCl [(wa, .inr (3, [.ref qa1, .ref qa3, .ref wd, .int (nI sp), .int (nI cn), .int (nI en), .int (nI ge), .int (nI be), .int (nI tl)])), (wb, .inl (kw0, 700, .inr (.inl (lA ts)))), (wc, .inl (kw1, 700, .inl (nA og))), (wd, .inl (kw2, 1024, .inl (nA sl))), (qa1, .inl (qk1, 12000, .inr (.inl (lA (cp7 ts))))), (qa3, .inl (qk3, 12000, .inl (nA (cp7 og))))] H := hP
  have hD : va_D Ar [(wa, .inr (3, [.ref qa1, .ref qa3, .ref wd, .int (nI sp), .int (nI cn), .int (nI en), .int (nI ge), .int (nI be), .int (nI tl)])), (wb, .inl (kw0, 700, .inr (.inl (lA ts)))), (wc, .inl (kw1, 700, .inl (nA og))), (wd, .inl (kw2, 1024, .inl (nA sl))), (qa1, .inl (qk1, 12000, .inr (.inl (lA (cp7 ts))))), (qa3, .inl (qk3, 12000, .inl (nA (cp7 og))))] := hD
  refine lv_aload_n hx hb dX3_makeLongRows_28 rfl (lv_at hl 0 rfl) ?_
  refine lv_sipush (v := nI 16384) hx hb dX3_makeLongRows_29 (by decide) ?_
  refine va_newa (atype := .int) (ty := .int) (N' := 16384) (a0 := (16384, .inl (nA (fun _ => 0)))) hx hb (hU _ mU_34) rfl hK hP hD hS hA (fun _ => rfl) (by decide) (by decide) (by decide) (Nat.le_of_ble_eq_true rfl) (Nat.le_of_ble_eq_true rfl) dX3_makeLongRows_32 (fun q_5 ca_6 H hK hP hD hS => ?_)
  have hP : va_P D vwCl [(wa, .inr (3, [.ref qa1, .ref qa3, .ref wd, .int (nI sp), .int (nI cn), .int (nI en), .int (nI ge), .int (nI be), .int (nI tl)])), (wb, .inl (kw0, 700, .inr (.inl (lA ts)))), (wc, .inl (kw1, 700, .inl (nA og))), (wd, .inl (kw2, 1024, .inl (nA sl))), (qa1, .inl (qk1, 12000, .inr (.inl (lA (cp7 ts))))), (qa3, .inl (qk3, 12000, .inl (nA (cp7 og)))), (q_5, .inl (ca_6, 16384, .inl (nA (fun _ => 0))))] H := hP
  have hD : va_D Ar [(wa, .inr (3, [.ref qa1, .ref qa3, .ref wd, .int (nI sp), .int (nI cn), .int (nI en), .int (nI ge), .int (nI be), .int (nI tl)])), (wb, .inl (kw0, 700, .inr (.inl (lA ts)))), (wc, .inl (kw1, 700, .inl (nA og))), (wd, .inl (kw2, 1024, .inl (nA sl))), (qa1, .inl (qk1, 12000, .inr (.inl (lA (cp7 ts))))), (qa3, .inl (qk3, 12000, .inl (nA (cp7 og)))), (q_5, .inl (ca_6, 16384, .inl (nA (fun _ => 0))))] := hD
  have hK : va_K D vwCl [(kw0, .long), (kw1, .int), (kw2, .int), (qk1, .long), (qk3, .int), (ca_6, .int)] s := hK
  refine va_put (D := D) (ci := 3) (v := .ref q_5) (ty := .array .int) (C := RX3) (T := TX3) (N := 9) hx hb hU iX3 tyX3 tyX3_ok nmX3 hown hK hP hD hS 0 rfl rfl 2 (by decide) (hU _ mU_64) (fun _ h9 => h9) rfl (by decide +kernel) rfl rfl (Nat.le_of_ble_eq_true rfl) dX3_makeLongRows_34 (fun H locs hP hD hS => ?_)
  have hP : va_P D vwCl [(wa, .inr (3, [.ref qa1, .ref qa3, .ref q_5, .int (nI sp), .int (nI cn), .int (nI en), .int (nI ge), .int (nI be), .int (nI tl)])), (wb, .inl (kw0, 700, .inr (.inl (lA ts)))), (wc, .inl (kw1, 700, .inl (nA og))), (wd, .inl (kw2, 1024, .inl (nA sl))), (qa1, .inl (qk1, 12000, .inr (.inl (lA (cp7 ts))))), (qa3, .inl (qk3, 12000, .inl (nA (cp7 og)))), (q_5, .inl (ca_6, 16384, .inl (nA (fun _ => 0))))] H := hP
  have hD : va_D Ar [(wa, .inr (3, [.ref qa1, .ref qa3, .ref q_5, .int (nI sp), .int (nI cn), .int (nI en), .int (nI ge), .int (nI be), .int (nI tl)])), (wb, .inl (kw0, 700, .inr (.inl (lA ts)))), (wc, .inl (kw1, 700, .inl (nA og))), (wd, .inl (kw2, 1024, .inl (nA sl))), (qa1, .inl (qk1, 12000, .inr (.inl (lA (cp7 ts))))), (qa3, .inl (qk3, 12000, .inl (nA (cp7 og)))), (q_5, .inl (ca_6, 16384, .inl (nA (fun _ => 0))))] := hD
  refine lv_iconst (v := nI 0) hx hb dX3_makeLongRows_37 (by decide) ?_
  refine lv_istore_n (lv' := [(1, .int (nI 0)), (0, .ref wa)]) hx hb dX3_makeLongRows_38 rfl hl (by decide) rfl (fun ls hl => ?_)
  have L39_64 : ∀ (n : Nat) (i : Nat) (sl2 : Nat → Nat), (i ≤ cn) → (TI 12000 16384 sp i (cp7 ts) (cp7 og) sl2) → (cn - i) < n → ∀ (H : Heap) (locs : List Loc), va_P D vwCl [(wa, .inr (3, [.ref qa1, .ref qa3, .ref q_5, .int (nI sp), .int (nI cn), .int (nI en), .int (nI ge), .int (nI be), .int (nI tl)])), (wb, .inl (kw0, 700, .inr (.inl (lA ts)))), (wc, .inl (kw1, 700, .inl (nA og))), (wd, .inl (kw2, 1024, .inl (nA sl))), (qa1, .inl (qk1, 12000, .inr (.inl (lA (cp7 ts))))), (qa3, .inl (qk3, 12000, .inl (nA (cp7 og)))), (q_5, .inl (ca_6, 16384, .inl (nA sl2)))] H → va_D Ar [(wa, .inr (3, [.ref qa1, .ref qa3, .ref q_5, .int (nI sp), .int (nI cn), .int (nI en), .int (nI ge), .int (nI be), .int (nI tl)])), (wb, .inl (kw0, 700, .inr (.inl (lA ts)))), (wc, .inl (kw1, 700, .inl (nA og))), (wd, .inl (kw2, 1024, .inl (nA sl))), (qa1, .inl (qk1, 12000, .inr (.inl (lA (cp7 ts))))), (qa3, .inl (qk3, 12000, .inl (nA (cp7 og)))), (q_5, .inl (ca_6, 16384, .inl (nA sl2)))] → va_S Ar s.heap H locs → ∀ ls : Array Slot, lv_has ls 2 [(0, .ref wa), (1, .int (nI i))] → W p l e ({ frames := 2, cells := 3, slots := 40384, locals := 46 } : Room) s m (([.ref wa] : List Value).toArray) below meth c H locs 3 40384 Q (F0 m 39 ls []) := by
    intro n39
    induction n39 with
    | zero => intro i sl2 hi hT2 hm39; exact absurd hm39 (Nat.not_lt_zero _)
    | succ n39 ih39 =>
      intro i sl2 hi hT2 hm39 H locs hP hD hS ls hl
      refine lv_iload_n hx hb dX3_makeLongRows_39 rfl (lv_at hl 1 rfl) ?_
      refine lv_aload_n hx hb dX3_makeLongRows_40 rfl (lv_at hl 0 rfl) ?_
      refine va_get (D := D) (ci := 3) (v := .int (nI cn)) (C := RX3) (T := TX3) (N := 9) hx hb hU iX3 hown hK hP 0 rfl rfl 4 (by decide) (hU _ mU_66) (fun _ h9 => h9) rfl dX3_makeLongRows_41 ?_
      refine lv_icmp_ge (tgt := 77) hx hb dX3_makeLongRows_44 (by decide) (fun c44_7 => ?_) (fun c44_7 => ?_)
      · have c44_7 : cn ≤ i := (nI_leI (a := cn) (b := i) (by omega) (by omega)).mp c44_7
        have hP := hP.sub (ws' := [(wa, .inr (3, [.ref qa1, .ref qa3, .ref q_5, .int (nI sp), .int (nI cn), .int (nI en), .int (nI ge), .int (nI be), .int (nI tl)])), (qa1, .inl (qk1, 12000, .inr (.inl (lA (cp7 ts))))), (qa3, .inl (qk3, 12000, .inl (nA (cp7 og)))), (q_5, .inl (ca_6, 16384, .inl (nA sl2)))]) [0, 4, 5, 6] rfl
        have hD := hD.sub (ws' := [(wa, .inr (3, [.ref qa1, .ref qa3, .ref q_5, .int (nI sp), .int (nI cn), .int (nI en), .int (nI ge), .int (nI be), .int (nI tl)])), (qa1, .inl (qk1, 12000, .inr (.inl (lA (cp7 ts))))), (qa3, .inl (qk3, 12000, .inl (nA (cp7 og)))), (q_5, .inl (ca_6, 16384, .inl (nA sl2)))]) [0, 4, 5, 6] rfl rfl
        have hK := hK.sub (tys' := [(qk1, .long), (qk3, .int), (ca_6, .int)]) [3, 4, 5] rfl
        have hT2 : TI 12000 16384 sp cn (cp7 ts) (cp7 og) sl2 := (show i = cn by omega) ▸ hT2
        subst hQ
        refine W.widen (k := 3) (n := 40384) (by omega) (by omega) ?_
        exact rwv (qa1, qa3, q_5, qk1, qk3, ca_6, 12000, 16384, sp, cn, en, ge, be, tl, cp7 ts, cp7 og, sl2) hx hb hr hlocks (⟨_, _, _, _, _, _, _, rfl, hT2⟩) hP hK hD hS dX3_makeLongRows_77
      · have c44_7 : ¬ (cn ≤ i) := fun h9 => c44_7 ((nI_leI (a := cn) (b := i) (by omega) (by omega)).mpr h9)
        refine lv_aload_n hx hb dX3_makeLongRows_47 rfl (lv_at hl 0 rfl) ?_
        refine va_get (D := D) (ci := 3) (v := .ref q_5) (C := RX3) (T := TX3) (N := 9) hx hb hU iX3 hown hK hP 0 rfl rfl 2 (by decide) (hU _ mU_64) (fun _ h9 => h9) rfl dX3_makeLongRows_48 ?_
        refine lv_aload_n hx hb dX3_makeLongRows_51 rfl (lv_at hl 0 rfl) ?_
        refine lv_aload_n hx hb dX3_makeLongRows_52 rfl (lv_at hl 0 rfl) ?_
        refine va_get (D := D) (ci := 3) (v := .ref qa1) (C := RX3) (T := TX3) (N := 9) hx hb hU iX3 hown hK hP 0 rfl rfl 0 (by decide) (hU _ mU_62) (fun _ h9 => h9) rfl dX3_makeLongRows_53 ?_
        refine lv_iload_n hx hb dX3_makeLongRows_56 rfl (lv_at hl 1 rfl) ?_
        refine n_lald hx hb hK hP 4 3 rfl rfl (i := i) (by omega) (by decide) dX3_makeLongRows_57 ?_
        have hPc := hP.sub (ws' := [(wa, .inr (3, [.ref qa1, .ref qa3, .ref q_5, .int (nI sp), .int (nI cn), .int (nI en), .int (nI ge), .int (nI be), .int (nI tl)])), (qa1, .inl (qk1, 12000, .inr (.inl (lA (cp7 ts))))), (qa3, .inl (qk3, 12000, .inl (nA (cp7 og)))), (q_5, .inl (ca_6, 16384, .inl (nA sl2)))]) [0, 4, 5, 6] rfl
        have hKc := hK.sub (tys' := [(qk1, .long), (qk3, .int), (ca_6, .int)]) [3, 4, 5] rfl
        refine cVi (As := [.long (lN ((cp7 ts) i))]) (rest := [.ref q_5]) ⟨hx, hb, hml, hown, hts⟩ (c_X3_slotOf l D wa qa1 qa3 q_5 qk1 qk3 ca_6 12000 16384 sp cn en ge be tl (cp7 ts) (cp7 og) sl2 ((cp7 ts) i) (Or.inr rfl) (hT2.2.2.2.2.2.2.1) (by omega) (hT2.2.2.2.2.1) (hT2.ix) (by omega) (hT2.2.2.2.2.1 _)) (cwV 1 hts (gV mU_353 mU_354 mU_355 mU_31 mU_356) rfl rfl rfl (by decide +kernel) ⟨Nat.le_of_ble_eq_true rfl, Nat.le_of_ble_eq_true rfl⟩) fbR (va_recv hK hP (ci := 3) (q0 := 0) rfl rfl) (PR.of hPc hKc) rfl hl.1 rfl (Nat.le_of_ble_eq_true rfl) dX3_makeLongRows_58 ⟨by decide, by decide⟩ ?_
        have hf_8 : slotC 16384 sp (cp7 ts) sl2 ((cp7 ts) i) < 16384 := slotC_lt (by omega)
        refine lv_aload_n hx hb dX3_makeLongRows_61 rfl (lv_at hl 0 rfl) ?_
        refine va_get (D := D) (ci := 3) (v := .int (nI sp)) (C := RX3) (T := TX3) (N := 9) hx hb hU iX3 hown hK hP 0 rfl rfl 3 (by decide) (hU _ mU_65) (fun _ h9 => h9) rfl dX3_makeLongRows_62 ?_
        refine lv_bipush (v := nI 14) hx hb dX3_makeLongRows_65 (by decide) ?_
        refine lv_ishl hx hb dX3_makeLongRows_67 ?_
        refine lv_topE (nI (sp * 16384)) (pk_shlN _ 14 (z_s32 14 (by decide)) (by omega)) ?_
        refine lv_iload_n hx hb dX3_makeLongRows_68 rfl (lv_at hl 1 rfl) ?_
        refine lv_ior hx hb dX3_makeLongRows_69 ?_
        refine lv_topE (nI (sp * 16384 + i)) (z_or14 (by omega)) ?_
        refine n_iast hx hb hK hP hD hS 6 5 rfl rfl (i := slotC 16384 sp (cp7 ts) sl2 ((cp7 ts) i)) (v := sp * 16384 + i) (by omega) (by decide) dX3_makeLongRows_70 (fun H locs hP hD hS => ?_)
        have hP : va_P D vwCl [(wa, .inr (3, [.ref qa1, .ref qa3, .ref q_5, .int (nI sp), .int (nI cn), .int (nI en), .int (nI ge), .int (nI be), .int (nI tl)])), (wb, .inl (kw0, 700, .inr (.inl (lA ts)))), (wc, .inl (kw1, 700, .inl (nA og))), (wd, .inl (kw2, 1024, .inl (nA sl))), (qa1, .inl (qk1, 12000, .inr (.inl (lA (cp7 ts))))), (qa3, .inl (qk3, 12000, .inl (nA (cp7 og)))), (q_5, .inl (ca_6, 16384, .inl (nA (upN sl2 (slotC 16384 sp (cp7 ts) sl2 ((cp7 ts) i)) (sp * 16384 + i)))))] H := hP
        have hD : va_D Ar [(wa, .inr (3, [.ref qa1, .ref qa3, .ref q_5, .int (nI sp), .int (nI cn), .int (nI en), .int (nI ge), .int (nI be), .int (nI tl)])), (wb, .inl (kw0, 700, .inr (.inl (lA ts)))), (wc, .inl (kw1, 700, .inl (nA og))), (wd, .inl (kw2, 1024, .inl (nA sl))), (qa1, .inl (qk1, 12000, .inr (.inl (lA (cp7 ts))))), (qa3, .inl (qk3, 12000, .inl (nA (cp7 og)))), (q_5, .inl (ca_6, 16384, .inl (nA (upN sl2 (slotC 16384 sp (cp7 ts) sl2 ((cp7 ts) i)) (sp * 16384 + i)))))] := hD
        refine lv_iinc (v := nI (i + 1)) (lv' := [(1, .int (nI (i + 1))), (0, .ref wa)]) hx hb dX3_makeLongRows_71 hl (k := 1) rfl (by rw [show Int32.ofInt 1 = nI 1 from by decide, nI_add]) (by decide) rfl (fun ls hl => ?_)
        refine lv_goto (tgt := 39) hx hb dX3_makeLongRows_74 (by decide) ?_
        exact ih39 (i + 1) (upN sl2 (slotC 16384 sp (cp7 ts) sl2 ((cp7 ts) i)) (sp * 16384 + i)) (by omega) ((TI_re (L := 0) hT2 hcn7 (by omega) hd7).2) (by omega) _ _ hP hD hS _ (lv_sub hl [1, 0] rfl)
  exact L39_64 ((cn - 0) + 1) 0 (fun _ => 0) (Nat.zero_le _) (TI_00 hT) (Nat.lt_succ_self _) _ _ hP hD hS _ (lv_sub hl [1, 0] rfl)

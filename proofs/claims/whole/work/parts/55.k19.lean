def nmT : List (List Nat) := [[112, 117, 116], [103, 101, 116], [115, 119, 97, 112], [97, 100, 100], [102, 101, 110, 99, 101], [119, 97, 105, 116], [115, 101, 116], [108, 111, 97, 100], [105, 102]]
def lenT : List Nat := [3, 3, 4, 3, 5, 4, 3, 4, 2]
def bytT : List (List Int32) := [[112, 117, 116], [103, 101, 116], [115, 119, 97, 112], [97, 100, 100], [102, 101, 110, 99, 101], [119, 97, 105, 116], [115, 101, 116], [108, 111, 97, 100], [105, 102]]
def txtT (i : Nat) : String := (["put", "get", "swap", "add", "fence", "wait", "set", "load", "if"]).getD i ""
def lnT (i : Nat) : Nat := (nmT.getD i []).length
def chT (i k : Nat) : Nat := (nmT.getD i []).getD k 0
theorem ln_le (i : Nat) : lnT i ≤ 5 := by
  by_cases h : i < 9
  · exact (by decide : ∀ i, i < 9 → lnT i ≤ 5) i h
  · unfold lnT; rw [List.getD_eq_getElem?_getD, List.getElem?_eq_none (by show 9 ≤ i; omega)]; decide
theorem len_get (i : Nat) (h : i < 9) : lenT.getD i 0 = lnT i := (by decide : ∀ i, i < 9 → lenT.getD i 0 = lnT i) i h
theorem len_ln (i : Nat) (h : i < 9) : Int32.ofNat (lenT.getD i 0) = nI (lnT i) := congrArg Int32.ofNat (len_get i h)
theorem byt_ch : ∀ i, i < 9 → ∀ k, k < 5 → (bytT.getD i []).getD k 0 = nI (chT i k) := by decide +kernel
theorem byt_at {i k : Nat} (hi : i < 9) (hk : k < 5) : (fun j => Value.int ((bytT.getD i []).getD j 0)) (nI k).toNatClampNeg = .int (nI (chT i k)) := by
  rw [nI_clamp (by omega)]; exact congrArg Value.int (byt_ch i hi k hk)
theorem ch_lt {i k : Nat} (hi : i < 9) (hk : k < 5) : chT i k < 128 := (by decide +kernel : ∀ i, i < 9 → ∀ k, k < 5 → chT i k < 128) i hi k hk
theorem ch_and {i k : Nat} (hi : i < 9) (hk : k < 5) : nI (chT i k) &&& nI 255 = nI (chT i k) := by rw [fa_mask _ 8, Nat.mod_eq_of_lt (by have := ch_lt hi hk; omega)]
theorem ch_c2 {i k : Nat} (hi : i < 9) (hk : k < 5) : ((nI (chT i k)).toUInt32 % 65536).toInt32 = nI (chT i k) := by
  have := sc_c2 (nI (chT i k))
  rw [show (255 : Int32) = nI 255 from by decide, ch_and hi hk] at this
  exact this
theorem ch_nar {i k : Nat} (hi : i < 9) (hk : k < 5) : narrow .char (.int (nI (chT i k))) = .int (nI (chT i k)) := by
  have := sc_nar (nI (chT i k))
  rw [show (255 : Int32) = nI 255 from by decide, ch_and hi hk] at this
  exact this
def kindL : List Nat := [1, 4, 0, 0, 1, 3, 0, 0, 1, 4, 4, 3, 1, 4, 3, 0, 0, 0, 0, 0, 0, 0, 0, 0, 2, 4, 0, 0, 2, 3, 0, 0, 3, 4, 5, 0]
def kindT (j : Nat) : Nat := kindL.getD j 0
theorem kindT_lt (j : Nat) : kindT j < 6 := by
  by_cases h : j < 36
  · exact (by decide +kernel : ∀ j, j < 36 → kindT j < 6) j h
  · unfold kindT; rw [List.getD_eq_getElem?_getD, List.getElem?_eq_none (by show 36 ≤ j; omega)]; decide
def kindC (so w : Nat) : Nat := if so < 9 ∧ w < 4 then kindT (so * 4 + w) else 0
theorem kindC_lt (so w : Nat) : kindC so w < 6 := by unfold kindC; split; exact kindT_lt _; decide
def numC (so : Nat) : Nat := if kindC so 0 = 0 then 0 else if kindC so 1 = 0 then 1 else if kindC so 2 = 0 then 2 else if kindC so 3 = 0 then 3 else 4
theorem numC_le (so : Nat) : numC so ≤ 4 := by unfold numC; (repeat (first | split | omega)) <;> omega
/-- the bytes of a text from p on -/
def slc (tx : Nat → Nat) (p d : Nat) : List Nat := (List.range d).map (fun k => tx (p + k))
theorem slc_len {tx : Nat → Nat} {p d si : Nat} (h : slc tx p d = nmT.getD si []) : d = lnT si := by unfold lnT; rw [← h]; simp [slc]
theorem slc_get {tx : Nat → Nat} {p d k : Nat} (hk : k < d) : (slc tx p d).getD k 0 = tx (p + k) := by unfold slc; simp [List.getD_eq_getElem?_getD, hk]
theorem slc_at {tx : Nat → Nat} {p e i si : Nat} (h : slc tx p (e - p) = nmT.getD si []) (h1 : p ≤ i) (h2 : i < e) : tx i = chT si (i - p) := by
  unfold chT; rw [← h, slc_get (by omega)]; congr 1; omega
theorem slc_eq {tx : Nat → Nat} {p d si : Nat} (hl : d = lnT si) (h : ∀ k, k < d → tx (p + k) = chT si k) : slc tx p d = nmT.getD si [] := by
  apply List.ext_getElem
  · rw [show (slc tx p d).length = d by simp [slc]]; exact hl
  · intro k h1 h2
    have hk : k < d := by simpa [slc] using h1
    have := h k hk
    unfold chT at this
    rw [List.getD_eq_getElem?_getD, List.getElem?_eq_getElem h2] at this
    simp [slc]
    exact this
theorem slc_step {tx : Nat → Nat} {p i si : Nat} (h : ∀ k, k < i - p → tx (p + k) = chT si k) (hp : p ≤ i) (e : tx i = chT si (i - p)) : ∀ k, k < i + 1 - p → tx (p + k) = chT si k := fun k hk => by
  by_cases q : k = i - p
  · subst q; rw [show p + (i - p) = i by omega]; exact e
  · exact h k (by omega)
def sortC (tx : Nat → Nat) (p e : Nat) : Nat := if slc tx p (e - p) = nmT.getD 0 [] then 0 else if slc tx p (e - p) = nmT.getD 1 [] then 1 else if slc tx p (e - p) = nmT.getD 2 [] then 2 else if slc tx p (e - p) = nmT.getD 3 [] then 3 else if slc tx p (e - p) = nmT.getD 4 [] then 4 else if slc tx p (e - p) = nmT.getD 5 [] then 5 else if slc tx p (e - p) = nmT.getD 6 [] then 6 else if slc tx p (e - p) = nmT.getD 7 [] then 7 else if slc tx p (e - p) = nmT.getD 8 [] then 8 else 4294967295
theorem sortC_or (tx : Nat → Nat) (p e : Nat) : sortC tx p e < 9 ∨ sortC tx p e = 4294967295 := by
  unfold sortC
  (repeat (first | split | exact Or.inr rfl | exact Or.inl (by decide)))
/-! LIB 4: constants of the machine -/
def zz (ak : Nat) (adK adV : Nat → Nat) (A : Nat → Prop) (U : State) (H : Heap) : Prop := va_Z "FarStore$Program" "KINDS" "[I" (.ref ak) A U H ∧ va_T .int ak 36 (fun j => .int (nI (kindT j))) A U H ∧ vk_S 9 lenT bytT adK adV A U H ∧ (∀ i, i < 9 → vk_R RX1 (22 + 2 * i) (txtT i) (adK i) U) ∧ va_Z "java/lang/String" "COMPACT_STRINGS" "Z" (.int 1) A U H ∧ va_Zq "jdk/internal/util/Preconditions" "SIOOBE_FORMATTER" "Ljava/util/function/BiFunction;" A U H
theorem zz.kept {ak : Nat} {adK adV : Nat → Nat} {A : Nat → Prop} {U : State} {H H1 : Heap} (h : zz ak adK adV A U H) (hq : ∀ a : Nat, a < H.size → ¬ A a → H1[a]? = H[a]?) : zz ak adK adV A U H1 := ⟨h.1.kept hq, h.2.1.kept hq, h.2.2.1.kept hq, h.2.2.2.1, h.2.2.2.2.1.kept hq, h.2.2.2.2.2.kept hq⟩
theorem zz.narrow {ak : Nat} {adK adV : Nat → Nat} {A B : Nat → Prop} {U : State} {H : Heap} (h : zz ak adK adV A U H) (hAB : ∀ q, B q → A q) : zz ak adK adV B U H := ⟨h.1.narrow hAB, h.2.1.narrow hAB, h.2.2.1.narrow hAB, h.2.2.2.1, h.2.2.2.2.1.narrow hAB, h.2.2.2.2.2.narrow hAB⟩
theorem zz.warm {ak : Nat} {adK adV : Nat → Nat} {A : Nat → Prop} {s U : State} {H : Heap} (h : zz ak adK adV A s H) (hW : s.WarmedH U.vm) : zz ak adK adV A U H := ⟨h.1.moved hW.alike, h.2.1.moved hW.alike, h.2.2.1.moved hW.alike, fun i hi => (h.2.2.2.1 i hi).warm hW, h.2.2.2.2.1.moved hW.alike, h.2.2.2.2.2.moved hW.alike⟩
theorem zz.call {ak : Nat} {adK adV : Nat → Nat} {A : Nat → Prop} {U : State} {g : JFrame} {mk : MethodId} {a : Array Value} {H : Heap} (h : zz ak adK adV A U H) : zz ak adK adV A (U.calling g mk a) H := ⟨h.1.moved (u := U) (Vm.Alike.refl U.vm), h.2.1.moved (u := U) (Vm.Alike.refl U.vm), h.2.2.1.moved (u := U) (Vm.Alike.refl U.vm), fun i hi => (h.2.2.2.1 i hi).same (u := U) rfl, h.2.2.2.2.1.moved (u := U) (Vm.Alike.refl U.vm), h.2.2.2.2.2.moved (u := U) (Vm.Alike.refl U.vm)⟩
def PZ (B : State → Prop) (ak : Nat) (adK adV : Nat → Nat) : State → Prop := fun U => B U ∧ zz ak adK adV (fun _ => False) U U.heap
def PWZ (D : va_G) (ws : va_W) (tys : List (ClassId × FieldType)) (sz ak : Nat) (adK adV : Nat → Nat) : State → Prop := fun U => PW D ws tys sz U ∧ zz ak adK adV (va_A ws sz) U U.heap
theorem fbZU {av : List Value} {ak : Nat} {adK adV : Nat → Nat} : FrameBlind (va_Pc av (PZ PU ak adK adV)) := fun _ _ _ _ q => ⟨q.1, q.2.1, q.2.2.call⟩
theorem fbZR {av : List Value} {D : va_G} {ws : va_W} {tys : List (ClassId × FieldType)} {ak : Nat} {adK adV : Nat → Nat} : FrameBlind (va_Pc av (PZ (PR D ws tys) ak adK adV)) := fun a U g mk q => ⟨q.1, ⟨q.2.1.1, va_K.moved (u := U) (U := U.calling g mk a) (Vm.Alike.refl U.vm) q.2.1.2⟩, q.2.2.call⟩
theorem fbWZ {av : List Value} {D : va_G} {ws : va_W} {tys : List (ClassId × FieldType)} {sz ak : Nat} {adK adV : Nat → Nat} : FrameBlind (va_Pc av (PWZ D ws tys sz ak adK adV)) := fun a U g mk q => ⟨q.1, ⟨q.2.1.1, q.2.1.2.1, va_K.moved (u := U) (U := U.calling g mk a) (Vm.Alike.refl U.vm) q.2.1.2.2.1, q.2.1.2.2.2⟩, q.2.2.call⟩
theorem zB {B : State → Prop} {ak : Nat} {adK adV : Nat → Nat} {A : Nat → Prop} {s : State} {H : Heap} {locs : List Loc} (hB : ∀ U : State, U.heap = H → s.WarmedH U.vm → B U) (hZ : zz ak adK adV A s s.heap) (hS : va_S A s.heap H locs) : ∀ U : State, U.heap = H → s.WarmedH U.vm → PZ B ak adK adV U := fun U hU hW => ⟨hB U hU hW, by rw [hU]; exact ((hZ.kept hS.2.1).narrow (fun _ q => q.elim)).warm hW⟩
def QrV : Array Value → State → Outcome → State → Prop := fun _ st o t => o = .returned none ∧ t.heap = st.heap
def QrR (a : Nat) : Array Value → State → Outcome → State → Prop := fun _ st o t => o = .returned (some (.ref a)) ∧ t.heap = st.heap
section LIB4
variable {p : Program} {l : Launch} {e : Env} {R : Room} {s : State} {m : MethodId} {args : Array Value} {below : List Frame} {meth : Method} {c : Code} {H : Heap} {locs : List Loc} {cells slots : Nat} {Q : State → Prop}
variable {pc : Nat} {ls : Array Slot} {rest st0 : List Value}
variable {Ts ws ws' : List Cond} {cc bytes : ByteArray} {nL maxL index n : Nat} {own C : String} {y : MethodName} {ret : Option FieldType} {rm : Room} {B : State → Prop} {b : Addr} {As : List Value}
theorem cSv (S : CallFix p m c cc nL s args Ts own) (hM : Met l y ws rm (va_Pc As B) QrV 0 0 (fun _ => False)) (cw : CallB R s args own index y bytes maxL ret ws rm 0 0 n ∧ (Cond.static y).before args s = true) (hfb : FrameBlind (va_Pc As B)) (hB : ∀ U : State, U.heap = H → s.WarmedH U.vm → B U)
    (hn : As.length = n) (hsize : ls.size = nL) (hstack : st0 = As.reverse ++ rest) (hW : (rest.map fun v => v.category).sum ≤ 8) (hdg : decode cc pc = .ok (.invokestatic index, 3)) (hf : cells ≤ R.cells ∧ slots ≤ R.slots)
    (kk : W p l e R s m args below meth c H locs cells slots Q (F0 m (pc + 3) ls rest)) : W p l e R s m args below meth c H locs cells slots Q (F0 m pc ls st0) := by
  intro T hT X
  obtain ⟨v, st₀, t, T', L, h0, X', hL, e1, ⟨hv, hh⟩, st⟩ := W.runS (rest := rest) (g := F0 m pc ls st0) S hM cw ⟨hfb, fun U hU hW => ⟨rfl, hB U hU hW⟩⟩ rfl hn hsize hstack (lv_room hW) hdg hf T hT X
  cases hv
  obtain ⟨t2, a1, b1⟩ := kk T' (by rw [e1, hh, h0]) (Stand.forget X' (fun q h => (hL q h).elim))
  exact ⟨t2, st t2 a1, b1⟩
theorem cSr {v : Nat} (S : CallFix p m c cc nL s args Ts own) (hM : Met l y ws rm (va_Pc As B) (QrR v) 0 0 (fun _ => False)) (cw : CallB R s args own index y bytes maxL ret ws rm 0 0 n ∧ (Cond.static y).before args s = true) (hfb : FrameBlind (va_Pc As B)) (hB : ∀ U : State, U.heap = H → s.WarmedH U.vm → B U)
    (hn : As.length = n) (hsize : ls.size = nL) (hstack : st0 = As.reverse ++ rest) (hW : (rest.map fun v => v.category).sum ≤ 8) (hdg : decode cc pc = .ok (.invokestatic index, 3)) (hf : cells ≤ R.cells ∧ slots ≤ R.slots)
    (kk : W p l e R s m args below meth c H locs cells slots Q (F0 m (pc + 3) ls (.ref v :: rest))) : W p l e R s m args below meth c H locs cells slots Q (F0 m pc ls st0) := by
  intro T hT X
  obtain ⟨w, st₀, t, T', L, h0, X', hL, e1, ⟨hv, hh⟩, st⟩ := W.runS (rest := rest) (g := F0 m pc ls st0) S hM cw ⟨hfb, fun U hU hW => ⟨rfl, hB U hU hW⟩⟩ rfl hn hsize hstack (lv_room hW) hdg hf T hT X
  cases hv
  obtain ⟨t2, a1, b1⟩ := kk T' (by rw [e1, hh, h0]) (Stand.forget X' (fun q h => (hL q h).elim))
  exact ⟨t2, st t2 a1, b1⟩
theorem rtv {cc : ByteArray} (hexec : p.tables.exec = Jvm.exec) (hb : c.code = cc) (hr : meth.sig.returnType = none) (hlocks : meth.locks = false) (hH : H = s.heap) {pc : Nat} {ls : Array Slot} (hdg : decode cc pc = .ok (.return_, 1)) : W p l e R s m args below meth c H [] cells slots (MQ below QrV args s cells slots (fun _ => False)) (F0 m pc ls []) :=
  W.vret hexec hb hr (fun t ht _ => ⟨rfl, ht.trans hH⟩) (fun _ h => by cases h) hdg
theorem rta {v w : Nat} {cc : ByteArray} {rt : FieldType} (hexec : p.tables.exec = Jvm.exec) (hb : c.code = cc) (hr : meth.sig.returnType = some rt) (hrt : (∃ n, rt = .object n) ∨ ∃ t, rt = .array t) (hlocks : meth.locks = false) (hH : H = s.heap) (hv : v = w) {pc : Nat} {ls : Array Slot} (hdg : decode cc pc = .ok (.areturn, 1)) : W p l e R s m args below meth c H [] cells slots (MQ below (QrR w) args s cells slots (fun _ => False)) (F0 m pc ls [.ref v]) :=
  W.aret hexec hb hr hrt (Or.inr ⟨v, rfl⟩) (fun t ht _ => ⟨by rw [hv], ht.trans hH⟩) (fun _ h => by cases h) hdg
variable {D : va_G} {tys : List (ClassId × FieldType)} {wsd : va_W} {A : Nat → Prop} {S : Type} {W' : S → va_W} {T' : S → List (ClassId × FieldType)} {wq : List Cond} {mc ms : Nat} {wc wr : va_W} {tc tr : List (ClassId × FieldType)} {ak : Nat} {adK adV : Nat → Nat}
theorem kVvZ {post : S → Prop} (SF : CallFix p m c cc nL s args Ts own) (hM : Met l y wq rm (va_Pc (.ref b :: As) (PWZ D wc tc H.size ak adK adV)) (va_Qv post (QW D W' T' (va_A wc H.size)) (va_A wc H.size)) mc ms (va_A wc H.size)) (cw : CallW R s args own C index y bytes maxL ret wq rm mc ms n)
    (hrc : ∃ cellB : Cell, H[b]? = some cellB ∧ cellB.vm.isStatics = false ∧ s.vm.findClass C = some cellB.cls) (hP : va_P D vwCl wsd H) (hK : va_K D vwCl tys s) (hD : va_D A wsd) (hS : va_S A s.heap H locs) (hA : ∀ q, s.heap.size ≤ q → A q) (hZ : zz ak adK adV A s s.heap)
    (isC isR tC tR : List Nat) (hC : isC.map (fun i => wsd[i]?) = wc.map some) (hnC : va_nd isC = true) (hR : isR.map (fun i => wsd[i]?) = wr.map some) (hnR : va_nd isR = true) (hdis : ∀ i ∈ isR, i ∉ isC) (htC : tC.filterMap (fun i => tys[i]?) = tc) (htR : tR.filterMap (fun i => tys[i]?) = tr)
    (hn : As.length = n) (hsize : ls.size = nL) (hstack : st0 = As.reverse ++ .ref b :: rest) (hW : (rest.map fun v => v.category).sum ≤ 8) (hdg : decode cc pc = .ok (.invokevirtual index, 3)) (hf : cells + mc ≤ R.cells ∧ slots + ms ≤ R.slots)
    (kk : ∀ (u : S) (H1 : Heap) (locs1 : List Loc), post u → va_P D vwCl (wr ++ W' u) H1 → va_D A (wr ++ W' u) → va_K D vwCl (tr ++ T' u) s → va_S A s.heap H1 locs1 → W p l e R s m args below meth c H1 locs1 (cells + mc) (slots + ms) Q (F0 m (pc + 3) ls rest)) : W p l e R s m args below meth c H locs cells slots Q (F0 m pc ls st0) := by
  have hPc : va_P D vwCl wc H := fun k q hq => by
    have h1 : (isC.map (fun i => wsd[i]?))[k]? = some (some q) := by rw [hC, List.getElem?_map, hq]; rfl
    rw [List.getElem?_map] at h1
    cases hi : isC[k]? with
    | none => rw [hi] at h1; cases h1
    | some i => rw [hi] at h1; exact hP i q (Option.some.inj h1)
  have hDc := hD.sub (ws' := wc) isC hnC hC
  have hKc := hK.sub tC htC
  have hFc := va_free (wc := wc) hD hS hA isC hC
  refine va_callv (va_runV SF hM cw ⟨fbWZ, hrc, fun U hU hW => ⟨rfl, ⟨by rw [hU], by rw [hU]; exact hPc, va_K.moved hW.alike hKc, hDc.weaken (fun _ _ _ _ => trivial)⟩, by rw [hU]; exact ((hZ.kept hS.2.1).narrow hFc).warm hW⟩⟩ rfl hn hsize hstack (lv_room hW) hdg hf) hS (fun q _ h => hFc q h) hFc (fun u t H1 locs1 ht hvm hw hB hz1 hk1 hS1 => ?_)
  obtain ⟨hP1, hK1, hD1⟩ := hB
  rw [ht] at hP1
  obtain ⟨hP2, hD2⟩ := va_join (wr := wr) hP hD isC isR hC hR hnR hdis hk1 hFc hP1 hD1
  exact kk u H1 locs1 hw hP2 hD2 ((hK.sub tR htR).app (va_K.moved hvm.symm hK1)) hS1
end LIB4
set_option maxHeartbeats 4000000 in
set_option maxRecDepth 100000 in
theorem c_J0_coder_7d493 (l : Launch) (ak : Nat) (adK adV : Nat → Nat) (si : Nat)  (hsi : si < 9) : Met l yJ0_coder_7d493 (.code yJ0_coder_7d493 cJ0_coder_7d493 1 (some .byte) :: wsL_law) ({ frames := 0, cells := 0, slots := 0, locals := 0 }) (va_Pc [.ref (adK si)] (PZ PU ak adK adV)) (QrI (nI 0)) 0 0 (fun _ => False) := by
  refine Met.ofW (cc := cJ0_coder_7d493) (maxL := 1) (ret := (some .byte)) (by decide) rfl ?_
  intro p e s m args below meth c s₁ B hml hv
  obtain ⟨rfl, hv, hZ⟩ := hv
  have hS : va_S (fun _ => False) s.heap s.heap [] := va_S.rf
  have hx := B.exec
  have hb := B.bytes
  have hr := B.returns
  have hts := atoms_spec (ws := .code yJ0_coder_7d493 cJ0_coder_7d493 1 (some .byte) :: wsL_law) B.pre
  have hU : ∀ w ∈ wsL_law, w.before _ s = true := fun w h => hts w (List.mem_cons_of_mem _ h)
  have hown : s.vm.findClass RJ0 = some m.cls := findClass_of_methodNamed B.named
  have hlocks := B.notSynchronized
  generalize hQ : MQ _ _ _ _ _ _ _ = Q
  have hl := lv_entry ([.ref (adK si)]) (n := 1) (Nat.le_of_ble_eq_true rfl)
  rw [lg_entry_eq]
  generalize (lg_sl ([.ref (adK si)]) ++ List.replicate (1 - (lg_sl ([.ref (adK si)])).length) Slot.unset).toArray = ls at hl ⊢
  have hl : lv_has ls 1 [(0, .ref (adK si))] := hl
  refine va_gets hx hb hZ.2.2.2.2.1 hS hown (hU _ mU_174) (fun _ h9 => h9) dJ0_coder_7d493_0 ?_
  refine lv_topE (nI 1) (by decide) ?_
  refine lv_if_eq (tgt := 13) hx hb dJ0_coder_7d493_3 (by decide) (fun c3_1 => by first | exact absurd c3_1 (by decide) | exact absurd (by decide) c3_1) (fun c3_1 => ?_)
  refine lv_aload_n hx hb dJ0_coder_7d493_6 rfl (lv_at hl 0 rfl) ?_
  refine vk_getf hx hb (hZ.2.2.1.1 si (by omega)).2.1 hS hown (hU _ mU_175) (fun _ h9 => h9) dJ0_coder_7d493_7 ?_
  refine lv_topE (nI 0) (by decide) ?_
  refine lv_goto (tgt := 14) hx hb dJ0_coder_7d493_10 (by decide) ?_
  subst hQ
  exact rtz hx hb hr hlocks rfl rfl (rfl) dJ0_coder_7d493_14

set_option maxHeartbeats 4000000 in
set_option maxRecDepth 100000 in
theorem c_J0_length_8abf5 (l : Launch) (ak : Nat) (adK adV : Nat → Nat) (si : Nat)  (hsi : si < 9) : Met l yJ0_length_8abf5 (.code yJ0_length_8abf5 cJ0_length_8abf5 1 (some .int) :: wsL_law) ({ frames := 1, cells := 0, slots := 0, locals := 20 }) (va_Pc [.ref (adK si)] (PZ PU ak adK adV)) (QrI (nI (lnT si))) 0 0 (fun _ => False) := by
  refine Met.ofW (cc := cJ0_length_8abf5) (maxL := 1) (ret := (some .int)) (by decide) rfl ?_
  intro p e s m args below meth c s₁ B hml hv
  obtain ⟨rfl, hv, hZ⟩ := hv
  have hS : va_S (fun _ => False) s.heap s.heap [] := va_S.rf
  have hx := B.exec
  have hb := B.bytes
  have hr := B.returns
  have hts := atoms_spec (ws := .code yJ0_length_8abf5 cJ0_length_8abf5 1 (some .int) :: wsL_law) B.pre
  have hU : ∀ w ∈ wsL_law, w.before _ s = true := fun w h => hts w (List.mem_cons_of_mem _ h)
  have hown : s.vm.findClass RJ0 = some m.cls := findClass_of_methodNamed B.named
  have hlocks := B.notSynchronized
  generalize hQ : MQ _ _ _ _ _ _ _ = Q
  have hl := lv_entry ([.ref (adK si)]) (n := 1) (Nat.le_of_ble_eq_true rfl)
  rw [lg_entry_eq]
  generalize (lg_sl ([.ref (adK si)]) ++ List.replicate (1 - (lg_sl ([.ref (adK si)])).length) Slot.unset).toArray = ls at hl ⊢
  have hl : lv_has ls 1 [(0, .ref (adK si))] := hl
  refine lv_aload_n hx hb dJ0_length_8abf5_0 rfl (lv_at hl 0 rfl) ?_
  refine vk_getf hx hb (hZ.2.2.1.1 si (by omega)).2.2.1 hS hown (hU _ mU_169) (fun _ h9 => h9) dJ0_length_8abf5_1 ?_
  refine va_tlen (v := nI (lnT si)) hx hb (hZ.2.2.1.1 si (by omega)).2.2.2 hS (len_ln si (by omega)) dJ0_length_8abf5_4 ?_
  refine lv_aload_n hx hb dJ0_length_8abf5_5 rfl (lv_at hl 0 rfl) ?_
  refine cVi (As := []) (rest := [.int (nI (lnT si))]) ⟨hx, hb, hml, hown, hts⟩ (c_J0_coder_7d493 l ak adK adV si  (by omega)) (cwV 0 hts (gV mU_170 mU_171 mU_172 mU_167 mU_173) rfl rfl rfl (by decide +kernel) ⟨Nat.le_of_ble_eq_true rfl, Nat.le_of_ble_eq_true rfl⟩) fbZU (vk_recv hZ.2.2.1 (by omega) hS) (zB (fun _ _ _ => trivial) hZ hS) rfl hl.1 rfl (Nat.le_of_ble_eq_true rfl) dJ0_length_8abf5_6 ⟨Nat.zero_le _, Nat.zero_le _⟩ ?_
  refine lv_ishr hx hb dJ0_length_8abf5_9 ?_
  refine lv_topE (nI (lnT si)) (sc_shr0 (by have := ln_le si; omega)) ?_
  subst hQ
  exact rti hx hb hr hlocks rfl (rfl) dJ0_length_8abf5_10

set_option maxHeartbeats 4000000 in
set_option maxRecDepth 100000 in
theorem c_J0_isLatin1_aae02 (l : Launch) (ak : Nat) (adK adV : Nat → Nat) (si : Nat)  (hsi : si < 9) : Met l yJ0_isLatin1_aae02 (.code yJ0_isLatin1_aae02 cJ0_isLatin1_aae02 1 (some .boolean) :: wsL_law) ({ frames := 0, cells := 0, slots := 0, locals := 0 }) (va_Pc [.ref (adK si)] (PZ PU ak adK adV)) (QrI (nI 1)) 0 0 (fun _ => False) := by
  refine Met.ofW (cc := cJ0_isLatin1_aae02) (maxL := 1) (ret := (some .boolean)) (by decide) rfl ?_
  intro p e s m args below meth c s₁ B hml hv
  obtain ⟨rfl, hv, hZ⟩ := hv
  have hS : va_S (fun _ => False) s.heap s.heap [] := va_S.rf
  have hx := B.exec
  have hb := B.bytes
  have hr := B.returns
  have hts := atoms_spec (ws := .code yJ0_isLatin1_aae02 cJ0_isLatin1_aae02 1 (some .boolean) :: wsL_law) B.pre
  have hU : ∀ w ∈ wsL_law, w.before _ s = true := fun w h => hts w (List.mem_cons_of_mem _ h)
  have hown : s.vm.findClass RJ0 = some m.cls := findClass_of_methodNamed B.named
  have hlocks := B.notSynchronized
  generalize hQ : MQ _ _ _ _ _ _ _ = Q
  have hl := lv_entry ([.ref (adK si)]) (n := 1) (Nat.le_of_ble_eq_true rfl)
  rw [lg_entry_eq]
  generalize (lg_sl ([.ref (adK si)]) ++ List.replicate (1 - (lg_sl ([.ref (adK si)])).length) Slot.unset).toArray = ls at hl ⊢
  have hl : lv_has ls 1 [(0, .ref (adK si))] := hl
  refine va_gets hx hb hZ.2.2.2.2.1 hS hown (hU _ mU_174) (fun _ h9 => h9) dJ0_isLatin1_aae02_0 ?_
  refine lv_topE (nI 1) (by decide) ?_
  refine lv_if_eq (tgt := 17) hx hb dJ0_isLatin1_aae02_3 (by decide) (fun c3_1 => by first | exact absurd c3_1 (by decide) | exact absurd (by decide) c3_1) (fun c3_1 => ?_)
  refine lv_aload_n hx hb dJ0_isLatin1_aae02_6 rfl (lv_at hl 0 rfl) ?_
  refine vk_getf hx hb (hZ.2.2.1.1 si (by omega)).2.1 hS hown (hU _ mU_175) (fun _ h9 => h9) dJ0_isLatin1_aae02_7 ?_
  refine lv_topE (nI 0) (by decide) ?_
  refine lv_if_ne (tgt := 17) hx hb dJ0_isLatin1_aae02_10 (by decide) (fun c10_2 => by first | exact absurd c10_2 (by decide) | exact absurd (by decide) c10_2) (fun c10_2 => ?_)
  refine lv_iconst (v := nI 1) hx hb dJ0_isLatin1_aae02_13 (by decide) ?_
  refine lv_goto (tgt := 18) hx hb dJ0_isLatin1_aae02_14 (by decide) ?_
  subst hQ
  exact rtz hx hb hr hlocks rfl rfl (rfl) dJ0_isLatin1_aae02_18

set_option maxHeartbeats 4000000 in
set_option maxRecDepth 100000 in
theorem c_J3_checkIndex0 (l : Launch) (kk : Nat) (nn : Nat) (hkn : kk < nn) (hnn : nn < 2147483648) : Met l yJ3_checkIndex_8e157 (.code yJ3_checkIndex_8e157 cJ3_checkIndex_8e157 3 (some .int) :: wsL_law) ({ frames := 0, cells := 0, slots := 0, locals := 0 }) (va_Pc [.int (nI kk), .int (nI nn), .null] PU) (QrI (nI kk)) 0 0 (fun _ => False) := by
  refine Met.ofW (cc := cJ3_checkIndex_8e157) (maxL := 3) (ret := (some .int)) (by decide) rfl ?_
  intro p e s m args below meth c s₁ B hml hv
  obtain ⟨rfl, hv⟩ := hv
  have hx := B.exec
  have hb := B.bytes
  have hr := B.returns
  have hts := atoms_spec (ws := .code yJ3_checkIndex_8e157 cJ3_checkIndex_8e157 3 (some .int) :: wsL_law) B.pre
  have hU : ∀ w ∈ wsL_law, w.before _ s = true := fun w h => hts w (List.mem_cons_of_mem _ h)
  have hown : s.vm.findClass RJ3 = some m.cls := findClass_of_methodNamed B.named
  have hlocks := B.notSynchronized
  generalize hQ : MQ _ _ _ _ _ _ _ = Q
  have hl := lv_entry ([.int (nI kk), .int (nI nn), .null]) (n := 3) (Nat.le_of_ble_eq_true rfl)
  rw [lg_entry_eq]
  generalize (lg_sl ([.int (nI kk), .int (nI nn), .null]) ++ List.replicate (3 - (lg_sl ([.int (nI kk), .int (nI nn), .null])).length) Slot.unset).toArray = ls at hl ⊢
  have hl : lv_has ls 3 [(0, .int (nI kk)), (1, .int (nI nn)), (2, .null)] := hl
  refine lv_iload_n hx hb dJ3_checkIndex_8e157_0 rfl (lv_at hl 0 rfl) ?_
  refine lv_if_lt (tgt := 9) hx hb dJ3_checkIndex_8e157_1 (by decide) (fun c1_1 => ?_) (fun c1_1 => ?_)
  · have c1_1 : 2147483648 ≤ kk := (nI_lt0 (a := kk) (by omega)).mp c1_1
    exfalso; omega
  · have c1_1 : ¬ (2147483648 ≤ kk) := fun h9 => c1_1 ((nI_lt0 (a := kk) (by omega)).mpr h9)
    refine lv_iload_n hx hb dJ3_checkIndex_8e157_4 rfl (lv_at hl 0 rfl) ?_
    refine lv_iload_n hx hb dJ3_checkIndex_8e157_5 rfl (lv_at hl 1 rfl) ?_
    refine lv_icmp_lt (tgt := 16) hx hb dJ3_checkIndex_8e157_6 (by decide) (fun c6_2 => ?_) (fun c6_2 => ?_)
    · have c6_2 : kk < nn := (nI_ltI (a := kk) (b := nn) (by omega) (by omega)).mp c6_2
      refine lv_iload_n hx hb dJ3_checkIndex_8e157_16 rfl (lv_at hl 0 rfl) ?_
      subst hQ
      exact rti hx hb hr hlocks rfl (rfl) dJ3_checkIndex_8e157_17
    · have c6_2 : ¬ (kk < nn) := fun h9 => c6_2 ((nI_ltI (a := kk) (b := nn) (by omega) (by omega)).mpr h9)
      exfalso; omega

set_option maxHeartbeats 4000000 in
set_option maxRecDepth 100000 in
theorem c_J3_checkIndexR (l : Launch) (kk : Nat) (nn : Nat) (zf : Nat) (hkn : kk < nn) (hnn : nn < 2147483648) : Met l yJ3_checkIndex_8e157 (.code yJ3_checkIndex_8e157 cJ3_checkIndex_8e157 3 (some .int) :: wsL_law) ({ frames := 0, cells := 0, slots := 0, locals := 0 }) (va_Pc [.int (nI kk), .int (nI nn), .ref zf] PU) (QrI (nI kk)) 0 0 (fun _ => False) := by
  refine Met.ofW (cc := cJ3_checkIndex_8e157) (maxL := 3) (ret := (some .int)) (by decide) rfl ?_
  intro p e s m args below meth c s₁ B hml hv
  obtain ⟨rfl, hv⟩ := hv
  have hx := B.exec
  have hb := B.bytes
  have hr := B.returns
  have hts := atoms_spec (ws := .code yJ3_checkIndex_8e157 cJ3_checkIndex_8e157 3 (some .int) :: wsL_law) B.pre
  have hU : ∀ w ∈ wsL_law, w.before _ s = true := fun w h => hts w (List.mem_cons_of_mem _ h)
  have hown : s.vm.findClass RJ3 = some m.cls := findClass_of_methodNamed B.named
  have hlocks := B.notSynchronized
  generalize hQ : MQ _ _ _ _ _ _ _ = Q
  have hl := lv_entry ([.int (nI kk), .int (nI nn), .ref zf]) (n := 3) (Nat.le_of_ble_eq_true rfl)
  rw [lg_entry_eq]
  generalize (lg_sl ([.int (nI kk), .int (nI nn), .ref zf]) ++ List.replicate (3 - (lg_sl ([.int (nI kk), .int (nI nn), .ref zf])).length) Slot.unset).toArray = ls at hl ⊢
  have hl : lv_has ls 3 [(0, .int (nI kk)), (1, .int (nI nn)), (2, .ref zf)] := hl
  refine lv_iload_n hx hb dJ3_checkIndex_8e157_0 rfl (lv_at hl 0 rfl) ?_
  refine lv_if_lt (tgt := 9) hx hb dJ3_checkIndex_8e157_1 (by decide) (fun c1_1 => ?_) (fun c1_1 => ?_)
  · have c1_1 : 2147483648 ≤ kk := (nI_lt0 (a := kk) (by omega)).mp c1_1
    exfalso; omega
  · have c1_1 : ¬ (2147483648 ≤ kk) := fun h9 => c1_1 ((nI_lt0 (a := kk) (by omega)).mpr h9)
    refine lv_iload_n hx hb dJ3_checkIndex_8e157_4 rfl (lv_at hl 0 rfl) ?_
    refine lv_iload_n hx hb dJ3_checkIndex_8e157_5 rfl (lv_at hl 1 rfl) ?_
    refine lv_icmp_lt (tgt := 16) hx hb dJ3_checkIndex_8e157_6 (by decide) (fun c6_2 => ?_) (fun c6_2 => ?_)
    · have c6_2 : kk < nn := (nI_ltI (a := kk) (b := nn) (by omega) (by omega)).mp c6_2
      refine lv_iload_n hx hb dJ3_checkIndex_8e157_16 rfl (lv_at hl 0 rfl) ?_
      subst hQ
      exact rti hx hb hr hlocks rfl (rfl) dJ3_checkIndex_8e157_17
    · have c6_2 : ¬ (kk < nn) := fun h9 => c6_2 ((nI_ltI (a := kk) (b := nn) (by omega) (by omega)).mpr h9)
      exfalso; omega

set_option maxHeartbeats 4000000 in
set_option maxRecDepth 100000 in
theorem c_J0_checkIndex_df160 (l : Launch) (ak : Nat) (adK adV : Nat → Nat) (kk : Nat) (nn : Nat) (hkn : kk < nn) (hnn : nn < 2147483648) : Met l yJ0_checkIndex_df160 (.code yJ0_checkIndex_df160 cJ0_checkIndex_df160 2 none :: wsL_law) ({ frames := 1, cells := 0, slots := 0, locals := 22 }) (va_Pc [.int (nI kk), .int (nI nn)] (PZ PU ak adK adV)) (QrV) 0 0 (fun _ => False) := by
  refine Met.ofW (cc := cJ0_checkIndex_df160) (maxL := 2) (ret := none) (by decide) rfl ?_
  intro p e s m args below meth c s₁ B hml hv
  obtain ⟨rfl, hv, hZ⟩ := hv
  have hS : va_S (fun _ => False) s.heap s.heap [] := va_S.rf
  have hx := B.exec
  have hb := B.bytes
  have hr := B.returns
  have hts := atoms_spec (ws := .code yJ0_checkIndex_df160 cJ0_checkIndex_df160 2 none :: wsL_law) B.pre
  have hU : ∀ w ∈ wsL_law, w.before _ s = true := fun w h => hts w (List.mem_cons_of_mem _ h)
  have hown : s.vm.findClass RJ0 = some m.cls := findClass_of_methodNamed B.named
  have hlocks := B.notSynchronized
  generalize hQ : MQ _ _ _ _ _ _ _ = Q
  have hl := lv_entry ([.int (nI kk), .int (nI nn)]) (n := 2) (Nat.le_of_ble_eq_true rfl)
  rw [lg_entry_eq]
  generalize (lg_sl ([.int (nI kk), .int (nI nn)]) ++ List.replicate (2 - (lg_sl ([.int (nI kk), .int (nI nn)])).length) Slot.unset).toArray = ls at hl ⊢
  have hl : lv_has ls 2 [(0, .int (nI kk)), (1, .int (nI nn))] := hl
  refine lv_iload_n hx hb dJ0_checkIndex_df160_0 rfl (lv_at hl 0 rfl) ?_
  refine lv_iload_n hx hb dJ0_checkIndex_df160_1 rfl (lv_at hl 1 rfl) ?_
  rcases hZ.2.2.2.2.2 with hz9 | ⟨zt, hz9⟩
  · refine va_gets hx hb hz9 hS hown (hU _ mU_191) (fun _ h9 => h9) dJ0_checkIndex_df160_2 ?_
    refine cSi (As := [.int (nI kk), .int (nI nn), .null]) (rest := []) ⟨hx, hb, hml, hown, hts⟩ (c_J3_checkIndex0 l  kk nn (by omega) (by omega)) (va_cwS 3 hts (gS mU_192 mU_193 mU_194 mU_195) rfl rfl rfl (by decide +kernel) ⟨Nat.le_of_ble_eq_true rfl, Nat.le_of_ble_eq_true rfl⟩) fbU (fun _ _ _ => trivial) rfl hl.1 rfl (Nat.le_of_ble_eq_true rfl) dJ0_checkIndex_df160_5 ⟨Nat.zero_le _, Nat.zero_le _⟩ ?_
    refine lv_pop hx hb dJ0_checkIndex_df160_8 rfl ?_
    subst hQ
    exact rtv hx hb hr hlocks rfl dJ0_checkIndex_df160_9
  · refine va_gets hx hb hz9 hS hown (hU _ mU_191) (fun _ h9 => h9) dJ0_checkIndex_df160_2 ?_
    refine cSi (As := [.int (nI kk), .int (nI nn), .ref zt]) (rest := []) ⟨hx, hb, hml, hown, hts⟩ (c_J3_checkIndexR l  kk nn zt (by omega) (by omega)) (va_cwS 3 hts (gS mU_192 mU_193 mU_194 mU_195) rfl rfl rfl (by decide +kernel) ⟨Nat.le_of_ble_eq_true rfl, Nat.le_of_ble_eq_true rfl⟩) fbU (fun _ _ _ => trivial) rfl hl.1 rfl (Nat.le_of_ble_eq_true rfl) dJ0_checkIndex_df160_5 ⟨Nat.zero_le _, Nat.zero_le _⟩ ?_
    refine lv_pop hx hb dJ0_checkIndex_df160_8 rfl ?_
    subst hQ
    exact rtv hx hb hr hlocks rfl dJ0_checkIndex_df160_9

set_option maxHeartbeats 4000000 in
set_option maxRecDepth 100000 in
theorem c_J1_charAt_3b067 (l : Launch) (ak : Nat) (adK adV : Nat → Nat) (si : Nat) (kk : Nat) (hsi : si < 9) (hk : kk < lnT si) : Met l yJ1_charAt_3b067 (.code yJ1_charAt_3b067 cJ1_charAt_3b067 2 (some .char) :: wsL_law) ({ frames := 2, cells := 0, slots := 0, locals := 43 }) (va_Pc [.ref (adV si), .int (nI kk)] (PZ PU ak adK adV)) (QrI (nI (chT si kk))) 0 0 (fun _ => False) := by
  refine Met.ofW (cc := cJ1_charAt_3b067) (maxL := 2) (ret := (some .char)) (by decide) rfl ?_
  intro p e s m args below meth c s₁ B hml hv
  obtain ⟨rfl, hv, hZ⟩ := hv
  have hS : va_S (fun _ => False) s.heap s.heap [] := va_S.rf
  have hx := B.exec
  have hb := B.bytes
  have hr := B.returns
  have hts := atoms_spec (ws := .code yJ1_charAt_3b067 cJ1_charAt_3b067 2 (some .char) :: wsL_law) B.pre
  have hU : ∀ w ∈ wsL_law, w.before _ s = true := fun w h => hts w (List.mem_cons_of_mem _ h)
  have hown : s.vm.findClass RJ1 = some m.cls := findClass_of_methodNamed B.named
  have hlocks := B.notSynchronized
  generalize hQ : MQ _ _ _ _ _ _ _ = Q
  have hl := lv_entry ([.ref (adV si), .int (nI kk)]) (n := 2) (Nat.le_of_ble_eq_true rfl)
  rw [lg_entry_eq]
  generalize (lg_sl ([.ref (adV si), .int (nI kk)]) ++ List.replicate (2 - (lg_sl ([.ref (adV si), .int (nI kk)])).length) Slot.unset).toArray = ls at hl ⊢
  have hl : lv_has ls 2 [(0, .ref (adV si)), (1, .int (nI kk))] := hl
  refine lv_iload_n hx hb dJ1_charAt_3b067_0 rfl (lv_at hl 1 rfl) ?_
  refine lv_aload_n hx hb dJ1_charAt_3b067_1 rfl (lv_at hl 0 rfl) ?_
  refine va_tlen (v := nI (lnT si)) hx hb (hZ.2.2.1.1 si (by omega)).2.2.2 hS (len_ln si (by omega)) dJ1_charAt_3b067_2 ?_
  refine cSv (As := [.int (nI kk), .int (nI (lnT si))]) (rest := []) ⟨hx, hb, hml, hown, hts⟩ (c_J0_checkIndex_df160 l ak adK adV kk (lnT si) (by omega) (by have := ln_le si; omega)) (va_cwS 2 hts (gS mU_188 mU_189 mU_167 mU_190) rfl rfl rfl (by decide +kernel) ⟨Nat.le_of_ble_eq_true rfl, Nat.le_of_ble_eq_true rfl⟩) fbZU (zB (fun _ _ _ => trivial) hZ hS) rfl hl.1 rfl (Nat.le_of_ble_eq_true rfl) dJ1_charAt_3b067_3 ⟨Nat.zero_le _, Nat.zero_le _⟩ ?_
  refine lv_aload_n hx hb dJ1_charAt_3b067_6 rfl (lv_at hl 0 rfl) ?_
  refine lv_iload_n hx hb dJ1_charAt_3b067_7 rfl (lv_at hl 1 rfl) ?_
  refine va_tb (v := .int (nI (chT si kk))) hx hb (hZ.2.2.1.1 si (by omega)).2.2.2 hS (vp_in_nI (by rw [len_get si (by omega)]; omega) (by rw [len_get si (by omega)]; have := ln_le si; omega)) (byt_at (by omega) (by have := ln_le si; omega)) dJ1_charAt_3b067_8 ?_
  refine lv_sipush (v := nI 255) hx hb dJ1_charAt_3b067_9 (by decide) ?_
  refine lv_iand hx hb dJ1_charAt_3b067_12 ?_
  refine lv_topE (nI (chT si kk)) (ch_and (by omega) (by have := ln_le si; omega)) ?_
  refine lv_i2c hx hb dJ1_charAt_3b067_13 rfl ?_
  refine lv_topE (nI (chT si kk)) (ch_c2 (by omega) (by have := ln_le si; omega)) ?_
  subst hQ
  exact rtz hx hb hr hlocks rfl (ch_nar (by omega) (by have := ln_le si; omega)) (rfl) dJ1_charAt_3b067_14

set_option maxHeartbeats 4000000 in
set_option maxRecDepth 100000 in
theorem c_J0_charAt_5068e (l : Launch) (ak : Nat) (adK adV : Nat → Nat) (si : Nat) (kk : Nat) (hsi : si < 9) (hk : kk < lnT si) : Met l yJ0_charAt_5068e (.code yJ0_charAt_5068e cJ0_charAt_5068e 2 (some .char) :: wsL_law) ({ frames := 3, cells := 0, slots := 0, locals := 64 }) (va_Pc [.ref (adK si), .int (nI kk)] (PZ PU ak adK adV)) (QrI (nI (chT si kk))) 0 0 (fun _ => False) := by
  refine Met.ofW (cc := cJ0_charAt_5068e) (maxL := 2) (ret := (some .char)) (by decide) rfl ?_
  intro p e s m args below meth c s₁ B hml hv
  obtain ⟨rfl, hv, hZ⟩ := hv
  have hS : va_S (fun _ => False) s.heap s.heap [] := va_S.rf
  have hx := B.exec
  have hb := B.bytes
  have hr := B.returns
  have hts := atoms_spec (ws := .code yJ0_charAt_5068e cJ0_charAt_5068e 2 (some .char) :: wsL_law) B.pre
  have hU : ∀ w ∈ wsL_law, w.before _ s = true := fun w h => hts w (List.mem_cons_of_mem _ h)
  have hown : s.vm.findClass RJ0 = some m.cls := findClass_of_methodNamed B.named
  have hlocks := B.notSynchronized
  generalize hQ : MQ _ _ _ _ _ _ _ = Q
  have hl := lv_entry ([.ref (adK si), .int (nI kk)]) (n := 2) (Nat.le_of_ble_eq_true rfl)
  rw [lg_entry_eq]
  generalize (lg_sl ([.ref (adK si), .int (nI kk)]) ++ List.replicate (2 - (lg_sl ([.ref (adK si), .int (nI kk)])).length) Slot.unset).toArray = ls at hl ⊢
  have hl : lv_has ls 2 [(0, .ref (adK si)), (1, .int (nI kk))] := hl
  refine lv_aload_n hx hb dJ0_charAt_5068e_0 rfl (lv_at hl 0 rfl) ?_
  refine cVi (As := []) (rest := []) ⟨hx, hb, hml, hown, hts⟩ (c_J0_isLatin1_aae02 l ak adK adV si  (by omega)) (cwV 0 hts (gV mU_180 mU_181 mU_182 mU_167 mU_183) rfl rfl rfl (by decide +kernel) ⟨Nat.le_of_ble_eq_true rfl, Nat.le_of_ble_eq_true rfl⟩) fbZU (vk_recv hZ.2.2.1 (by omega) hS) (zB (fun _ _ _ => trivial) hZ hS) rfl hl.1 rfl (Nat.le_of_ble_eq_true rfl) dJ0_charAt_5068e_1 ⟨Nat.zero_le _, Nat.zero_le _⟩ ?_
  refine lv_if_eq (tgt := 16) hx hb dJ0_charAt_5068e_4 (by decide) (fun c4_1 => by first | exact absurd c4_1 (by decide) | exact absurd (by decide) c4_1) (fun c4_1 => ?_)
  refine lv_aload_n hx hb dJ0_charAt_5068e_7 rfl (lv_at hl 0 rfl) ?_
  refine vk_getf hx hb (hZ.2.2.1.1 si (by omega)).2.2.1 hS hown (hU _ mU_169) (fun _ h9 => h9) dJ0_charAt_5068e_8 ?_
  refine lv_iload_n hx hb dJ0_charAt_5068e_11 rfl (lv_at hl 1 rfl) ?_
  refine cSi (As := [.ref (adV si), .int (nI kk)]) (rest := []) ⟨hx, hb, hml, hown, hts⟩ (c_J1_charAt_3b067 l ak adK adV si kk (by omega) (hk)) (va_cwS 2 hts (gS mU_184 mU_185 mU_186 mU_187) rfl rfl rfl (by decide +kernel) ⟨Nat.le_of_ble_eq_true rfl, Nat.le_of_ble_eq_true rfl⟩) fbZU (zB (fun _ _ _ => trivial) hZ hS) rfl hl.1 rfl (Nat.le_of_ble_eq_true rfl) dJ0_charAt_5068e_12 ⟨Nat.zero_le _, Nat.zero_le _⟩ ?_
  subst hQ
  exact rtz hx hb hr hlocks rfl (ch_nar (by omega) (by have := ln_le si; omega)) (rfl) dJ0_charAt_5068e_15

set_option maxHeartbeats 4000000 in
set_option maxRecDepth 100000 in
theorem c_X1_kindOf (l : Launch) (ak : Nat) (adK adV : Nat → Nat) (so : Nat) (w : Nat) (hs9 : so < 4294967296) (hw9 : w < 4294967296) : Met l yX1_kindOf (.code yX1_kindOf cX1_kindOf 2 (some .int) :: wsL_law) ({ frames := 0, cells := 0, slots := 0, locals := 0 }) (va_Pc [.int (nI so), .int (nI w)] (PZ PU ak adK adV)) (QrI (nI (kindC so w))) 0 0 (fun _ => False) := by
  refine Met.ofW (cc := cX1_kindOf) (maxL := 2) (ret := (some .int)) (by decide) rfl ?_
  intro p e s m args below meth c s₁ B hml hv
  obtain ⟨rfl, hv, hZ⟩ := hv
  have hS : va_S (fun _ => False) s.heap s.heap [] := va_S.rf
  have hx := B.exec
  have hb := B.bytes
  have hr := B.returns
  have hts := atoms_spec (ws := .code yX1_kindOf cX1_kindOf 2 (some .int) :: wsL_law) B.pre
  have hU : ∀ w ∈ wsL_law, w.before _ s = true := fun w h => hts w (List.mem_cons_of_mem _ h)
  have hown : s.vm.findClass RX1 = some m.cls := findClass_of_methodNamed B.named
  have hlocks := B.notSynchronized
  generalize hQ : MQ _ _ _ _ _ _ _ = Q
  have hl := lv_entry ([.int (nI so), .int (nI w)]) (n := 2) (Nat.le_of_ble_eq_true rfl)
  rw [lg_entry_eq]
  generalize (lg_sl ([.int (nI so), .int (nI w)]) ++ List.replicate (2 - (lg_sl ([.int (nI so), .int (nI w)])).length) Slot.unset).toArray = ls at hl ⊢
  have hl : lv_has ls 2 [(0, .int (nI so)), (1, .int (nI w))] := hl
  refine lv_iload_n hx hb dX1_kindOf_0 rfl (lv_at hl 0 rfl) ?_
  refine lv_if_lt (tgt := 19) hx hb dX1_kindOf_1 (by decide) (fun c1_1 => ?_) (fun c1_1 => ?_)
  · have c1_1 : (so < 0 ∧ (2147483648 ≤ so ∨ 0 < 2147483648)) ∨ (2147483648 ≤ so ∧ 0 < 2147483648) := (nI_ltG (a := so) (b := 0) (by omega) (by omega)).mp c1_1
    refine lv_iconst (v := nI 0) hx hb dX1_kindOf_19 (by decide) ?_
    subst hQ
    exact rti hx hb hr hlocks rfl (congrArg nI (by first | (exfalso; omega) | (unfold kindC; rw [if_neg (fun q => by omega)]))) dX1_kindOf_20
  · have c1_1 : ¬ ((so < 0 ∧ (2147483648 ≤ so ∨ 0 < 2147483648)) ∨ (2147483648 ≤ so ∧ 0 < 2147483648)) := fun h9 => c1_1 ((nI_ltG (a := so) (b := 0) (by omega) (by omega)).mpr h9)
    refine lv_iload_n hx hb dX1_kindOf_4 rfl (lv_at hl 0 rfl) ?_
    refine lv_bipush (v := nI 9) hx hb dX1_kindOf_5 (by decide) ?_
    refine lv_icmp_ge (tgt := 19) hx hb dX1_kindOf_7 (by decide) (fun c7_2 => ?_) (fun c7_2 => ?_)
    · have c7_2 : (9 ≤ so ∧ (2147483648 ≤ 9 ∨ so < 2147483648)) ∨ (2147483648 ≤ 9 ∧ so < 2147483648) := (nI_leG (a := 9) (b := so) (by omega) (by omega)).mp c7_2
      refine lv_iconst (v := nI 0) hx hb dX1_kindOf_19 (by decide) ?_
      subst hQ
      exact rti hx hb hr hlocks rfl (congrArg nI (by first | (exfalso; omega) | (unfold kindC; rw [if_neg (fun q => by omega)]))) dX1_kindOf_20
    · have c7_2 : ¬ ((9 ≤ so ∧ (2147483648 ≤ 9 ∨ so < 2147483648)) ∨ (2147483648 ≤ 9 ∧ so < 2147483648)) := fun h9 => c7_2 ((nI_leG (a := 9) (b := so) (by omega) (by omega)).mpr h9)
      refine lv_iload_n hx hb dX1_kindOf_10 rfl (lv_at hl 1 rfl) ?_
      refine lv_if_lt (tgt := 19) hx hb dX1_kindOf_11 (by decide) (fun c11_3 => ?_) (fun c11_3 => ?_)
      · have c11_3 : (w < 0 ∧ (2147483648 ≤ w ∨ 0 < 2147483648)) ∨ (2147483648 ≤ w ∧ 0 < 2147483648) := (nI_ltG (a := w) (b := 0) (by omega) (by omega)).mp c11_3
        refine lv_iconst (v := nI 0) hx hb dX1_kindOf_19 (by decide) ?_
        subst hQ
        exact rti hx hb hr hlocks rfl (congrArg nI (by first | (exfalso; omega) | (unfold kindC; rw [if_neg (fun q => by omega)]))) dX1_kindOf_20
      · have c11_3 : ¬ ((w < 0 ∧ (2147483648 ≤ w ∨ 0 < 2147483648)) ∨ (2147483648 ≤ w ∧ 0 < 2147483648)) := fun h9 => c11_3 ((nI_ltG (a := w) (b := 0) (by omega) (by omega)).mpr h9)
        refine lv_iload_n hx hb dX1_kindOf_14 rfl (lv_at hl 1 rfl) ?_
        refine lv_iconst (v := nI 4) hx hb dX1_kindOf_15 (by decide) ?_
        refine lv_icmp_lt (tgt := 21) hx hb dX1_kindOf_16 (by decide) (fun c16_4 => ?_) (fun c16_4 => ?_)
        · have c16_4 : (w < 4 ∧ (2147483648 ≤ w ∨ 4 < 2147483648)) ∨ (2147483648 ≤ w ∧ 4 < 2147483648) := (nI_ltG (a := w) (b := 4) (by omega) (by omega)).mp c16_4
          refine va_gets hx hb hZ.1 hS hown (hU _ mU_224) (fun _ h9 => h9) dX1_kindOf_21 ?_
          refine lv_iload_n hx hb dX1_kindOf_24 rfl (lv_at hl 0 rfl) ?_
          refine lv_iconst (v := nI 4) hx hb dX1_kindOf_25 (by decide) ?_
          refine lv_imul hx hb dX1_kindOf_26 ?_
          refine lv_topE (nI (so * 4)) (pk_mul _ _) ?_
          refine lv_iload_n hx hb dX1_kindOf_27 rfl (lv_at hl 1 rfl) ?_
          refine lv_iadd hx hb dX1_kindOf_28 ?_
          refine lv_topE (nI ((so * 4) + w)) (nI_add _ _) ?_
          refine va_ti (v := .int (nI (kindT ((so * 4) + w)))) hx hb hZ.2.1 hS (vp_in_nI (n := (so * 4) + w) (by omega) (by decide)) (by rw [nI_clamp (by omega)]) dX1_kindOf_29 ?_
          subst hQ
          exact rti hx hb hr hlocks rfl (congrArg nI (by first | (exfalso; omega) | (unfold kindC; rw [if_pos ⟨by omega, by omega⟩]))) dX1_kindOf_30
        · have c16_4 : ¬ ((w < 4 ∧ (2147483648 ≤ w ∨ 4 < 2147483648)) ∨ (2147483648 ≤ w ∧ 4 < 2147483648)) := fun h9 => c16_4 ((nI_ltG (a := w) (b := 4) (by omega) (by omega)).mpr h9)
          refine lv_iconst (v := nI 0) hx hb dX1_kindOf_19 (by decide) ?_
          subst hQ
          exact rti hx hb hr hlocks rfl (congrArg nI (by first | (exfalso; omega) | (unfold kindC; rw [if_neg (fun q => by omega)]))) dX1_kindOf_20

set_option maxHeartbeats 4000000 in
set_option maxRecDepth 100000 in
theorem c_X1_numbersOf (l : Launch) (ak : Nat) (adK adV : Nat → Nat) (so : Nat) (hs9 : so < 4294967296) : Met l yX1_numbersOf (.code yX1_numbersOf cX1_numbersOf 2 (some .int) :: wsL_law) ({ frames := 1, cells := 0, slots := 0, locals := 21 }) (va_Pc [.int (nI so)] (PZ PU ak adK adV)) (QrI (nI (numC so))) 0 0 (fun _ => False) := by
  refine Met.ofW (cc := cX1_numbersOf) (maxL := 2) (ret := (some .int)) (by decide) rfl ?_
  intro p e s m args below meth c s₁ B hml hv
  obtain ⟨rfl, hv, hZ⟩ := hv
  have hS : va_S (fun _ => False) s.heap s.heap [] := va_S.rf
  have hx := B.exec
  have hb := B.bytes
  have hr := B.returns
  have hts := atoms_spec (ws := .code yX1_numbersOf cX1_numbersOf 2 (some .int) :: wsL_law) B.pre
  have hU : ∀ w ∈ wsL_law, w.before _ s = true := fun w h => hts w (List.mem_cons_of_mem _ h)
  have hown : s.vm.findClass RX1 = some m.cls := findClass_of_methodNamed B.named
  have hlocks := B.notSynchronized
  generalize hQ : MQ _ _ _ _ _ _ _ = Q
  have hl := lv_entry ([.int (nI so)]) (n := 2) (Nat.le_of_ble_eq_true rfl)
  rw [lg_entry_eq]
  generalize (lg_sl ([.int (nI so)]) ++ List.replicate (2 - (lg_sl ([.int (nI so)])).length) Slot.unset).toArray = ls at hl ⊢
  have hl : lv_has ls 2 [(0, .int (nI so))] := hl
  refine lv_iconst (v := nI 0) hx hb dX1_numbersOf_0 (by decide) ?_
  refine lv_istore_n (lv' := [(1, .int (nI 0)), (0, .int (nI so))]) hx hb dX1_numbersOf_1 rfl hl (by decide) rfl (fun ls hl => ?_)
  refine lv_iload_n hx hb dX1_numbersOf_2 rfl (lv_at hl 0 rfl) ?_
  refine lv_iconst (v := nI 4) hx hb dX1_numbersOf_3 (by decide) ?_
  refine lv_icmp_ge (tgt := 21) hx hb dX1_numbersOf_4 (by decide) (fun c4_1 => by first | exact absurd c4_1 (by decide) | exact absurd (by decide) c4_1) (fun c4_1 => ?_)
  refine lv_iload_n hx hb dX1_numbersOf_7 rfl (lv_at hl 1 rfl) ?_
  refine lv_iload_n hx hb dX1_numbersOf_8 rfl (lv_at hl 0 rfl) ?_
  refine cSi (As := [.int (nI so), .int (nI 0)]) (rest := []) ⟨hx, hb, hml, hown, hts⟩ (c_X1_kindOf l ak adK adV so 0 (by omega) (by omega)) (va_cwS 2 hts (gS mU_242 mU_222 mU_22 mU_223) rfl rfl rfl (by decide +kernel) ⟨Nat.le_of_ble_eq_true rfl, Nat.le_of_ble_eq_true rfl⟩) fbZU (zB (fun _ _ _ => trivial) hZ hS) rfl hl.1 rfl (Nat.le_of_ble_eq_true rfl) dX1_numbersOf_9 ⟨Nat.zero_le _, Nat.zero_le _⟩ ?_
  have hf_2 : kindC so 0 < 6 := kindC_lt _ _
  refine lv_if_eq (tgt := 21) hx hb dX1_numbersOf_12 (by decide) (fun c12_3 => ?_) (fun c12_3 => ?_)
  · have c12_3 : kindC so 0 = 0 := (nI_eqG (a := kindC so 0) (b := 0) (by omega) (by omega)).mp c12_3
    refine lv_iload_n hx hb dX1_numbersOf_21 rfl (lv_at hl 0 rfl) ?_
    subst hQ
    exact rti hx hb hr hlocks rfl (congrArg nI (by unfold numC; (repeat (first | rw [if_pos (by omega)] | rw [if_neg (by omega)])))) dX1_numbersOf_22
  · have c12_3 : ¬ (kindC so 0 = 0) := fun h9 => c12_3 ((nI_eqG (a := kindC so 0) (b := 0) (by omega) (by omega)).mpr h9)
    refine lv_iinc (v := nI 1) (lv' := [(1, .int (nI 1)), (0, .int (nI so))]) hx hb dX1_numbersOf_15 hl (k := 0) rfl (by decide) (by decide) rfl (fun ls hl => ?_)
    refine lv_goto (tgt := 2) hx hb dX1_numbersOf_18 (by decide) ?_
    refine lv_iload_n hx hb dX1_numbersOf_2 rfl (lv_at hl 0 rfl) ?_
    refine lv_iconst (v := nI 4) hx hb dX1_numbersOf_3 (by decide) ?_
    refine lv_icmp_ge (tgt := 21) hx hb dX1_numbersOf_4 (by decide) (fun c4_4 => by first | exact absurd c4_4 (by decide) | exact absurd (by decide) c4_4) (fun c4_4 => ?_)
    refine lv_iload_n hx hb dX1_numbersOf_7 rfl (lv_at hl 1 rfl) ?_
    refine lv_iload_n hx hb dX1_numbersOf_8 rfl (lv_at hl 0 rfl) ?_
    refine cSi (As := [.int (nI so), .int (nI 1)]) (rest := []) ⟨hx, hb, hml, hown, hts⟩ (c_X1_kindOf l ak adK adV so 1 (by omega) (by omega)) (va_cwS 2 hts (gS mU_242 mU_222 mU_22 mU_223) rfl rfl rfl (by decide +kernel) ⟨Nat.le_of_ble_eq_true rfl, Nat.le_of_ble_eq_true rfl⟩) fbZU (zB (fun _ _ _ => trivial) hZ hS) rfl hl.1 rfl (Nat.le_of_ble_eq_true rfl) dX1_numbersOf_9 ⟨Nat.zero_le _, Nat.zero_le _⟩ ?_
    have hf_5 : kindC so 1 < 6 := kindC_lt _ _
    refine lv_if_eq (tgt := 21) hx hb dX1_numbersOf_12 (by decide) (fun c12_6 => ?_) (fun c12_6 => ?_)
    · have c12_6 : kindC so 1 = 0 := (nI_eqG (a := kindC so 1) (b := 0) (by omega) (by omega)).mp c12_6
      refine lv_iload_n hx hb dX1_numbersOf_21 rfl (lv_at hl 0 rfl) ?_
      subst hQ
      exact rti hx hb hr hlocks rfl (congrArg nI (by unfold numC; (repeat (first | rw [if_pos (by omega)] | rw [if_neg (by omega)])))) dX1_numbersOf_22
    · have c12_6 : ¬ (kindC so 1 = 0) := fun h9 => c12_6 ((nI_eqG (a := kindC so 1) (b := 0) (by omega) (by omega)).mpr h9)
      refine lv_iinc (v := nI 2) (lv' := [(1, .int (nI 2)), (0, .int (nI so))]) hx hb dX1_numbersOf_15 hl (k := 0) rfl (by decide) (by decide) rfl (fun ls hl => ?_)
      refine lv_goto (tgt := 2) hx hb dX1_numbersOf_18 (by decide) ?_
      refine lv_iload_n hx hb dX1_numbersOf_2 rfl (lv_at hl 0 rfl) ?_
      refine lv_iconst (v := nI 4) hx hb dX1_numbersOf_3 (by decide) ?_
      refine lv_icmp_ge (tgt := 21) hx hb dX1_numbersOf_4 (by decide) (fun c4_7 => by first | exact absurd c4_7 (by decide) | exact absurd (by decide) c4_7) (fun c4_7 => ?_)
      refine lv_iload_n hx hb dX1_numbersOf_7 rfl (lv_at hl 1 rfl) ?_
      refine lv_iload_n hx hb dX1_numbersOf_8 rfl (lv_at hl 0 rfl) ?_
      refine cSi (As := [.int (nI so), .int (nI 2)]) (rest := []) ⟨hx, hb, hml, hown, hts⟩ (c_X1_kindOf l ak adK adV so 2 (by omega) (by omega)) (va_cwS 2 hts (gS mU_242 mU_222 mU_22 mU_223) rfl rfl rfl (by decide +kernel) ⟨Nat.le_of_ble_eq_true rfl, Nat.le_of_ble_eq_true rfl⟩) fbZU (zB (fun _ _ _ => trivial) hZ hS) rfl hl.1 rfl (Nat.le_of_ble_eq_true rfl) dX1_numbersOf_9 ⟨Nat.zero_le _, Nat.zero_le _⟩ ?_
      have hf_8 : kindC so 2 < 6 := kindC_lt _ _
      refine lv_if_eq (tgt := 21) hx hb dX1_numbersOf_12 (by decide) (fun c12_9 => ?_) (fun c12_9 => ?_)
      · have c12_9 : kindC so 2 = 0 := (nI_eqG (a := kindC so 2) (b := 0) (by omega) (by omega)).mp c12_9
        refine lv_iload_n hx hb dX1_numbersOf_21 rfl (lv_at hl 0 rfl) ?_
        subst hQ
        exact rti hx hb hr hlocks rfl (congrArg nI (by unfold numC; (repeat (first | rw [if_pos (by omega)] | rw [if_neg (by omega)])))) dX1_numbersOf_22
      · have c12_9 : ¬ (kindC so 2 = 0) := fun h9 => c12_9 ((nI_eqG (a := kindC so 2) (b := 0) (by omega) (by omega)).mpr h9)
        refine lv_iinc (v := nI 3) (lv' := [(1, .int (nI 3)), (0, .int (nI so))]) hx hb dX1_numbersOf_15 hl (k := 0) rfl (by decide) (by decide) rfl (fun ls hl => ?_)
        refine lv_goto (tgt := 2) hx hb dX1_numbersOf_18 (by decide) ?_
        refine lv_iload_n hx hb dX1_numbersOf_2 rfl (lv_at hl 0 rfl) ?_
        refine lv_iconst (v := nI 4) hx hb dX1_numbersOf_3 (by decide) ?_
        refine lv_icmp_ge (tgt := 21) hx hb dX1_numbersOf_4 (by decide) (fun c4_10 => by first | exact absurd c4_10 (by decide) | exact absurd (by decide) c4_10) (fun c4_10 => ?_)
        refine lv_iload_n hx hb dX1_numbersOf_7 rfl (lv_at hl 1 rfl) ?_
        refine lv_iload_n hx hb dX1_numbersOf_8 rfl (lv_at hl 0 rfl) ?_
        refine cSi (As := [.int (nI so), .int (nI 3)]) (rest := []) ⟨hx, hb, hml, hown, hts⟩ (c_X1_kindOf l ak adK adV so 3 (by omega) (by omega)) (va_cwS 2 hts (gS mU_242 mU_222 mU_22 mU_223) rfl rfl rfl (by decide +kernel) ⟨Nat.le_of_ble_eq_true rfl, Nat.le_of_ble_eq_true rfl⟩) fbZU (zB (fun _ _ _ => trivial) hZ hS) rfl hl.1 rfl (Nat.le_of_ble_eq_true rfl) dX1_numbersOf_9 ⟨Nat.zero_le _, Nat.zero_le _⟩ ?_
        have hf_11 : kindC so 3 < 6 := kindC_lt _ _
        refine lv_if_eq (tgt := 21) hx hb dX1_numbersOf_12 (by decide) (fun c12_12 => ?_) (fun c12_12 => ?_)
        · have c12_12 : kindC so 3 = 0 := (nI_eqG (a := kindC so 3) (b := 0) (by omega) (by omega)).mp c12_12
          refine lv_iload_n hx hb dX1_numbersOf_21 rfl (lv_at hl 0 rfl) ?_
          subst hQ
          exact rti hx hb hr hlocks rfl (congrArg nI (by unfold numC; (repeat (first | rw [if_pos (by omega)] | rw [if_neg (by omega)])))) dX1_numbersOf_22
        · have c12_12 : ¬ (kindC so 3 = 0) := fun h9 => c12_12 ((nI_eqG (a := kindC so 3) (b := 0) (by omega) (by omega)).mpr h9)
          refine lv_iinc (v := nI 4) (lv' := [(1, .int (nI 4)), (0, .int (nI so))]) hx hb dX1_numbersOf_15 hl (k := 0) rfl (by decide) (by decide) rfl (fun ls hl => ?_)
          refine lv_goto (tgt := 2) hx hb dX1_numbersOf_18 (by decide) ?_
          refine lv_iload_n hx hb dX1_numbersOf_2 rfl (lv_at hl 0 rfl) ?_
          refine lv_iconst (v := nI 4) hx hb dX1_numbersOf_3 (by decide) ?_
          refine lv_icmp_ge (tgt := 21) hx hb dX1_numbersOf_4 (by decide) (fun c4_13 => ?_) (fun c4_13 => by first | exact absurd (by decide) c4_13 | exact absurd c4_13 (by decide))
          refine lv_iload_n hx hb dX1_numbersOf_21 rfl (lv_at hl 0 rfl) ?_
          subst hQ
          exact rti hx hb hr hlocks rfl (congrArg nI (by unfold numC; (repeat (first | rw [if_pos (by omega)] | rw [if_neg (by omega)])))) dX1_numbersOf_22

set_option maxHeartbeats 4000000 in
set_option maxRecDepth 100000 in
theorem c_X1_nameOf (l : Launch) (ak : Nat) (adK adV : Nat → Nat) (so : Nat) (hso : so < 9) : Met l yX1_nameOf (.code yX1_nameOf cX1_nameOf 1 (some (.object "java/lang/String")) :: wsL_law) ({ frames := 0, cells := 0, slots := 0, locals := 0 }) (va_Pc [.int (nI so)] (PZ PU ak adK adV)) (QrR (adK so)) 0 0 (fun _ => False) := by
  refine Met.ofW (cc := cX1_nameOf) (maxL := 1) (ret := (some (.object "java/lang/String"))) (by decide) rfl ?_
  intro p e s m args below meth c s₁ B hml hv
  obtain ⟨rfl, hv, hZ⟩ := hv
  have hS : va_S (fun _ => False) s.heap s.heap [] := va_S.rf
  have hx := B.exec
  have hb := B.bytes
  have hr := B.returns
  have hts := atoms_spec (ws := .code yX1_nameOf cX1_nameOf 1 (some (.object "java/lang/String")) :: wsL_law) B.pre
  have hU : ∀ w ∈ wsL_law, w.before _ s = true := fun w h => hts w (List.mem_cons_of_mem _ h)
  have hown : s.vm.findClass RX1 = some m.cls := findClass_of_methodNamed B.named
  have hlocks := B.notSynchronized
  generalize hQ : MQ _ _ _ _ _ _ _ = Q
  have hl := lv_entry ([.int (nI so)]) (n := 1) (Nat.le_of_ble_eq_true rfl)
  rw [lg_entry_eq]
  generalize (lg_sl ([.int (nI so)]) ++ List.replicate (1 - (lg_sl ([.int (nI so)])).length) Slot.unset).toArray = ls at hl ⊢
  have hl : lv_has ls 1 [(0, .int (nI so))] := hl
  refine lv_iload_n hx hb dX1_nameOf_0 rfl (lv_at hl 0 rfl) ?_
  rcases (show so = 0 ∨ so = 1 ∨ so = 2 ∨ so = 3 ∨ so = 4 ∨ so = 5 ∨ so = 6 ∨ so = 7 ∨ (so < 0 ∨ 7 < so) by omega) with c1_1 | c1_1 | c1_1 | c1_1 | c1_1 | c1_1 | c1_1 | c1_1 | c1_1
  · have hx9 : (nI so).toInt = 0 := by rw [nI_toInt (show so < 2 ^ 31 by omega)]; omega
    refine lv_tableIn (tgt := 48) (off := 47) hx hb dX1_nameOf_1 (by rw [hx9]; decide) (by rw [hx9]; decide) (by rw [hx9]; rfl) (by decide) ?_
    refine va_ldcS hx hb hown (hZ.2.2.2.1 0 (by decide)) dX1_nameOf_48 ?_
    subst hQ
    exact rta hx hb hr (Or.inl ⟨_, rfl⟩) hlocks rfl (congrArg adK (show 0 = so by omega)) dX1_nameOf_50
  · have hx9 : (nI so).toInt = 1 := by rw [nI_toInt (show so < 2 ^ 31 by omega)]; omega
    refine lv_tableIn (tgt := 51) (off := 50) hx hb dX1_nameOf_1 (by rw [hx9]; decide) (by rw [hx9]; decide) (by rw [hx9]; rfl) (by decide) ?_
    refine va_ldcS hx hb hown (hZ.2.2.2.1 1 (by decide)) dX1_nameOf_51 ?_
    subst hQ
    exact rta hx hb hr (Or.inl ⟨_, rfl⟩) hlocks rfl (congrArg adK (show 1 = so by omega)) dX1_nameOf_53
  · have hx9 : (nI so).toInt = 2 := by rw [nI_toInt (show so < 2 ^ 31 by omega)]; omega
    refine lv_tableIn (tgt := 54) (off := 53) hx hb dX1_nameOf_1 (by rw [hx9]; decide) (by rw [hx9]; decide) (by rw [hx9]; rfl) (by decide) ?_
    refine va_ldcS hx hb hown (hZ.2.2.2.1 2 (by decide)) dX1_nameOf_54 ?_
    subst hQ
    exact rta hx hb hr (Or.inl ⟨_, rfl⟩) hlocks rfl (congrArg adK (show 2 = so by omega)) dX1_nameOf_56
  · have hx9 : (nI so).toInt = 3 := by rw [nI_toInt (show so < 2 ^ 31 by omega)]; omega
    refine lv_tableIn (tgt := 57) (off := 56) hx hb dX1_nameOf_1 (by rw [hx9]; decide) (by rw [hx9]; decide) (by rw [hx9]; rfl) (by decide) ?_
    refine va_ldcS hx hb hown (hZ.2.2.2.1 3 (by decide)) dX1_nameOf_57 ?_
    subst hQ
    exact rta hx hb hr (Or.inl ⟨_, rfl⟩) hlocks rfl (congrArg adK (show 3 = so by omega)) dX1_nameOf_59
  · have hx9 : (nI so).toInt = 4 := by rw [nI_toInt (show so < 2 ^ 31 by omega)]; omega
    refine lv_tableIn (tgt := 60) (off := 59) hx hb dX1_nameOf_1 (by rw [hx9]; decide) (by rw [hx9]; decide) (by rw [hx9]; rfl) (by decide) ?_
    refine va_ldcS hx hb hown (hZ.2.2.2.1 4 (by decide)) dX1_nameOf_60 ?_
    subst hQ
    exact rta hx hb hr (Or.inl ⟨_, rfl⟩) hlocks rfl (congrArg adK (show 4 = so by omega)) dX1_nameOf_62
  · have hx9 : (nI so).toInt = 5 := by rw [nI_toInt (show so < 2 ^ 31 by omega)]; omega
    refine lv_tableIn (tgt := 63) (off := 62) hx hb dX1_nameOf_1 (by rw [hx9]; decide) (by rw [hx9]; decide) (by rw [hx9]; rfl) (by decide) ?_
    refine va_ldcS hx hb hown (hZ.2.2.2.1 5 (by decide)) dX1_nameOf_63 ?_
    subst hQ
    exact rta hx hb hr (Or.inl ⟨_, rfl⟩) hlocks rfl (congrArg adK (show 5 = so by omega)) dX1_nameOf_65
  · have hx9 : (nI so).toInt = 6 := by rw [nI_toInt (show so < 2 ^ 31 by omega)]; omega
    refine lv_tableIn (tgt := 66) (off := 65) hx hb dX1_nameOf_1 (by rw [hx9]; decide) (by rw [hx9]; decide) (by rw [hx9]; rfl) (by decide) ?_
    refine va_ldcS hx hb hown (hZ.2.2.2.1 6 (by decide)) dX1_nameOf_66 ?_
    subst hQ
    exact rta hx hb hr (Or.inl ⟨_, rfl⟩) hlocks rfl (congrArg adK (show 6 = so by omega)) dX1_nameOf_68
  · have hx9 : (nI so).toInt = 7 := by rw [nI_toInt (show so < 2 ^ 31 by omega)]; omega
    refine lv_tableIn (tgt := 69) (off := 68) hx hb dX1_nameOf_1 (by rw [hx9]; decide) (by rw [hx9]; decide) (by rw [hx9]; rfl) (by decide) ?_
    refine va_ldcS hx hb hown (hZ.2.2.2.1 7 (by decide)) dX1_nameOf_69 ?_
    subst hQ
    exact rta hx hb hr (Or.inl ⟨_, rfl⟩) hlocks rfl (congrArg adK (show 7 = so by omega)) dX1_nameOf_71
  · refine lv_tableOut (tgt := 72) hx hb dX1_nameOf_1 (by rw [nI_toInt (show so < 2 ^ 31 by omega)]; omega) (by decide) ?_
    have n1_0 : ¬ (so = 0) := by omega
    have n1_1 : ¬ (so = 1) := by omega
    have n1_2 : ¬ (so = 2) := by omega
    have n1_3 : ¬ (so = 3) := by omega
    have n1_4 : ¬ (so = 4) := by omega
    have n1_5 : ¬ (so = 5) := by omega
    have n1_6 : ¬ (so = 6) := by omega
    have n1_7 : ¬ (so = 7) := by omega
    refine va_ldcS hx hb hown (hZ.2.2.2.1 8 (by decide)) dX1_nameOf_72 ?_
    subst hQ
    exact rta hx hb hr (Or.inl ⟨_, rfl⟩) hlocks rfl (congrArg adK (show 8 = so by omega)) dX1_nameOf_74

set_option maxHeartbeats 4000000 in
set_option maxRecDepth 100000 in
theorem c_X2_isName (l : Launch) (D : va_G) (ta : Nat) (kt : ClassId) (tx : Nat → Nat) (ak : Nat) (adK adV : Nat → Nat) (pp : Nat) (ee : Nat) (si : Nat) (hpe : pp ≤ ee) (hee : ee ≤ 200) (hsi : si < 9) (htx : ∀ j, tx j < 4294967296) : Met l yX2_isName (.code yX2_isName cX2_isName 5 (some .boolean) :: wsL_law) ({ frames := 4, cells := 0, slots := 0, locals := 85 }) (va_Pc [.ref ta, .int (nI pp), .int (nI ee), .ref (adK si)] (PZ (PR D ([(ta, .inl (kt, 200, .inl (nA tx)))]) ([(kt, .byte)])) ak adK adV)) (QrI (bP (slc tx pp (ee - pp) = nmT.getD si []))) 0 0 (fun _ => False) := by
  refine Met.ofW (cc := cX2_isName) (maxL := 5) (ret := (some .boolean)) (by decide) rfl ?_
  intro p e s m args below meth c s₁ B hml hv
  obtain ⟨rfl, ⟨hP, hK⟩, hZ⟩ := hv
  have hS : va_S (fun _ => False) s.heap s.heap [] := va_S.rf
  have hx := B.exec
  have hb := B.bytes
  have hr := B.returns
  have hts := atoms_spec (ws := .code yX2_isName cX2_isName 5 (some .boolean) :: wsL_law) B.pre
  have hU : ∀ w ∈ wsL_law, w.before _ s = true := fun w h => hts w (List.mem_cons_of_mem _ h)
  have hown : s.vm.findClass RX2 = some m.cls := findClass_of_methodNamed B.named
  have hlocks := B.notSynchronized
  generalize hQ : MQ _ _ _ _ _ _ _ = Q
  have hl := lv_entry ([.ref ta, .int (nI pp), .int (nI ee), .ref (adK si)]) (n := 5) (Nat.le_of_ble_eq_true rfl)
  rw [lg_entry_eq]
  generalize (lg_sl ([.ref ta, .int (nI pp), .int (nI ee), .ref (adK si)]) ++ List.replicate (5 - (lg_sl ([.ref ta, .int (nI pp), .int (nI ee), .ref (adK si)])).length) Slot.unset).toArray = ls at hl ⊢
  have hl : lv_has ls 5 [(0, .ref ta), (1, .int (nI pp)), (2, .int (nI ee)), (3, .ref (adK si))] := hl
  refine lv_iload_n hx hb dX2_isName_0 rfl (lv_at hl 2 rfl) ?_
  refine lv_iload_n hx hb dX2_isName_1 rfl (lv_at hl 1 rfl) ?_
  refine lv_isub hx hb dX2_isName_2 ?_
  refine lv_topE (nI (ee - pp)) (pk_sub (by omega)) ?_
  refine lv_aload_n hx hb dX2_isName_3 rfl (lv_at hl 3 rfl) ?_
  refine cVi (As := []) (rest := [.int (nI (ee - pp))]) ⟨hx, hb, hml, hown, hts⟩ (c_J0_length_8abf5 l ak adK adV si  (by omega)) (cwV 0 hts (gV mU_164 mU_165 mU_166 mU_167 mU_168) rfl rfl rfl (by decide +kernel) ⟨Nat.le_of_ble_eq_true rfl, Nat.le_of_ble_eq_true rfl⟩) fbZU (vk_recv hZ.2.2.1 (by omega) hS) (zB (fun _ _ _ => trivial) hZ hS) rfl hl.1 rfl (Nat.le_of_ble_eq_true rfl) dX2_isName_4 ⟨Nat.zero_le _, Nat.zero_le _⟩ ?_
  have hf_1 : lnT si ≤ 5 := ln_le _
  refine lv_icmp_eq (tgt := 12) hx hb dX2_isName_7 (by decide) (fun c7_2 => ?_) (fun c7_2 => ?_)
  · have c7_2 : ee - pp = lnT si := (nI_eqG (a := ee - pp) (b := lnT si) (by omega) (by omega)).mp c7_2
    have hln : ee - pp = lnT si := c7_2
    refine lv_iload_n hx hb dX2_isName_12 rfl (lv_at hl 1 rfl) ?_
    refine lv_istore (lv' := [(4, .int (nI pp)), (0, .ref ta), (1, .int (nI pp)), (2, .int (nI ee)), (3, .ref (adK si))]) hx hb dX2_isName_13 hl (by decide) rfl (fun ls hl => ?_)
    have L15_28 : ∀ (n : Nat) (i : Nat), (pp ≤ i ∧ i ≤ ee) → (∀ k, k < i - pp → tx (pp + k) = chT si k) → (ee - i) < n → ∀ ls : Array Slot, lv_has ls 5 [(0, .ref ta), (1, .int (nI pp)), (2, .int (nI ee)), (3, .ref (adK si)), (4, .int (nI i))] → W p l e ({ frames := 4, cells := 0, slots := 0, locals := 85 } : Room) s m (([.ref ta, .int (nI pp), .int (nI ee), .ref (adK si)] : List Value).toArray) below meth c s.heap [] 0 0 Q (F0 m 15 ls []) := by
      intro n15
      induction n15 with
      | zero => intro i hi hall hm15; exact absurd hm15 (Nat.not_lt_zero _)
      | succ n15 ih15 =>
        intro i hi hall hm15 ls hl
        refine lv_iload hx hb dX2_isName_15 (lv_at hl 4 rfl) ?_
        refine lv_iload_n hx hb dX2_isName_17 rfl (lv_at hl 2 rfl) ?_
        refine lv_icmp_ge (tgt := 44) hx hb dX2_isName_18 (by decide) (fun c18_3 => ?_) (fun c18_3 => ?_)
        · have c18_3 : ee ≤ i := (nI_leI (a := ee) (b := i) (by omega) (by omega)).mp c18_3
          refine lv_iconst (v := nI 1) hx hb dX2_isName_44 (by decide) ?_
          subst hQ
          exact rtz hx hb hr hlocks rfl rfl (bP_1 (slc_eq hln (fun k hk => hall k (by omega)))) dX2_isName_45
        · have c18_3 : ¬ (ee ≤ i) := fun h9 => c18_3 ((nI_leI (a := ee) (b := i) (by omega) (by omega)).mpr h9)
          refine lv_aload_n hx hb dX2_isName_21 rfl (lv_at hl 0 rfl) ?_
          refine lv_iload hx hb dX2_isName_22 (lv_at hl 4 rfl) ?_
          refine n_bald hx hb hK hP 0 0 rfl rfl (i := i) (by omega) (by decide) dX2_isName_24 ?_
          have hb_4 := htx  i
          refine lv_aload_n hx hb dX2_isName_25 rfl (lv_at hl 3 rfl) ?_
          refine lv_iload hx hb dX2_isName_26 (lv_at hl 4 rfl) ?_
          refine lv_iload_n hx hb dX2_isName_28 rfl (lv_at hl 1 rfl) ?_
          refine lv_isub hx hb dX2_isName_29 ?_
          refine lv_topE (nI (i - pp)) (pk_sub (by omega)) ?_
          refine cVi (As := [.int (nI (i - pp))]) (rest := [.int (nI (tx i))]) ⟨hx, hb, hml, hown, hts⟩ (c_J0_charAt_5068e l ak adK adV si (i - pp) (by omega) (by omega)) (cwV 1 hts (gV mU_176 mU_177 mU_178 mU_167 mU_179) rfl rfl rfl (by decide +kernel) ⟨Nat.le_of_ble_eq_true rfl, Nat.le_of_ble_eq_true rfl⟩) fbZU (vk_recv hZ.2.2.1 (by omega) hS) (zB (fun _ _ _ => trivial) hZ hS) rfl hl.1 rfl (Nat.le_of_ble_eq_true rfl) dX2_isName_30 ⟨Nat.zero_le _, Nat.zero_le _⟩ ?_
          have hf_5 : chT si (i - pp) < 128 := ch_lt (by omega) (by have := ln_le si; omega)
          refine lv_icmp_eq (tgt := 38) hx hb dX2_isName_33 (by decide) (fun c33_6 => ?_) (fun c33_6 => ?_)
          · have c33_6 : tx i = chT si (i - pp) := (nI_eqG (a := tx i) (b := chT si (i - pp)) (by omega) (by omega)).mp c33_6
            refine lv_iinc (v := nI (i + 1)) (lv' := [(4, .int (nI (i + 1))), (0, .ref ta), (1, .int (nI pp)), (2, .int (nI ee)), (3, .ref (adK si))]) hx hb dX2_isName_38 hl (k := 4) rfl (by rw [show Int32.ofInt 1 = nI 1 from by decide, nI_add]) (by decide) rfl (fun ls hl => ?_)
            refine lv_goto (tgt := 15) hx hb dX2_isName_41 (by decide) ?_
            exact ih15 (i + 1) (by omega) (slc_step hall hi.1 c33_6) (by omega) _ (lv_sub hl [1, 2, 3, 4, 0] rfl)
          · have c33_6 : ¬ (tx i = chT si (i - pp)) := fun h9 => c33_6 ((nI_eqG (a := tx i) (b := chT si (i - pp)) (by omega) (by omega)).mpr h9)
            refine lv_iconst (v := nI 0) hx hb dX2_isName_36 (by decide) ?_
            subst hQ
            exact rtz hx hb hr hlocks rfl rfl (bP_0 (fun q => c33_6 (slc_at q (by omega) (by omega)))) dX2_isName_37
    exact L15_28 ((ee - pp) + 1) pp (by omega) (fun k hk => absurd hk (by omega)) (Nat.lt_succ_self _) _ (lv_sub hl [1, 2, 3, 4, 0] rfl)
  · have c7_2 : ¬ (ee - pp = lnT si) := fun h9 => c7_2 ((nI_eqG (a := ee - pp) (b := lnT si) (by omega) (by omega)).mpr h9)
    refine lv_iconst (v := nI 0) hx hb dX2_isName_10 (by decide) ?_
    subst hQ
    exact rtz hx hb hr hlocks rfl rfl (bP_0 (fun q => c7_2 (slc_len q))) dX2_isName_11

set_option maxHeartbeats 4000000 in
set_option maxRecDepth 100000 in
theorem c_X2_sortNamed (l : Launch) (D : va_G) (ta : Nat) (kt : ClassId) (tx : Nat → Nat) (ak : Nat) (adK adV : Nat → Nat) (pp : Nat) (ee : Nat) (hpe : pp ≤ ee) (hee : ee ≤ 200) (htx : ∀ j, tx j < 4294967296) : Met l yX2_sortNamed (.code yX2_sortNamed cX2_sortNamed 4 (some .int) :: wsL_law) ({ frames := 5, cells := 0, slots := 0, locals := 109 }) (va_Pc [.ref ta, .int (nI pp), .int (nI ee)] (PZ (PR D ([(ta, .inl (kt, 200, .inl (nA tx)))]) ([(kt, .byte)])) ak adK adV)) (QrI (nI (sortC tx pp ee))) 0 0 (fun _ => False) := by
  refine Met.ofW (cc := cX2_sortNamed) (maxL := 4) (ret := (some .int)) (by decide) rfl ?_
  intro p e s m args below meth c s₁ B hml hv
  obtain ⟨rfl, ⟨hP, hK⟩, hZ⟩ := hv
  have hS : va_S (fun _ => False) s.heap s.heap [] := va_S.rf
  have hx := B.exec
  have hb := B.bytes
  have hr := B.returns
  have hts := atoms_spec (ws := .code yX2_sortNamed cX2_sortNamed 4 (some .int) :: wsL_law) B.pre
  have hU : ∀ w ∈ wsL_law, w.before _ s = true := fun w h => hts w (List.mem_cons_of_mem _ h)
  have hown : s.vm.findClass RX2 = some m.cls := findClass_of_methodNamed B.named
  have hlocks := B.notSynchronized
  generalize hQ : MQ _ _ _ _ _ _ _ = Q
  have hl := lv_entry ([.ref ta, .int (nI pp), .int (nI ee)]) (n := 4) (Nat.le_of_ble_eq_true rfl)
  rw [lg_entry_eq]
  generalize (lg_sl ([.ref ta, .int (nI pp), .int (nI ee)]) ++ List.replicate (4 - (lg_sl ([.ref ta, .int (nI pp), .int (nI ee)])).length) Slot.unset).toArray = ls at hl ⊢
  have hl : lv_has ls 4 [(0, .ref ta), (1, .int (nI pp)), (2, .int (nI ee))] := hl
  refine lv_iconst (v := nI 0) hx hb dX2_sortNamed_0 (by decide) ?_
  refine lv_istore_n (lv' := [(3, .int (nI 0)), (0, .ref ta), (1, .int (nI pp)), (2, .int (nI ee))]) hx hb dX2_sortNamed_1 rfl hl (by decide) rfl (fun ls hl => ?_)
  refine lv_iload_n hx hb dX2_sortNamed_2 rfl (lv_at hl 0 rfl) ?_
  refine lv_bipush (v := nI 9) hx hb dX2_sortNamed_3 (by decide) ?_
  refine lv_icmp_ge (tgt := 29) hx hb dX2_sortNamed_5 (by decide) (fun c5_1 => by first | exact absurd c5_1 (by decide) | exact absurd (by decide) c5_1) (fun c5_1 => ?_)
  refine lv_aload_n hx hb dX2_sortNamed_8 rfl (lv_at hl 1 rfl) ?_
  refine lv_iload_n hx hb dX2_sortNamed_9 rfl (lv_at hl 2 rfl) ?_
  refine lv_iload_n hx hb dX2_sortNamed_10 rfl (lv_at hl 3 rfl) ?_
  refine lv_iload_n hx hb dX2_sortNamed_11 rfl (lv_at hl 0 rfl) ?_
  refine cSr (As := [.int (nI 0)]) (rest := [.int (nI ee), .int (nI pp), .ref ta]) ⟨hx, hb, hml, hown, hts⟩ (c_X1_nameOf l ak adK adV 0 (by omega)) (va_cwS 1 hts (gS mU_158 mU_159 mU_22 mU_160) rfl rfl rfl (by decide +kernel) ⟨Nat.le_of_ble_eq_true rfl, Nat.le_of_ble_eq_true rfl⟩) fbZU (zB (fun _ _ _ => trivial) hZ hS) rfl hl.1 rfl (Nat.le_of_ble_eq_true rfl) dX2_sortNamed_12 ⟨Nat.zero_le _, Nat.zero_le _⟩ ?_
  refine cSi (As := [.ref ta, .int (nI pp), .int (nI ee), .ref (adK 0)]) (rest := []) ⟨hx, hb, hml, hown, hts⟩ (c_X2_isName l D ta kt tx ak adK adV pp ee 0 (by omega) (by omega) (by omega) (htx)) (va_cwS 4 hts (gS mU_161 mU_162 mU_18 mU_163) rfl rfl rfl (by decide +kernel) ⟨Nat.le_of_ble_eq_true rfl, Nat.le_of_ble_eq_true rfl⟩) fbZR (zB (PR.of hP hK) hZ hS) rfl hl.1 rfl (Nat.le_of_ble_eq_true rfl) dX2_sortNamed_15 ⟨Nat.zero_le _, Nat.zero_le _⟩ ?_
  refine lv_if_eq (tgt := 23) hx hb dX2_sortNamed_18 (by decide) (fun c18_2 => ?_) (fun c18_2 => ?_)
  · have c18_2 : ¬ (slc tx pp (ee - pp) = nmT.getD 0 []) := bP_f c18_2
    refine lv_iinc (v := nI 1) (lv' := [(3, .int (nI 1)), (0, .ref ta), (1, .int (nI pp)), (2, .int (nI ee))]) hx hb dX2_sortNamed_23 hl (k := 0) rfl (by decide) (by decide) rfl (fun ls hl => ?_)
    refine lv_goto (tgt := 2) hx hb dX2_sortNamed_26 (by decide) ?_
    refine lv_iload_n hx hb dX2_sortNamed_2 rfl (lv_at hl 0 rfl) ?_
    refine lv_bipush (v := nI 9) hx hb dX2_sortNamed_3 (by decide) ?_
    refine lv_icmp_ge (tgt := 29) hx hb dX2_sortNamed_5 (by decide) (fun c5_3 => by first | exact absurd c5_3 (by decide) | exact absurd (by decide) c5_3) (fun c5_3 => ?_)
    refine lv_aload_n hx hb dX2_sortNamed_8 rfl (lv_at hl 1 rfl) ?_
    refine lv_iload_n hx hb dX2_sortNamed_9 rfl (lv_at hl 2 rfl) ?_
    refine lv_iload_n hx hb dX2_sortNamed_10 rfl (lv_at hl 3 rfl) ?_
    refine lv_iload_n hx hb dX2_sortNamed_11 rfl (lv_at hl 0 rfl) ?_
    refine cSr (As := [.int (nI 1)]) (rest := [.int (nI ee), .int (nI pp), .ref ta]) ⟨hx, hb, hml, hown, hts⟩ (c_X1_nameOf l ak adK adV 1 (by omega)) (va_cwS 1 hts (gS mU_158 mU_159 mU_22 mU_160) rfl rfl rfl (by decide +kernel) ⟨Nat.le_of_ble_eq_true rfl, Nat.le_of_ble_eq_true rfl⟩) fbZU (zB (fun _ _ _ => trivial) hZ hS) rfl hl.1 rfl (Nat.le_of_ble_eq_true rfl) dX2_sortNamed_12 ⟨Nat.zero_le _, Nat.zero_le _⟩ ?_
    refine cSi (As := [.ref ta, .int (nI pp), .int (nI ee), .ref (adK 1)]) (rest := []) ⟨hx, hb, hml, hown, hts⟩ (c_X2_isName l D ta kt tx ak adK adV pp ee 1 (by omega) (by omega) (by omega) (htx)) (va_cwS 4 hts (gS mU_161 mU_162 mU_18 mU_163) rfl rfl rfl (by decide +kernel) ⟨Nat.le_of_ble_eq_true rfl, Nat.le_of_ble_eq_true rfl⟩) fbZR (zB (PR.of hP hK) hZ hS) rfl hl.1 rfl (Nat.le_of_ble_eq_true rfl) dX2_sortNamed_15 ⟨Nat.zero_le _, Nat.zero_le _⟩ ?_
    refine lv_if_eq (tgt := 23) hx hb dX2_sortNamed_18 (by decide) (fun c18_4 => ?_) (fun c18_4 => ?_)
    · have c18_4 : ¬ (slc tx pp (ee - pp) = nmT.getD 1 []) := bP_f c18_4
      refine lv_iinc (v := nI 2) (lv' := [(3, .int (nI 2)), (0, .ref ta), (1, .int (nI pp)), (2, .int (nI ee))]) hx hb dX2_sortNamed_23 hl (k := 0) rfl (by decide) (by decide) rfl (fun ls hl => ?_)
      refine lv_goto (tgt := 2) hx hb dX2_sortNamed_26 (by decide) ?_
      refine lv_iload_n hx hb dX2_sortNamed_2 rfl (lv_at hl 0 rfl) ?_
      refine lv_bipush (v := nI 9) hx hb dX2_sortNamed_3 (by decide) ?_
      refine lv_icmp_ge (tgt := 29) hx hb dX2_sortNamed_5 (by decide) (fun c5_5 => by first | exact absurd c5_5 (by decide) | exact absurd (by decide) c5_5) (fun c5_5 => ?_)
      refine lv_aload_n hx hb dX2_sortNamed_8 rfl (lv_at hl 1 rfl) ?_
      refine lv_iload_n hx hb dX2_sortNamed_9 rfl (lv_at hl 2 rfl) ?_
      refine lv_iload_n hx hb dX2_sortNamed_10 rfl (lv_at hl 3 rfl) ?_
      refine lv_iload_n hx hb dX2_sortNamed_11 rfl (lv_at hl 0 rfl) ?_
      refine cSr (As := [.int (nI 2)]) (rest := [.int (nI ee), .int (nI pp), .ref ta]) ⟨hx, hb, hml, hown, hts⟩ (c_X1_nameOf l ak adK adV 2 (by omega)) (va_cwS 1 hts (gS mU_158 mU_159 mU_22 mU_160) rfl rfl rfl (by decide +kernel) ⟨Nat.le_of_ble_eq_true rfl, Nat.le_of_ble_eq_true rfl⟩) fbZU (zB (fun _ _ _ => trivial) hZ hS) rfl hl.1 rfl (Nat.le_of_ble_eq_true rfl) dX2_sortNamed_12 ⟨Nat.zero_le _, Nat.zero_le _⟩ ?_
      refine cSi (As := [.ref ta, .int (nI pp), .int (nI ee), .ref (adK 2)]) (rest := []) ⟨hx, hb, hml, hown, hts⟩ (c_X2_isName l D ta kt tx ak adK adV pp ee 2 (by omega) (by omega) (by omega) (htx)) (va_cwS 4 hts (gS mU_161 mU_162 mU_18 mU_163) rfl rfl rfl (by decide +kernel) ⟨Nat.le_of_ble_eq_true rfl, Nat.le_of_ble_eq_true rfl⟩) fbZR (zB (PR.of hP hK) hZ hS) rfl hl.1 rfl (Nat.le_of_ble_eq_true rfl) dX2_sortNamed_15 ⟨Nat.zero_le _, Nat.zero_le _⟩ ?_
      refine lv_if_eq (tgt := 23) hx hb dX2_sortNamed_18 (by decide) (fun c18_6 => ?_) (fun c18_6 => ?_)
      · have c18_6 : ¬ (slc tx pp (ee - pp) = nmT.getD 2 []) := bP_f c18_6
        refine lv_iinc (v := nI 3) (lv' := [(3, .int (nI 3)), (0, .ref ta), (1, .int (nI pp)), (2, .int (nI ee))]) hx hb dX2_sortNamed_23 hl (k := 0) rfl (by decide) (by decide) rfl (fun ls hl => ?_)
        refine lv_goto (tgt := 2) hx hb dX2_sortNamed_26 (by decide) ?_
        refine lv_iload_n hx hb dX2_sortNamed_2 rfl (lv_at hl 0 rfl) ?_
        refine lv_bipush (v := nI 9) hx hb dX2_sortNamed_3 (by decide) ?_
        refine lv_icmp_ge (tgt := 29) hx hb dX2_sortNamed_5 (by decide) (fun c5_7 => by first | exact absurd c5_7 (by decide) | exact absurd (by decide) c5_7) (fun c5_7 => ?_)
        refine lv_aload_n hx hb dX2_sortNamed_8 rfl (lv_at hl 1 rfl) ?_
        refine lv_iload_n hx hb dX2_sortNamed_9 rfl (lv_at hl 2 rfl) ?_
        refine lv_iload_n hx hb dX2_sortNamed_10 rfl (lv_at hl 3 rfl) ?_
        refine lv_iload_n hx hb dX2_sortNamed_11 rfl (lv_at hl 0 rfl) ?_
        refine cSr (As := [.int (nI 3)]) (rest := [.int (nI ee), .int (nI pp), .ref ta]) ⟨hx, hb, hml, hown, hts⟩ (c_X1_nameOf l ak adK adV 3 (by omega)) (va_cwS 1 hts (gS mU_158 mU_159 mU_22 mU_160) rfl rfl rfl (by decide +kernel) ⟨Nat.le_of_ble_eq_true rfl, Nat.le_of_ble_eq_true rfl⟩) fbZU (zB (fun _ _ _ => trivial) hZ hS) rfl hl.1 rfl (Nat.le_of_ble_eq_true rfl) dX2_sortNamed_12 ⟨Nat.zero_le _, Nat.zero_le _⟩ ?_
        refine cSi (As := [.ref ta, .int (nI pp), .int (nI ee), .ref (adK 3)]) (rest := []) ⟨hx, hb, hml, hown, hts⟩ (c_X2_isName l D ta kt tx ak adK adV pp ee 3 (by omega) (by omega) (by omega) (htx)) (va_cwS 4 hts (gS mU_161 mU_162 mU_18 mU_163) rfl rfl rfl (by decide +kernel) ⟨Nat.le_of_ble_eq_true rfl, Nat.le_of_ble_eq_true rfl⟩) fbZR (zB (PR.of hP hK) hZ hS) rfl hl.1 rfl (Nat.le_of_ble_eq_true rfl) dX2_sortNamed_15 ⟨Nat.zero_le _, Nat.zero_le _⟩ ?_
        refine lv_if_eq (tgt := 23) hx hb dX2_sortNamed_18 (by decide) (fun c18_8 => ?_) (fun c18_8 => ?_)
        · have c18_8 : ¬ (slc tx pp (ee - pp) = nmT.getD 3 []) := bP_f c18_8
          refine lv_iinc (v := nI 4) (lv' := [(3, .int (nI 4)), (0, .ref ta), (1, .int (nI pp)), (2, .int (nI ee))]) hx hb dX2_sortNamed_23 hl (k := 0) rfl (by decide) (by decide) rfl (fun ls hl => ?_)
          refine lv_goto (tgt := 2) hx hb dX2_sortNamed_26 (by decide) ?_
          refine lv_iload_n hx hb dX2_sortNamed_2 rfl (lv_at hl 0 rfl) ?_
          refine lv_bipush (v := nI 9) hx hb dX2_sortNamed_3 (by decide) ?_
          refine lv_icmp_ge (tgt := 29) hx hb dX2_sortNamed_5 (by decide) (fun c5_9 => by first | exact absurd c5_9 (by decide) | exact absurd (by decide) c5_9) (fun c5_9 => ?_)
          refine lv_aload_n hx hb dX2_sortNamed_8 rfl (lv_at hl 1 rfl) ?_
          refine lv_iload_n hx hb dX2_sortNamed_9 rfl (lv_at hl 2 rfl) ?_
          refine lv_iload_n hx hb dX2_sortNamed_10 rfl (lv_at hl 3 rfl) ?_
          refine lv_iload_n hx hb dX2_sortNamed_11 rfl (lv_at hl 0 rfl) ?_
          refine cSr (As := [.int (nI 4)]) (rest := [.int (nI ee), .int (nI pp), .ref ta]) ⟨hx, hb, hml, hown, hts⟩ (c_X1_nameOf l ak adK adV 4 (by omega)) (va_cwS 1 hts (gS mU_158 mU_159 mU_22 mU_160) rfl rfl rfl (by decide +kernel) ⟨Nat.le_of_ble_eq_true rfl, Nat.le_of_ble_eq_true rfl⟩) fbZU (zB (fun _ _ _ => trivial) hZ hS) rfl hl.1 rfl (Nat.le_of_ble_eq_true rfl) dX2_sortNamed_12 ⟨Nat.zero_le _, Nat.zero_le _⟩ ?_
          refine cSi (As := [.ref ta, .int (nI pp), .int (nI ee), .ref (adK 4)]) (rest := []) ⟨hx, hb, hml, hown, hts⟩ (c_X2_isName l D ta kt tx ak adK adV pp ee 4 (by omega) (by omega) (by omega) (htx)) (va_cwS 4 hts (gS mU_161 mU_162 mU_18 mU_163) rfl rfl rfl (by decide +kernel) ⟨Nat.le_of_ble_eq_true rfl, Nat.le_of_ble_eq_true rfl⟩) fbZR (zB (PR.of hP hK) hZ hS) rfl hl.1 rfl (Nat.le_of_ble_eq_true rfl) dX2_sortNamed_15 ⟨Nat.zero_le _, Nat.zero_le _⟩ ?_
          refine lv_if_eq (tgt := 23) hx hb dX2_sortNamed_18 (by decide) (fun c18_10 => ?_) (fun c18_10 => ?_)
          · have c18_10 : ¬ (slc tx pp (ee - pp) = nmT.getD 4 []) := bP_f c18_10
            refine lv_iinc (v := nI 5) (lv' := [(3, .int (nI 5)), (0, .ref ta), (1, .int (nI pp)), (2, .int (nI ee))]) hx hb dX2_sortNamed_23 hl (k := 0) rfl (by decide) (by decide) rfl (fun ls hl => ?_)
            refine lv_goto (tgt := 2) hx hb dX2_sortNamed_26 (by decide) ?_
            refine lv_iload_n hx hb dX2_sortNamed_2 rfl (lv_at hl 0 rfl) ?_
            refine lv_bipush (v := nI 9) hx hb dX2_sortNamed_3 (by decide) ?_
            refine lv_icmp_ge (tgt := 29) hx hb dX2_sortNamed_5 (by decide) (fun c5_11 => by first | exact absurd c5_11 (by decide) | exact absurd (by decide) c5_11) (fun c5_11 => ?_)
            refine lv_aload_n hx hb dX2_sortNamed_8 rfl (lv_at hl 1 rfl) ?_
            refine lv_iload_n hx hb dX2_sortNamed_9 rfl (lv_at hl 2 rfl) ?_
            refine lv_iload_n hx hb dX2_sortNamed_10 rfl (lv_at hl 3 rfl) ?_
            refine lv_iload_n hx hb dX2_sortNamed_11 rfl (lv_at hl 0 rfl) ?_
            refine cSr (As := [.int (nI 5)]) (rest := [.int (nI ee), .int (nI pp), .ref ta]) ⟨hx, hb, hml, hown, hts⟩ (c_X1_nameOf l ak adK adV 5 (by omega)) (va_cwS 1 hts (gS mU_158 mU_159 mU_22 mU_160) rfl rfl rfl (by decide +kernel) ⟨Nat.le_of_ble_eq_true rfl, Nat.le_of_ble_eq_true rfl⟩) fbZU (zB (fun _ _ _ => trivial) hZ hS) rfl hl.1 rfl (Nat.le_of_ble_eq_true rfl) dX2_sortNamed_12 ⟨Nat.zero_le _, Nat.zero_le _⟩ ?_
            refine cSi (As := [.ref ta, .int (nI pp), .int (nI ee), .ref (adK 5)]) (rest := []) ⟨hx, hb, hml, hown, hts⟩ (c_X2_isName l D ta kt tx ak adK adV pp ee 5 (by omega) (by omega) (by omega) (htx)) (va_cwS 4 hts (gS mU_161 mU_162 mU_18 mU_163) rfl rfl rfl (by decide +kernel) ⟨Nat.le_of_ble_eq_true rfl, Nat.le_of_ble_eq_true rfl⟩) fbZR (zB (PR.of hP hK) hZ hS) rfl hl.1 rfl (Nat.le_of_ble_eq_true rfl) dX2_sortNamed_15 ⟨Nat.zero_le _, Nat.zero_le _⟩ ?_
            refine lv_if_eq (tgt := 23) hx hb dX2_sortNamed_18 (by decide) (fun c18_12 => ?_) (fun c18_12 => ?_)
            · have c18_12 : ¬ (slc tx pp (ee - pp) = nmT.getD 5 []) := bP_f c18_12
              refine lv_iinc (v := nI 6) (lv' := [(3, .int (nI 6)), (0, .ref ta), (1, .int (nI pp)), (2, .int (nI ee))]) hx hb dX2_sortNamed_23 hl (k := 0) rfl (by decide) (by decide) rfl (fun ls hl => ?_)
              refine lv_goto (tgt := 2) hx hb dX2_sortNamed_26 (by decide) ?_
              refine lv_iload_n hx hb dX2_sortNamed_2 rfl (lv_at hl 0 rfl) ?_
              refine lv_bipush (v := nI 9) hx hb dX2_sortNamed_3 (by decide) ?_
              refine lv_icmp_ge (tgt := 29) hx hb dX2_sortNamed_5 (by decide) (fun c5_13 => by first | exact absurd c5_13 (by decide) | exact absurd (by decide) c5_13) (fun c5_13 => ?_)
              refine lv_aload_n hx hb dX2_sortNamed_8 rfl (lv_at hl 1 rfl) ?_
              refine lv_iload_n hx hb dX2_sortNamed_9 rfl (lv_at hl 2 rfl) ?_
              refine lv_iload_n hx hb dX2_sortNamed_10 rfl (lv_at hl 3 rfl) ?_
              refine lv_iload_n hx hb dX2_sortNamed_11 rfl (lv_at hl 0 rfl) ?_
              refine cSr (As := [.int (nI 6)]) (rest := [.int (nI ee), .int (nI pp), .ref ta]) ⟨hx, hb, hml, hown, hts⟩ (c_X1_nameOf l ak adK adV 6 (by omega)) (va_cwS 1 hts (gS mU_158 mU_159 mU_22 mU_160) rfl rfl rfl (by decide +kernel) ⟨Nat.le_of_ble_eq_true rfl, Nat.le_of_ble_eq_true rfl⟩) fbZU (zB (fun _ _ _ => trivial) hZ hS) rfl hl.1 rfl (Nat.le_of_ble_eq_true rfl) dX2_sortNamed_12 ⟨Nat.zero_le _, Nat.zero_le _⟩ ?_
              refine cSi (As := [.ref ta, .int (nI pp), .int (nI ee), .ref (adK 6)]) (rest := []) ⟨hx, hb, hml, hown, hts⟩ (c_X2_isName l D ta kt tx ak adK adV pp ee 6 (by omega) (by omega) (by omega) (htx)) (va_cwS 4 hts (gS mU_161 mU_162 mU_18 mU_163) rfl rfl rfl (by decide +kernel) ⟨Nat.le_of_ble_eq_true rfl, Nat.le_of_ble_eq_true rfl⟩) fbZR (zB (PR.of hP hK) hZ hS) rfl hl.1 rfl (Nat.le_of_ble_eq_true rfl) dX2_sortNamed_15 ⟨Nat.zero_le _, Nat.zero_le _⟩ ?_
              refine lv_if_eq (tgt := 23) hx hb dX2_sortNamed_18 (by decide) (fun c18_14 => ?_) (fun c18_14 => ?_)
              · have c18_14 : ¬ (slc tx pp (ee - pp) = nmT.getD 6 []) := bP_f c18_14
                refine lv_iinc (v := nI 7) (lv' := [(3, .int (nI 7)), (0, .ref ta), (1, .int (nI pp)), (2, .int (nI ee))]) hx hb dX2_sortNamed_23 hl (k := 0) rfl (by decide) (by decide) rfl (fun ls hl => ?_)
                refine lv_goto (tgt := 2) hx hb dX2_sortNamed_26 (by decide) ?_
                refine lv_iload_n hx hb dX2_sortNamed_2 rfl (lv_at hl 0 rfl) ?_
                refine lv_bipush (v := nI 9) hx hb dX2_sortNamed_3 (by decide) ?_
                refine lv_icmp_ge (tgt := 29) hx hb dX2_sortNamed_5 (by decide) (fun c5_15 => by first | exact absurd c5_15 (by decide) | exact absurd (by decide) c5_15) (fun c5_15 => ?_)
                refine lv_aload_n hx hb dX2_sortNamed_8 rfl (lv_at hl 1 rfl) ?_
                refine lv_iload_n hx hb dX2_sortNamed_9 rfl (lv_at hl 2 rfl) ?_
                refine lv_iload_n hx hb dX2_sortNamed_10 rfl (lv_at hl 3 rfl) ?_
                refine lv_iload_n hx hb dX2_sortNamed_11 rfl (lv_at hl 0 rfl) ?_
                refine cSr (As := [.int (nI 7)]) (rest := [.int (nI ee), .int (nI pp), .ref ta]) ⟨hx, hb, hml, hown, hts⟩ (c_X1_nameOf l ak adK adV 7 (by omega)) (va_cwS 1 hts (gS mU_158 mU_159 mU_22 mU_160) rfl rfl rfl (by decide +kernel) ⟨Nat.le_of_ble_eq_true rfl, Nat.le_of_ble_eq_true rfl⟩) fbZU (zB (fun _ _ _ => trivial) hZ hS) rfl hl.1 rfl (Nat.le_of_ble_eq_true rfl) dX2_sortNamed_12 ⟨Nat.zero_le _, Nat.zero_le _⟩ ?_
                refine cSi (As := [.ref ta, .int (nI pp), .int (nI ee), .ref (adK 7)]) (rest := []) ⟨hx, hb, hml, hown, hts⟩ (c_X2_isName l D ta kt tx ak adK adV pp ee 7 (by omega) (by omega) (by omega) (htx)) (va_cwS 4 hts (gS mU_161 mU_162 mU_18 mU_163) rfl rfl rfl (by decide +kernel) ⟨Nat.le_of_ble_eq_true rfl, Nat.le_of_ble_eq_true rfl⟩) fbZR (zB (PR.of hP hK) hZ hS) rfl hl.1 rfl (Nat.le_of_ble_eq_true rfl) dX2_sortNamed_15 ⟨Nat.zero_le _, Nat.zero_le _⟩ ?_
                refine lv_if_eq (tgt := 23) hx hb dX2_sortNamed_18 (by decide) (fun c18_16 => ?_) (fun c18_16 => ?_)
                · have c18_16 : ¬ (slc tx pp (ee - pp) = nmT.getD 7 []) := bP_f c18_16
                  refine lv_iinc (v := nI 8) (lv' := [(3, .int (nI 8)), (0, .ref ta), (1, .int (nI pp)), (2, .int (nI ee))]) hx hb dX2_sortNamed_23 hl (k := 0) rfl (by decide) (by decide) rfl (fun ls hl => ?_)
                  refine lv_goto (tgt := 2) hx hb dX2_sortNamed_26 (by decide) ?_
                  refine lv_iload_n hx hb dX2_sortNamed_2 rfl (lv_at hl 0 rfl) ?_
                  refine lv_bipush (v := nI 9) hx hb dX2_sortNamed_3 (by decide) ?_
                  refine lv_icmp_ge (tgt := 29) hx hb dX2_sortNamed_5 (by decide) (fun c5_17 => by first | exact absurd c5_17 (by decide) | exact absurd (by decide) c5_17) (fun c5_17 => ?_)
                  refine lv_aload_n hx hb dX2_sortNamed_8 rfl (lv_at hl 1 rfl) ?_
                  refine lv_iload_n hx hb dX2_sortNamed_9 rfl (lv_at hl 2 rfl) ?_
                  refine lv_iload_n hx hb dX2_sortNamed_10 rfl (lv_at hl 3 rfl) ?_
                  refine lv_iload_n hx hb dX2_sortNamed_11 rfl (lv_at hl 0 rfl) ?_
                  refine cSr (As := [.int (nI 8)]) (rest := [.int (nI ee), .int (nI pp), .ref ta]) ⟨hx, hb, hml, hown, hts⟩ (c_X1_nameOf l ak adK adV 8 (by omega)) (va_cwS 1 hts (gS mU_158 mU_159 mU_22 mU_160) rfl rfl rfl (by decide +kernel) ⟨Nat.le_of_ble_eq_true rfl, Nat.le_of_ble_eq_true rfl⟩) fbZU (zB (fun _ _ _ => trivial) hZ hS) rfl hl.1 rfl (Nat.le_of_ble_eq_true rfl) dX2_sortNamed_12 ⟨Nat.zero_le _, Nat.zero_le _⟩ ?_
                  refine cSi (As := [.ref ta, .int (nI pp), .int (nI ee), .ref (adK 8)]) (rest := []) ⟨hx, hb, hml, hown, hts⟩ (c_X2_isName l D ta kt tx ak adK adV pp ee 8 (by omega) (by omega) (by omega) (htx)) (va_cwS 4 hts (gS mU_161 mU_162 mU_18 mU_163) rfl rfl rfl (by decide +kernel) ⟨Nat.le_of_ble_eq_true rfl, Nat.le_of_ble_eq_true rfl⟩) fbZR (zB (PR.of hP hK) hZ hS) rfl hl.1 rfl (Nat.le_of_ble_eq_true rfl) dX2_sortNamed_15 ⟨Nat.zero_le _, Nat.zero_le _⟩ ?_
                  refine lv_if_eq (tgt := 23) hx hb dX2_sortNamed_18 (by decide) (fun c18_18 => ?_) (fun c18_18 => ?_)
                  · have c18_18 : ¬ (slc tx pp (ee - pp) = nmT.getD 8 []) := bP_f c18_18
                    refine lv_iinc (v := nI 9) (lv' := [(3, .int (nI 9)), (0, .ref ta), (1, .int (nI pp)), (2, .int (nI ee))]) hx hb dX2_sortNamed_23 hl (k := 0) rfl (by decide) (by decide) rfl (fun ls hl => ?_)
                    refine lv_goto (tgt := 2) hx hb dX2_sortNamed_26 (by decide) ?_
                    refine lv_iload_n hx hb dX2_sortNamed_2 rfl (lv_at hl 0 rfl) ?_
                    refine lv_bipush (v := nI 9) hx hb dX2_sortNamed_3 (by decide) ?_
                    refine lv_icmp_ge (tgt := 29) hx hb dX2_sortNamed_5 (by decide) (fun c5_19 => ?_) (fun c5_19 => by first | exact absurd (by decide) c5_19 | exact absurd c5_19 (by decide))
                    refine lv_iconst (v := nI 4294967295) hx hb dX2_sortNamed_29 (by decide) ?_
                    subst hQ
                    exact rti hx hb hr hlocks rfl (by unfold sortC; rw [if_neg c18_2, if_neg c18_4, if_neg c18_6, if_neg c18_8, if_neg c18_10, if_neg c18_12, if_neg c18_14, if_neg c18_16, if_neg c18_18]) dX2_sortNamed_30
                  · have c18_18 : slc tx pp (ee - pp) = nmT.getD 8 [] := bP_t c18_18
                    refine lv_iload_n hx hb dX2_sortNamed_21 rfl (lv_at hl 0 rfl) ?_
                    subst hQ
                    exact rti hx hb hr hlocks rfl (by unfold sortC; rw [if_neg c18_2, if_neg c18_4, if_neg c18_6, if_neg c18_8, if_neg c18_10, if_neg c18_12, if_neg c18_14, if_neg c18_16, if_pos c18_18]) dX2_sortNamed_22
                · have c18_16 : slc tx pp (ee - pp) = nmT.getD 7 [] := bP_t c18_16
                  refine lv_iload_n hx hb dX2_sortNamed_21 rfl (lv_at hl 0 rfl) ?_
                  subst hQ
                  exact rti hx hb hr hlocks rfl (by unfold sortC; rw [if_neg c18_2, if_neg c18_4, if_neg c18_6, if_neg c18_8, if_neg c18_10, if_neg c18_12, if_neg c18_14, if_pos c18_16]) dX2_sortNamed_22
              · have c18_14 : slc tx pp (ee - pp) = nmT.getD 6 [] := bP_t c18_14
                refine lv_iload_n hx hb dX2_sortNamed_21 rfl (lv_at hl 0 rfl) ?_
                subst hQ
                exact rti hx hb hr hlocks rfl (by unfold sortC; rw [if_neg c18_2, if_neg c18_4, if_neg c18_6, if_neg c18_8, if_neg c18_10, if_neg c18_12, if_pos c18_14]) dX2_sortNamed_22
            · have c18_12 : slc tx pp (ee - pp) = nmT.getD 5 [] := bP_t c18_12
              refine lv_iload_n hx hb dX2_sortNamed_21 rfl (lv_at hl 0 rfl) ?_
              subst hQ
              exact rti hx hb hr hlocks rfl (by unfold sortC; rw [if_neg c18_2, if_neg c18_4, if_neg c18_6, if_neg c18_8, if_neg c18_10, if_pos c18_12]) dX2_sortNamed_22
          · have c18_10 : slc tx pp (ee - pp) = nmT.getD 4 [] := bP_t c18_10
            refine lv_iload_n hx hb dX2_sortNamed_21 rfl (lv_at hl 0 rfl) ?_
            subst hQ
            exact rti hx hb hr hlocks rfl (by unfold sortC; rw [if_neg c18_2, if_neg c18_4, if_neg c18_6, if_neg c18_8, if_pos c18_10]) dX2_sortNamed_22
        · have c18_8 : slc tx pp (ee - pp) = nmT.getD 3 [] := bP_t c18_8
          refine lv_iload_n hx hb dX2_sortNamed_21 rfl (lv_at hl 0 rfl) ?_
          subst hQ
          exact rti hx hb hr hlocks rfl (by unfold sortC; rw [if_neg c18_2, if_neg c18_4, if_neg c18_6, if_pos c18_8]) dX2_sortNamed_22
      · have c18_6 : slc tx pp (ee - pp) = nmT.getD 2 [] := bP_t c18_6
        refine lv_iload_n hx hb dX2_sortNamed_21 rfl (lv_at hl 0 rfl) ?_
        subst hQ
        exact rti hx hb hr hlocks rfl (by unfold sortC; rw [if_neg c18_2, if_neg c18_4, if_pos c18_6]) dX2_sortNamed_22
    · have c18_4 : slc tx pp (ee - pp) = nmT.getD 1 [] := bP_t c18_4
      refine lv_iload_n hx hb dX2_sortNamed_21 rfl (lv_at hl 0 rfl) ?_
      subst hQ
      exact rti hx hb hr hlocks rfl (by unfold sortC; rw [if_neg c18_2, if_pos c18_4]) dX2_sortNamed_22
  · have c18_2 : slc tx pp (ee - pp) = nmT.getD 0 [] := bP_t c18_2
    refine lv_iload_n hx hb dX2_sortNamed_21 rfl (lv_at hl 0 rfl) ?_
    subst hQ
    exact rti hx hb hr hlocks rfl (by unfold sortC; rw [if_pos c18_2]) dX2_sortNamed_22

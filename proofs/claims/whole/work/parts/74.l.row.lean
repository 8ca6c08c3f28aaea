/-! LAW: the two worlds side by side, a call on one of them -/
abbrev xwL (u : XSt) : va_W := xW u.1 u.2.1 u.2.2.1 u.2.2.2.1 u.2.2.2.2
abbrev mwL (ma : Nat → Nat) (mk : Nat → ClassId) (v : MSt) : va_W := mW ma mk v.1 v.2.1 v.2.2
def lawH (D : va_G) (s : State) (u : XSt) (ma : Nat → Nat) (mk : Nat → ClassId) (v : MSt) (H : Heap) (locs : List Loc) : Prop := va_P D vwCl (xwL u ++ mwL ma mk v) H ∧ va_D (fun q : Nat => s.heap.size ≤ q) (xwL u ++ mwL ma mk v) ∧ va_K D vwCl (xT u.2.1 ++ mT mk) s ∧ va_S (fun q : Nat => s.heap.size ≤ q) s.heap H locs
def aN (v : Int32) : Nat := v.toBitVec.toNat
theorem aN_lt (v : Int32) : aN v < 4294967296 := v.toBitVec.isLt
theorem aN_eq (v : Int32) : v = nI (aN v) := by
  unfold nI aN
  apply Int32.toBitVec_inj.mp
  simp
section LAWK
variable {p : Program} {l : Launch} {e : Env} {R : Room} {s : State} {m : MethodId} {args : Array Value} {below : List Frame} {meth : Method} {c : Code} {H : Heap} {locs : List Loc} {cells slots : Nat} {Q : State → Prop}
variable {pc : Nat} {ls : Array Slot} {rest st0 : List Value}
variable {Ts : List Cond} {cc bytes : ByteArray} {nL maxL index n : Nat} {own C : String} {y : MethodName} {ret : Option FieldType} {rm : Room} {b : Addr} {As : List Value}
variable {D : va_G} {tys : List (ClassId × FieldType)} {wsd : va_W} {A : Nat → Prop} {S : Type} {W' : S → va_W} {T' : S → List (ClassId × FieldType)} {wq : List Cond} {mc ms : Nat} {wc wr : va_W} {tc tr : List (ClassId × FieldType)} {ak : Nat} {adK adV : Nat → Nat}
theorem kViZ {post : Int32 → S → Prop} (SF : CallFix p m c cc nL s args Ts own) (hM : Met l y wq rm (va_Pc (.ref b :: As) (PWZ D wc tc H.size ak adK adV)) (va_Qi post (QW D W' T' (va_A wc H.size)) (va_A wc H.size)) mc ms (va_A wc H.size)) (cw : CallW R s args own C index y bytes maxL ret wq rm mc ms n)
    (hrc : ∃ cellB : Cell, H[b]? = some cellB ∧ cellB.vm.isStatics = false ∧ s.vm.findClass C = some cellB.cls) (hP : va_P D vwCl wsd H) (hK : va_K D vwCl tys s) (hD : va_D A wsd) (hS : va_S A s.heap H locs) (hA : ∀ q, s.heap.size ≤ q → A q) (hZ : zz ak adK adV A s s.heap)
    (isC isR tC tR : List Nat) (hC : isC.map (fun i => wsd[i]?) = wc.map some) (hnC : va_nd isC = true) (hR : isR.map (fun i => wsd[i]?) = wr.map some) (hnR : va_nd isR = true) (hdis : ∀ i ∈ isR, i ∉ isC) (htC : tC.filterMap (fun i => tys[i]?) = tc) (htR : tR.filterMap (fun i => tys[i]?) = tr)
    (hn : As.length = n) (hsize : ls.size = nL) (hstack : st0 = As.reverse ++ .ref b :: rest) (hW : (rest.map fun v => v.category).sum ≤ 8) (hdg : decode cc pc = .ok (.invokevirtual index, 3)) (hf : cells + mc ≤ R.cells ∧ slots + ms ≤ R.slots)
    (kk : ∀ (r : Int32) (u : S) (H1 : Heap) (locs1 : List Loc), post r u → va_P D vwCl (wr ++ W' u) H1 → va_D A (wr ++ W' u) → va_K D vwCl (tr ++ T' u) s → va_S A s.heap H1 locs1 → W p l e R s m args below meth c H1 locs1 (cells + mc) (slots + ms) Q (F0 m (pc + 3) ls (.int r :: rest))) : W p l e R s m args below meth c H locs cells slots Q (F0 m pc ls st0) := by
  have hPc : va_P D vwCl wc H := fun k q hq => by
    have h1 : (isC.map (fun i => wsd[i]?))[k]? = some (some q) := by rw [hC, List.getElem?_map, hq]; rfl
    rw [List.getElem?_map] at h1
    cases hi : isC[k]? with
    | none => rw [hi] at h1; cases h1
    | some i => rw [hi] at h1; exact hP i q (Option.some.inj h1)
  have hDc := hD.sub (ws' := wc) isC hnC hC
  have hKc := hK.sub tC htC
  have hFc := va_free (wc := wc) hD hS hA isC hC
  refine va_calli (va_runV SF hM cw ⟨fbWZ, hrc, fun U hU hW => ⟨rfl, ⟨by rw [hU], by rw [hU]; exact hPc, va_K.moved hW.alike hKc, hDc.weaken (fun _ _ _ _ => trivial)⟩, by rw [hU]; exact ((hZ.kept hS.2.1).narrow hFc).warm hW⟩⟩ rfl hn hsize hstack (lv_room hW) hdg hf) hS (fun q _ h => hFc q h) hFc (fun r u t H1 locs1 ht hvm hw hB hz1 hk1 hS1 => ?_)
  obtain ⟨hP1, hK1, hD1⟩ := hB
  rw [ht] at hP1
  obtain ⟨hP2, hD2⟩ := va_join (wr := wr) hP hD isC isR hC hR hnR hdis hk1 hFc hP1 hD1
  exact kk r u H1 locs1 hw hP2 hD2 ((hK.sub tR htR).app (va_K.moved hvm.symm hK1)) hS1
variable {u : XSt} {ma : Nat → Nat} {mk : Nat → ClassId} {v : MSt}
theorem lX {post : Int32 → XSt → Prop} (SF : CallFix p m c cc nL s args Ts own) (hM : Met l y wq rm (va_Pc (.ref (u.1 0) :: As) (PW D (xwL u) (xT u.2.1) H.size)) (va_Qi post (QW D (fun u : XSt => xW u.1 u.2.1 u.2.2.1 u.2.2.2.1 u.2.2.2.2) (fun u : XSt => xT u.2.1) (va_A (xwL u) H.size)) (va_A (xwL u) H.size)) mc ms (va_A (xwL u) H.size)) (cw : CallW room_1 s args own RX4 index y bytes maxL ret wq rm mc ms n) (hL : lawH D s u ma mk v H locs)
    (hn : As.length = n) (hsize : ls.size = nL) (hstack : st0 = As.reverse ++ .ref (u.1 0) :: rest) (hW : (rest.map fun v => v.category).sum ≤ 8) (hdg : decode cc pc = .ok (.invokevirtual index, 3)) (hf : cells + mc ≤ 600000 ∧ slots + ms ≤ 7302250)
    (kk : ∀ (r : Int32) (u' : XSt) (H1 : Heap) (locs1 : List Loc), post r u' → lawH D s u' ma mk v H1 locs1 → W p l e room_1 s m args below meth c H1 locs1 (cells + mc) (slots + ms) Q (F0 m (pc + 3) ls (.int r :: rest))) : W p l e room_1 s m args below meth c H locs cells slots Q (F0 m pc ls st0) := by
  obtain ⟨hP, hD, hK, hS⟩ := hL
  exact kVi (wr := (mwL ma mk v)) (tr := (mT mk)) SF hM cw (va_recv hK hP (ci := 4) (q0 := 0) rfl rfl) hP hK hD hS (fun _ h => h) [0, 1, 2, 3, 4, 5, 6, 7, 8, 9, 10, 11, 12, 13, 14, 15, 16, 17, 18, 19, 20, 21, 22, 23] [24, 25, 26, 27, 28, 29, 30, 31, 32, 33, 34, 35, 36] [0, 1, 2, 3, 4, 5, 6, 7, 8, 9, 10, 11, 12, 13, 14, 15] [16, 17, 18, 19, 20, 21, 22, 23, 24, 25, 26, 27] rfl rfl rfl rfl (by decide) rfl rfl hn hsize hstack hW hdg hf (fun r u' H1 locs1 hw hP hD hK hS => kk r u' H1 locs1 hw ⟨hP.sub [13, 14, 15, 16, 17, 18, 19, 20, 21, 22, 23, 24, 25, 26, 27, 28, 29, 30, 31, 32, 33, 34, 35, 36, 0, 1, 2, 3, 4, 5, 6, 7, 8, 9, 10, 11, 12] rfl, hD.sub [13, 14, 15, 16, 17, 18, 19, 20, 21, 22, 23, 24, 25, 26, 27, 28, 29, 30, 31, 32, 33, 34, 35, 36, 0, 1, 2, 3, 4, 5, 6, 7, 8, 9, 10, 11, 12] rfl rfl, hK.sub [12, 13, 14, 15, 16, 17, 18, 19, 20, 21, 22, 23, 24, 25, 26, 27, 0, 1, 2, 3, 4, 5, 6, 7, 8, 9, 10, 11] rfl, hS⟩)
theorem lM {post : Int32 → MSt → Prop} (SF : CallFix p m c cc nL s args Ts own) (hM : Met l y wq rm (va_Pc (.ref (ma 0) :: As) (PW D (mwL ma mk v) (mT mk) H.size)) (va_Qi post (QW D (fun u : MSt => mW ma mk u.1 u.2.1 u.2.2) (fun _ => mT mk) (va_A (mwL ma mk v) H.size)) (va_A (mwL ma mk v) H.size)) mc ms (va_A (mwL ma mk v) H.size)) (cw : CallW room_1 s args own RX5 index y bytes maxL ret wq rm mc ms n) (hL : lawH D s u ma mk v H locs)
    (hn : As.length = n) (hsize : ls.size = nL) (hstack : st0 = As.reverse ++ .ref (ma 0) :: rest) (hW : (rest.map fun v => v.category).sum ≤ 8) (hdg : decode cc pc = .ok (.invokevirtual index, 3)) (hf : cells + mc ≤ 600000 ∧ slots + ms ≤ 7302250)
    (kk : ∀ (r : Int32) (u' : MSt) (H1 : Heap) (locs1 : List Loc), post r u' → lawH D s u ma mk u' H1 locs1 → W p l e room_1 s m args below meth c H1 locs1 (cells + mc) (slots + ms) Q (F0 m (pc + 3) ls (.int r :: rest))) : W p l e room_1 s m args below meth c H locs cells slots Q (F0 m pc ls st0) := by
  obtain ⟨hP, hD, hK, hS⟩ := hL
  exact kVi (wr := (xwL u)) (tr := (xT u.2.1)) SF hM cw (va_recv hK hP (ci := 5) (q0 := 24) rfl rfl) hP hK hD hS (fun _ h => h) [24, 25, 26, 27, 28, 29, 30, 31, 32, 33, 34, 35, 36] [0, 1, 2, 3, 4, 5, 6, 7, 8, 9, 10, 11, 12, 13, 14, 15, 16, 17, 18, 19, 20, 21, 22, 23] [16, 17, 18, 19, 20, 21, 22, 23, 24, 25, 26, 27] [0, 1, 2, 3, 4, 5, 6, 7, 8, 9, 10, 11, 12, 13, 14, 15] rfl rfl rfl rfl (by decide) rfl rfl hn hsize hstack hW hdg hf (fun r u' H1 locs1 hw hP hD hK hS => kk r u' H1 locs1 hw ⟨hP, hD, hK, hS⟩)
theorem lXv {post : XSt → Prop} (SF : CallFix p m c cc nL s args Ts own) (hM : Met l y wq rm (va_Pc (.ref (u.1 0) :: As) (PW D (xwL u) (xT u.2.1) H.size)) (va_Qv post (QW D (fun u : XSt => xW u.1 u.2.1 u.2.2.1 u.2.2.2.1 u.2.2.2.2) (fun u : XSt => xT u.2.1) (va_A (xwL u) H.size)) (va_A (xwL u) H.size)) mc ms (va_A (xwL u) H.size)) (cw : CallW room_1 s args own RX4 index y bytes maxL ret wq rm mc ms n) (hL : lawH D s u ma mk v H locs)
    (hn : As.length = n) (hsize : ls.size = nL) (hstack : st0 = As.reverse ++ .ref (u.1 0) :: rest) (hW : (rest.map fun v => v.category).sum ≤ 8) (hdg : decode cc pc = .ok (.invokevirtual index, 3)) (hf : cells + mc ≤ 600000 ∧ slots + ms ≤ 7302250)
    (kk : ∀ (u' : XSt) (H1 : Heap) (locs1 : List Loc), post u' → lawH D s u' ma mk v H1 locs1 → W p l e room_1 s m args below meth c H1 locs1 (cells + mc) (slots + ms) Q (F0 m (pc + 3) ls rest)) : W p l e room_1 s m args below meth c H locs cells slots Q (F0 m pc ls st0) := by
  obtain ⟨hP, hD, hK, hS⟩ := hL
  exact kVv (wr := (mwL ma mk v)) (tr := (mT mk)) SF hM cw (va_recv hK hP (ci := 4) (q0 := 0) rfl rfl) hP hK hD hS (fun _ h => h) [0, 1, 2, 3, 4, 5, 6, 7, 8, 9, 10, 11, 12, 13, 14, 15, 16, 17, 18, 19, 20, 21, 22, 23] [24, 25, 26, 27, 28, 29, 30, 31, 32, 33, 34, 35, 36] [0, 1, 2, 3, 4, 5, 6, 7, 8, 9, 10, 11, 12, 13, 14, 15] [16, 17, 18, 19, 20, 21, 22, 23, 24, 25, 26, 27] rfl rfl rfl rfl (by decide) rfl rfl hn hsize hstack hW hdg hf (fun u' H1 locs1 hw hP hD hK hS => kk u' H1 locs1 hw ⟨hP.sub [13, 14, 15, 16, 17, 18, 19, 20, 21, 22, 23, 24, 25, 26, 27, 28, 29, 30, 31, 32, 33, 34, 35, 36, 0, 1, 2, 3, 4, 5, 6, 7, 8, 9, 10, 11, 12] rfl, hD.sub [13, 14, 15, 16, 17, 18, 19, 20, 21, 22, 23, 24, 25, 26, 27, 28, 29, 30, 31, 32, 33, 34, 35, 36, 0, 1, 2, 3, 4, 5, 6, 7, 8, 9, 10, 11, 12] rfl rfl, hK.sub [12, 13, 14, 15, 16, 17, 18, 19, 20, 21, 22, 23, 24, 25, 26, 27, 0, 1, 2, 3, 4, 5, 6, 7, 8, 9, 10, 11] rfl, hS⟩)
theorem lMv {post : MSt → Prop} (SF : CallFix p m c cc nL s args Ts own) (hM : Met l y wq rm (va_Pc (.ref (ma 0) :: As) (PW D (mwL ma mk v) (mT mk) H.size)) (va_Qv post (QW D (fun u : MSt => mW ma mk u.1 u.2.1 u.2.2) (fun _ => mT mk) (va_A (mwL ma mk v) H.size)) (va_A (mwL ma mk v) H.size)) mc ms (va_A (mwL ma mk v) H.size)) (cw : CallW room_1 s args own RX5 index y bytes maxL ret wq rm mc ms n) (hL : lawH D s u ma mk v H locs)
    (hn : As.length = n) (hsize : ls.size = nL) (hstack : st0 = As.reverse ++ .ref (ma 0) :: rest) (hW : (rest.map fun v => v.category).sum ≤ 8) (hdg : decode cc pc = .ok (.invokevirtual index, 3)) (hf : cells + mc ≤ 600000 ∧ slots + ms ≤ 7302250)
    (kk : ∀ (u' : MSt) (H1 : Heap) (locs1 : List Loc), post u' → lawH D s u ma mk u' H1 locs1 → W p l e room_1 s m args below meth c H1 locs1 (cells + mc) (slots + ms) Q (F0 m (pc + 3) ls rest)) : W p l e room_1 s m args below meth c H locs cells slots Q (F0 m pc ls st0) := by
  obtain ⟨hP, hD, hK, hS⟩ := hL
  exact kVv (wr := (xwL u)) (tr := (xT u.2.1)) SF hM cw (va_recv hK hP (ci := 5) (q0 := 24) rfl rfl) hP hK hD hS (fun _ h => h) [24, 25, 26, 27, 28, 29, 30, 31, 32, 33, 34, 35, 36] [0, 1, 2, 3, 4, 5, 6, 7, 8, 9, 10, 11, 12, 13, 14, 15, 16, 17, 18, 19, 20, 21, 22, 23] [16, 17, 18, 19, 20, 21, 22, 23, 24, 25, 26, 27] [0, 1, 2, 3, 4, 5, 6, 7, 8, 9, 10, 11, 12, 13, 14, 15] rfl rfl rfl rfl (by decide) rfl rfl hn hsize hstack hW hdg hf (fun u' H1 locs1 hw hP hD hK hS => kk u' H1 locs1 hw ⟨hP, hD, hK, hS⟩)
theorem lXZ {post : Int32 → XSt → Prop} (SF : CallFix p m c cc nL s args Ts own) (hM : Met l y wq rm (va_Pc (.ref (u.1 0) :: As) (PWZ D (xwL u) (xT u.2.1) H.size ak adK adV)) (va_Qi post (QW D (fun u : XSt => xW u.1 u.2.1 u.2.2.1 u.2.2.2.1 u.2.2.2.2) (fun u : XSt => xT u.2.1) (va_A (xwL u) H.size)) (va_A (xwL u) H.size)) mc ms (va_A (xwL u) H.size)) (cw : CallW room_1 s args own RX4 index y bytes maxL ret wq rm mc ms n) (hL : lawH D s u ma mk v H locs) (hZ : zz ak adK adV (fun q : Nat => s.heap.size ≤ q) s s.heap)
    (hn : As.length = n) (hsize : ls.size = nL) (hstack : st0 = As.reverse ++ .ref (u.1 0) :: rest) (hW : (rest.map fun v => v.category).sum ≤ 8) (hdg : decode cc pc = .ok (.invokevirtual index, 3)) (hf : cells + mc ≤ 600000 ∧ slots + ms ≤ 7302250)
    (kk : ∀ (r : Int32) (u' : XSt) (H1 : Heap) (locs1 : List Loc), post r u' → lawH D s u' ma mk v H1 locs1 → W p l e room_1 s m args below meth c H1 locs1 (cells + mc) (slots + ms) Q (F0 m (pc + 3) ls (.int r :: rest))) : W p l e room_1 s m args below meth c H locs cells slots Q (F0 m pc ls st0) := by
  obtain ⟨hP, hD, hK, hS⟩ := hL
  exact kViZ (wr := (mwL ma mk v)) (tr := (mT mk)) SF hM cw (va_recv hK hP (ci := 4) (q0 := 0) rfl rfl) hP hK hD hS (fun _ h => h) hZ [0, 1, 2, 3, 4, 5, 6, 7, 8, 9, 10, 11, 12, 13, 14, 15, 16, 17, 18, 19, 20, 21, 22, 23] [24, 25, 26, 27, 28, 29, 30, 31, 32, 33, 34, 35, 36] [0, 1, 2, 3, 4, 5, 6, 7, 8, 9, 10, 11, 12, 13, 14, 15] [16, 17, 18, 19, 20, 21, 22, 23, 24, 25, 26, 27] rfl rfl rfl rfl (by decide) rfl rfl hn hsize hstack hW hdg hf (fun r u' H1 locs1 hw hP hD hK hS => kk r u' H1 locs1 hw ⟨hP.sub [13, 14, 15, 16, 17, 18, 19, 20, 21, 22, 23, 24, 25, 26, 27, 28, 29, 30, 31, 32, 33, 34, 35, 36, 0, 1, 2, 3, 4, 5, 6, 7, 8, 9, 10, 11, 12] rfl, hD.sub [13, 14, 15, 16, 17, 18, 19, 20, 21, 22, 23, 24, 25, 26, 27, 28, 29, 30, 31, 32, 33, 34, 35, 36, 0, 1, 2, 3, 4, 5, 6, 7, 8, 9, 10, 11, 12] rfl rfl, hK.sub [12, 13, 14, 15, 16, 17, 18, 19, 20, 21, 22, 23, 24, 25, 26, 27, 0, 1, 2, 3, 4, 5, 6, 7, 8, 9, 10, 11] rfl, hS⟩)
theorem lXr {v0 : Int32} (SF : CallFix p m c cc nL s args Ts own) (hM : Met l y wq rm (va_Pc (.ref (u.1 0) :: As) (PR D (xwL u) (xT u.2.1))) (QrI v0) 0 0 (fun _ => False)) (cw : CallW room_1 s args own RX4 index y bytes maxL ret wq rm 0 0 n) (hL : lawH D s u ma mk v H locs)
    (hn : As.length = n) (hsize : ls.size = nL) (hstack : st0 = As.reverse ++ .ref (u.1 0) :: rest) (hW : (rest.map fun v => v.category).sum ≤ 8) (hdg : decode cc pc = .ok (.invokevirtual index, 3)) (hf : cells ≤ 600000 ∧ slots ≤ 7302250)
    (kk : W p l e room_1 s m args below meth c H locs cells slots Q (F0 m (pc + 3) ls (.int v0 :: rest))) : W p l e room_1 s m args below meth c H locs cells slots Q (F0 m pc ls st0) := by
  obtain ⟨hP, hD, hK, hS⟩ := hL
  exact cVi SF hM cw fbR (va_recv hK hP (ci := 4) (q0 := 0) rfl rfl) (PR.of (hP.sub [0, 1, 2, 3, 4, 5, 6, 7, 8, 9, 10, 11, 12, 13, 14, 15, 16, 17, 18, 19, 20, 21, 22, 23] rfl) (hK.sub [0, 1, 2, 3, 4, 5, 6, 7, 8, 9, 10, 11, 12, 13, 14, 15] rfl)) hn hsize hstack hW hdg hf kk
theorem lMr {v0 : Int32} (SF : CallFix p m c cc nL s args Ts own) (hM : Met l y wq rm (va_Pc (.ref (ma 0) :: As) (PR D (mwL ma mk v) (mT mk))) (QrI v0) 0 0 (fun _ => False)) (cw : CallW room_1 s args own RX5 index y bytes maxL ret wq rm 0 0 n) (hL : lawH D s u ma mk v H locs)
    (hn : As.length = n) (hsize : ls.size = nL) (hstack : st0 = As.reverse ++ .ref (ma 0) :: rest) (hW : (rest.map fun v => v.category).sum ≤ 8) (hdg : decode cc pc = .ok (.invokevirtual index, 3)) (hf : cells ≤ 600000 ∧ slots ≤ 7302250)
    (kk : W p l e room_1 s m args below meth c H locs cells slots Q (F0 m (pc + 3) ls (.int v0 :: rest))) : W p l e room_1 s m args below meth c H locs cells slots Q (F0 m pc ls st0) := by
  obtain ⟨hP, hD, hK, hS⟩ := hL
  exact cVi SF hM cw fbR (va_recv hK hP (ci := 5) (q0 := 24) rfl rfl) (PR.of (hP.sub [24, 25, 26, 27, 28, 29, 30, 31, 32, 33, 34, 35, 36] rfl) (hK.sub [16, 17, 18, 19, 20, 21, 22, 23, 24, 25, 26, 27] rfl)) hn hsize hstack hW hdg hf kk
theorem lXrZ {v0 : Int32} (SF : CallFix p m c cc nL s args Ts own) (hM : Met l y wq rm (va_Pc (.ref (u.1 0) :: As) (PZ (PR D (xwL u) (xT u.2.1)) ak adK adV)) (QrI v0) 0 0 (fun _ => False)) (cw : CallW room_1 s args own RX4 index y bytes maxL ret wq rm 0 0 n) (hL : lawH D s u ma mk v H locs) (hZ : zz ak adK adV (fun q : Nat => s.heap.size ≤ q) s s.heap)
    (hn : As.length = n) (hsize : ls.size = nL) (hstack : st0 = As.reverse ++ .ref (u.1 0) :: rest) (hW : (rest.map fun v => v.category).sum ≤ 8) (hdg : decode cc pc = .ok (.invokevirtual index, 3)) (hf : cells ≤ 600000 ∧ slots ≤ 7302250)
    (kk : W p l e room_1 s m args below meth c H locs cells slots Q (F0 m (pc + 3) ls (.int v0 :: rest))) : W p l e room_1 s m args below meth c H locs cells slots Q (F0 m pc ls st0) := by
  obtain ⟨hP, hD, hK, hS⟩ := hL
  exact cVi SF hM cw fbZR (va_recv hK hP (ci := 4) (q0 := 0) rfl rfl) (zB (PR.of (hP.sub [0, 1, 2, 3, 4, 5, 6, 7, 8, 9, 10, 11, 12, 13, 14, 15, 16, 17, 18, 19, 20, 21, 22, 23] rfl) (hK.sub [0, 1, 2, 3, 4, 5, 6, 7, 8, 9, 10, 11, 12, 13, 14, 15] rfl)) hZ hS) hn hsize hstack hW hdg hf kk
/-- script[i + k] -/
theorem lS {b L : Nat} {xs : Nat → Int32} {i k : Nat} {kk0 : Int} {x1 x2 : Value} (hx : p.tables.exec = Jvm.exec) (hb : c.code = cc) (hX : va_X b L xs s s.heap) (hbl : b < s.heap.size) (hL : lawH D s u ma mk v H locs) (hl : lv_has ls 4 [(0, .ref b), (1, x1), (2, x2), (3, .int (nI i))]) (hi : i + k < L) (h3 : L ≤ 3072) (hk : Int32.ofInt kk0 = nI k)
    (d0 : decode cc pc = .ok (.aload_n 0, 1)) (d1 : decode cc (pc + 1) = .ok (.iload_n 3, 1)) (d2 : decode cc (pc + 2) = .ok (.iconst kk0, 1)) (d3 : decode cc (pc + 3) = .ok (.iadd, 1)) (d4 : decode cc (pc + 4) = .ok (.iaload, 1))
    (kk : W p l e R s m args below meth c H locs cells slots Q (F0 m (pc + 5) ls (.int (nI (aN (xs (i + k)))) :: rest))) : W p l e R s m args below meth c H locs cells slots Q (F0 m pc ls rest) := by
  refine lv_aload_n hx hb d0 rfl (lv_at hl 0 rfl) ?_
  refine lv_iload_n hx hb d1 rfl (lv_at hl 3 rfl) ?_
  refine lv_iconst (v := nI k) hx hb d2 hk ?_
  refine lv_iadd hx hb d3 ?_
  refine lv_topE (nI (i + k)) (nI_add i k) ?_
  refine va_sld hx hb hX hbl (Nat.not_le.mpr hbl) hL.2.2.2 (vp_in_nI hi (by omega)) d4 ?_
  rw [nI_clamp (show i + k < 2 ^ 31 by omega)]
  exact lv_topE (nI (aN (xs (i + k)))) (aN_eq _) kk
end LAWK

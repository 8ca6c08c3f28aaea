/-! LIB: truth values, natural forms, read-only contracts and their calls -/
theorem fa_lt (a b : Int32) : a < b ↔ a.toInt < b.toInt := Int32.lt_iff_toInt_lt
theorem fa_le (a b : Int32) : a ≤ b ↔ a.toInt ≤ b.toInt := Int32.le_iff_toInt_le
theorem fa_eq (a b : Int32) : a = b ↔ a.toInt = b.toInt := Int32.toInt_inj.symm
theorem nI_toIntG {a : Nat} (h : a < 2 ^ 32) : (nI a).toInt = if a < 2147483648 then (a : Int) else (a : Int) - 4294967296 := by
  show (BitVec.ofNat 32 a).toInt = _
  rw [BitVec.toInt_eq_toNat_cond, BitVec.toNat_ofNat, Nat.mod_eq_of_lt h]
  split <;> split <;> omega
theorem nI_eqG {a b : Nat} (ha : a < 2 ^ 32) (hb : b < 2 ^ 32) : nI a = nI b ↔ a = b := by
  rw [fa_eq, nI_toIntG ha, nI_toIntG hb]
  split <;> split <;> omega
theorem nI_ltG {a b : Nat} (ha : a < 2 ^ 32) (hb : b < 2 ^ 32) : nI a < nI b ↔ (a < b ∧ (2147483648 ≤ a ∨ b < 2147483648)) ∨ (2147483648 ≤ a ∧ b < 2147483648) := by
  rw [fa_lt, nI_toIntG ha, nI_toIntG hb]
  split <;> split <;> omega
theorem nI_leG {a b : Nat} (ha : a < 2 ^ 32) (hb : b < 2 ^ 32) : nI a ≤ nI b ↔ (a ≤ b ∧ (2147483648 ≤ a ∨ b < 2147483648)) ∨ (2147483648 ≤ a ∧ b < 2147483648) := by
  rw [fa_le, nI_toIntG ha, nI_toIntG hb]
  split <;> split <;> omega
theorem nI_z0 : (0 : Int32).toInt = 0 := by decide
theorem nI_lt0 {a : Nat} (ha : a < 2 ^ 32) : nI a < 0 ↔ 2147483648 ≤ a := by
  rw [fa_lt, nI_toIntG ha, nI_z0]
  split <;> omega
theorem nI_ge0 {a : Nat} (ha : a < 2 ^ 32) : 0 ≤ nI a ↔ a < 2147483648 := by
  rw [fa_le, nI_toIntG ha, nI_z0]
  split <;> omega
theorem nI_gt0 {a : Nat} (ha : a < 2 ^ 32) : 0 < nI a ↔ 0 < a ∧ a < 2147483648 := by
  rw [fa_lt, nI_toIntG ha, nI_z0]
  split <;> omega
theorem nI_le0 {a : Nat} (ha : a < 2 ^ 32) : nI a ≤ 0 ↔ a = 0 ∨ 2147483648 ≤ a := by
  rw [fa_le, nI_toIntG ha, nI_z0]
  split <;> omega
def bP (P : Prop) [Decidable P] : Int32 := if P then 1 else 0
theorem bP_t {P : Prop} [Decidable P] (h : ¬ bP P = 0) : P := by
  by_cases q : P
  · exact q
  · exact absurd (by simp [bP, q]) h
theorem bP_f {P : Prop} [Decidable P] (h : bP P = 0) : ¬ P := fun q => absurd h (by simp [bP, q])
theorem bP_1 {P : Prop} [Decidable P] (h : P) : (1 : Int32) = bP P := by simp [bP, h]
theorem bP_0 {P : Prop} [Decidable P] (h : ¬ P) : (0 : Int32) = bP P := by simp [bP, h]
theorem bP_c {P P' : Prop} [Decidable P] [Decidable P'] (h : P ↔ P') : bP P = bP P' := by
  by_cases q : P
  · rw [← bP_1 q, ← bP_1 (h.mp q)]
  · rw [← bP_0 q, ← bP_0 (fun z => q (h.mpr z))]
theorem bP_nar {P : Prop} [Decidable P] : narrow .boolean (.int (bP P)) = .int (bP P) := by
  by_cases q : P
  · rw [← bP_1 q]; rfl
  · rw [← bP_0 q]; rfl
theorem bP_fit {P : Prop} [Decidable P] : fits .boolean (.int (bP P)) = true := by
  by_cases q : P
  · rw [← bP_1 q]; rfl
  · rw [← bP_0 q]; rfl
def nA (g : Nat → Nat) : Nat → Int32 := fun j => nI (g j)
def lA (g : Nat → Nat) : Nat → Int64 := fun j => lN (g j)
def upN (g : Nat → Nat) (k v : Nat) : Nat → Nat := fun j => if j = k then v else g j
theorem upN_s {g : Nat → Nat} {k v : Nat} : upN g k v k = v := by simp [upN]
theorem upN_n {g : Nat → Nat} {k v j : Nat} (h : j ≠ k) : upN g k v j = g j := by simp [upN, h]
theorem nA_up (g : Nat → Nat) (k v : Nat) : upd (nA g) k (nI v) = nA (upN g k v) := by
  funext j; by_cases h : j = k <;> simp [upd, nA, upN, h]
theorem lA_up (g : Nat → Nat) (k v : Nat) : vp_updL (lA g) k (lN v) = lA (upN g k v) := by
  funext j; by_cases h : j = k <;> simp [vp_updL, lA, upN, h]
def RI (v : Int32) : Array Value → State → Outcome → State → Prop := vp_Si (fun r => r = v)
def RL (v : Int64) : Array Value → State → Outcome → State → Prop := vp_Sl (fun r => r = v)
def PU : State → Prop := fun _ => True
def PR (D : va_G) (ws : va_W) (tys : List (ClassId × FieldType)) : State → Prop := fun U => va_P D vwCl ws U.heap ∧ va_K D vwCl tys U
theorem fbU {av : List Value} : FrameBlind (va_Pc av PU) := fun _ _ _ _ q => q
theorem fbR {av : List Value} {D : va_G} {ws : va_W} {tys : List (ClassId × FieldType)} : FrameBlind (va_Pc av (PR D ws tys)) := fun a U g mk q => ⟨q.1, q.2.1, va_K.moved (u := U) (U := U.calling g mk a) (Vm.Alike.refl U.vm) q.2.2⟩
theorem PR.of {D : va_G} {ws : va_W} {tys : List (ClassId × FieldType)} {s : State} {H : Heap} (hP : va_P D vwCl ws H) (hK : va_K D vwCl tys s) : ∀ U : State, U.heap = H → s.WarmedH U.vm → PR D ws tys U := fun U hU hW => ⟨by rw [hU]; exact hP, va_K.moved hW.alike hK⟩
section LIB
variable {p : Program} {l : Launch} {e : Env} {R : Room} {s : State} {m : MethodId} {args : Array Value} {below : List Frame} {meth : Method} {c : Code} {H : Heap} {locs : List Loc} {cells slots : Nat} {Q : State → Prop}
variable {pc : Nat} {ls : Array Slot} {rest st0 : List Value}
theorem lv_topE {x : Int32} (y : Int32) (h : x = y) (k : W p l e R s m args below meth c H locs cells slots Q (F0 m pc ls (.int y :: rest))) : W p l e R s m args below meth c H locs cells slots Q (F0 m pc ls (.int x :: rest)) := h ▸ k
theorem lv_topEl {x : Int64} (y : Int64) (h : x = y) (k : W p l e R s m args below meth c H locs cells slots Q (F0 m pc ls (.long y :: rest))) : W p l e R s m args below meth c H locs cells slots Q (F0 m pc ls (.long x :: rest)) := h ▸ k
variable {Ts ws ws' : List Cond} {cc bytes : ByteArray} {nL maxL index n : Nat} {own C : String} {y : MethodName} {ret : Option FieldType} {rm : Room} {B : State → Prop} {b : Addr} {As : List Value}
theorem cSi {v : Int32} (S : CallFix p m c cc nL s args Ts own) (hM : Met l y ws rm (va_Pc As B) (RI v) 0 0 (fun _ => False)) (cw : CallB R s args own index y bytes maxL ret ws rm 0 0 n ∧ (Cond.static y).before args s = true) (hfb : FrameBlind (va_Pc As B)) (hB : ∀ U : State, U.heap = H → s.WarmedH U.vm → B U)
    (hn : As.length = n) (hsize : ls.size = nL) (hstack : st0 = As.reverse ++ rest) (hW : (rest.map fun v => v.category).sum ≤ 8) (hdg : decode cc pc = .ok (.invokestatic index, 3)) (hf : cells ≤ R.cells ∧ slots ≤ R.slots)
    (kk : W p l e R s m args below meth c H locs cells slots Q (F0 m (pc + 3) ls (.int v :: rest))) : W p l e R s m args below meth c H locs cells slots Q (F0 m pc ls st0) :=
  vp_callSi (W.runS S hM cw ⟨hfb, fun U hU hW => ⟨rfl, hB U hU hW⟩⟩ rfl hn hsize hstack (lv_room hW) hdg hf) (fun r er => by subst er; exact kk)
theorem cSl {v : Int64} (S : CallFix p m c cc nL s args Ts own) (hM : Met l y ws rm (va_Pc As B) (RL v) 0 0 (fun _ => False)) (cw : CallB R s args own index y bytes maxL ret ws rm 0 0 n ∧ (Cond.static y).before args s = true) (hfb : FrameBlind (va_Pc As B)) (hB : ∀ U : State, U.heap = H → s.WarmedH U.vm → B U)
    (hn : As.length = n) (hsize : ls.size = nL) (hstack : st0 = As.reverse ++ rest) (hW : (rest.map fun v => v.category).sum ≤ 8) (hdg : decode cc pc = .ok (.invokestatic index, 3)) (hf : cells ≤ R.cells ∧ slots ≤ R.slots)
    (kk : W p l e R s m args below meth c H locs cells slots Q (F0 m (pc + 3) ls (.long v :: rest))) : W p l e R s m args below meth c H locs cells slots Q (F0 m pc ls st0) :=
  vp_callSl (W.runS S hM cw ⟨hfb, fun U hU hW => ⟨rfl, hB U hU hW⟩⟩ rfl hn hsize hstack (lv_room hW) hdg hf) (fun r er => by subst er; exact kk)
theorem cVi {v : Int32} (S : CallFix p m c cc nL s args Ts own) (hM : Met l y ws rm (va_Pc (.ref b :: As) B) (RI v) 0 0 (fun _ => False)) (cw : CallW R s args own C index y bytes maxL ret ws rm 0 0 n) (hfb : FrameBlind (va_Pc (.ref b :: As) B)) (hrc : ∃ cellB : Cell, H[b]? = some cellB ∧ cellB.vm.isStatics = false ∧ s.vm.findClass C = some cellB.cls) (hB : ∀ U : State, U.heap = H → s.WarmedH U.vm → B U)
    (hn : As.length = n) (hsize : ls.size = nL) (hstack : st0 = As.reverse ++ .ref b :: rest) (hW : (rest.map fun v => v.category).sum ≤ 8) (hdg : decode cc pc = .ok (.invokevirtual index, 3)) (hf : cells ≤ R.cells ∧ slots ≤ R.slots)
    (kk : W p l e R s m args below meth c H locs cells slots Q (F0 m (pc + 3) ls (.int v :: rest))) : W p l e R s m args below meth c H locs cells slots Q (F0 m pc ls st0) :=
  vp_callSi (W.runV S hM cw ⟨hfb, hrc, fun U hU hW => ⟨rfl, hB U hU hW⟩⟩ rfl hn hsize hstack (lv_room hW) hdg hf) (fun r er => by subst er; exact kk)
theorem cVl {v : Int64} (S : CallFix p m c cc nL s args Ts own) (hM : Met l y ws rm (va_Pc (.ref b :: As) B) (RL v) 0 0 (fun _ => False)) (cw : CallW R s args own C index y bytes maxL ret ws rm 0 0 n) (hfb : FrameBlind (va_Pc (.ref b :: As) B)) (hrc : ∃ cellB : Cell, H[b]? = some cellB ∧ cellB.vm.isStatics = false ∧ s.vm.findClass C = some cellB.cls) (hB : ∀ U : State, U.heap = H → s.WarmedH U.vm → B U)
    (hn : As.length = n) (hsize : ls.size = nL) (hstack : st0 = As.reverse ++ .ref b :: rest) (hW : (rest.map fun v => v.category).sum ≤ 8) (hdg : decode cc pc = .ok (.invokevirtual index, 3)) (hf : cells ≤ R.cells ∧ slots ≤ R.slots)
    (kk : W p l e R s m args below meth c H locs cells slots Q (F0 m (pc + 3) ls (.long v :: rest))) : W p l e R s m args below meth c H locs cells slots Q (F0 m pc ls st0) :=
  vp_callSl (W.runV S hM cw ⟨hfb, hrc, fun U hU hW => ⟨rfl, hB U hU hW⟩⟩ rfl hn hsize hstack (lv_room hW) hdg hf) (fun r er => by subst er; exact kk)
theorem rti {v w : Int32} {cc : ByteArray} (hexec : p.tables.exec = Jvm.exec) (hb : c.code = cc) (hr : meth.sig.returnType = some .int) (hlocks : meth.locks = false) (hH : H = s.heap) (hv : v = w) {pc : Nat} {ls : Array Slot} (hdg : decode cc pc = .ok (.ireturn, 1)) : W p l e R s m args below meth c H [] cells slots (MQ below (RI w) args s cells slots (fun _ => False)) (F0 m pc ls [.int v]) :=
  W.iret hexec hb hr (fun t ht _ => ⟨v, rfl, hv, ht.trans hH⟩) (fun _ h => by cases h) hdg
theorem rtz {v w : Int32} {cc : ByteArray} {ty : FieldType} (hexec : p.tables.exec = Jvm.exec) (hb : c.code = cc) (hr : meth.sig.returnType = some ty) (hlocks : meth.locks = false) (hH : H = s.heap) (hn : narrow ty (.int v) = .int v) (hv : v = w) {pc : Nat} {ls : Array Slot} (hdg : decode cc pc = .ok (.ireturn, 1)) : W p l e R s m args below meth c H [] cells slots (MQ below (RI w) args s cells slots (fun _ => False)) (F0 m pc ls [.int v]) :=
  W.zret hexec hb hr hn (fun t ht _ => ⟨v, rfl, hv, ht.trans hH⟩) (fun _ h => by cases h) hdg
theorem rtl {v w : Int64} {cc : ByteArray} (hexec : p.tables.exec = Jvm.exec) (hb : c.code = cc) (hr : meth.sig.returnType = some .long) (hlocks : meth.locks = false) (hH : H = s.heap) (hv : v = w) {pc : Nat} {ls : Array Slot} (hdg : decode cc pc = .ok (.lreturn, 1)) : W p l e R s m args below meth c H [] cells slots (MQ below (RL w) args s cells slots (fun _ => False)) (F0 m pc ls [.long v]) :=
  W.lret hexec hb hr (fun t ht _ => ⟨v, rfl, hv, ht.trans hH⟩) (fun _ h => by cases h) hdg
end LIB

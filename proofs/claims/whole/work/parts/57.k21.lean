/-- a token taken, by its first byte -/
def takS (h : Nat) (x : PT9) (tx : Nat → Nat) (p e : Nat) : Nat × PT9 := if isLt (tx p) then nameS x (sortC tx p e) else if isDg (tx p) then numS h x (numR tx p (e - p)) else if tx p = 59 ∧ ¬ x.1 = 9 ∧ x.2.1 = numC x.1 then (0, (9, 0, x.2.2.1 + 1, x.2.2.2.1, x.2.2.2.2)) else (1, x)
theorem tk_name {h : Nat} {x : PT9} {tx : Nat → Nat} {p e ft pl : Nat} {u : RSt} (hl : isLt (tx p)) (hp : tkPost (nameS x (sortC tx p e)) ft pl p u) : tkPost (takS h x tx p e) ft pl p u := by unfold takS; rw [if_pos hl]; exact hp
theorem tk_num {h : Nat} {x : PT9} {tx : Nat → Nat} {p e ft pl : Nat} {u : RSt} (hl : ¬ isLt (tx p)) (hd : isDg (tx p)) (hp : tkPost (numS h x (numR tx p (e - p))) ft pl p u) : tkPost (takS h x tx p e) ft pl p u := by unfold takS; rw [if_neg hl, if_pos hd]; exact hp
theorem tk_bad {h : Nat} {x : PT9} {tx : Nat → Nat} {p e ft pl sr gv n : Nat} {so nu : Nat → Nat} (hb : (∀ j, so j < 2147483648 ∧ nu j < 2147483648) ∧ gv < 2147483648) (hn : n ≤ 7) (hl : ¬ isLt (tx p)) (hd : ¬ isDg (tx p)) (hq : ¬ (tx p = 59 ∧ ¬ x.1 = 9 ∧ x.2.1 = numC x.1)) : tkPost (takS h x tx p e) ft pl p (1, p, sr, gv, n, so, nu) := by
  have e1 : takS h x tx p e = (1, x) := by unfold takS; rw [if_neg hl, if_neg hd, if_neg hq]
  rw [e1]
  exact ⟨fun q => absurd (show 1 = 0 from q) (by decide), fun _ => ⟨rfl, rfl, hn⟩, hb⟩
theorem tk_gv {x : PT9} {sr gv n : Nat} {so nu : Nat → Nat} (h : relS x sr gv n so nu) (q : ¬ x.1 = 9) : gv = x.2.1 := (h.2.1 q).2
theorem tk_nc {x : PT9} {sr gv n : Nat} {so nu : Nat → Nat} (h : relS x sr gv n so nu) (q : ¬ x.1 = 9) : numC x.1 = numC sr := by rw [(h.2.1 q).1]
theorem tk_end {h : Nat} {x : PT9} {tx : Nat → Nat} {p e ft pl sr gv n m k : Nat} {so nu : Nat → Nat} (hx : relS x sr gv n so nu) (hs : x.1 = 9 ∨ (x.1 < 9 ∧ m < 7 ∧ x.2.1 ≤ k)) (hb : (∀ j, so j < 2147483648 ∧ nu j < 2147483648) ∧ gv < 2147483648) (hl : ¬ isLt (tx p)) (hd : ¬ isDg (tx p)) (h59 : tx p = 59) (h9 : ¬ sr = 4294967295) (hg : gv = numC sr) : tkPost (takS h x tx p e) ft pl p (ft, pl, 4294967295, gv, n + 1, so, nu) := by
  have q : ¬ x.1 = 9 := fun z => h9 ((rel_9 hx hs).mpr z)
  have e1 : takS h x tx p e = (0, (9, 0, x.2.2.1 + 1, x.2.2.2.1, x.2.2.2.2)) := by
    unfold takS; rw [if_neg hl, if_neg hd, if_pos ⟨h59, q, by rw [← tk_gv hx q, tk_nc hx q]; exact hg⟩]
  rw [e1]
  exact ⟨fun _ => ⟨rfl, rfl, fun _ => rfl, fun z => absurd rfl z, by show n + 1 = x.2.2.1 + 1; rw [hx.2.2.1], hx.2.2.2.1, hx.2.2.2.2⟩, fun z => absurd rfl z, hb⟩
def okX (x : PT9) : Prop := x.2.2.1 ≤ 7 ∧ (x.1 = 9 ∨ (x.1 < 9 ∧ x.2.2.1 < 7 ∧ x.2.1 ≤ arM x.1))
theorem okX_0 {so nu : Nat → Nat} {f : Nat} : f = 0 → okX (9, 0, 0, so, nu) := fun _ => ⟨Nat.zero_le 7, Or.inl rfl⟩
theorem okX_s {x : PT9} {sr gv n : Nat} {so nu : Nat → Nat} (h : okX x) (hx : relS x sr gv n so nu) : x.1 = 9 ∨ (x.1 < 9 ∧ n < 7 ∧ x.2.1 ≤ arM x.1) := by rw [hx.2.2.1]; exact h.2
theorem kind_ar : ∀ s, s < 9 → ∀ w, w < 4 → (¬ kindC s w = 0 ↔ w < arM s) := by decide +kernel
theorem num_ar : ∀ s, s < 9 → numC s = arM s := by decide +kernel
theorem tak_ok {h : Nat} {x : PT9} {tx : Nat → Nat} {p e : Nat} (ho : okX x) (hz : (takS h x tx p e).1 = 0) : okX (takS h x tx p e).2 := by
  unfold takS at hz ⊢
  split
  · rename_i hl
    rw [if_pos hl] at hz
    unfold nameS at hz ⊢
    split
    · rename_i h9
      rw [if_pos h9] at hz
      split
      · rename_i hw; rw [if_pos hw] at hz; exact absurd (show 1 = 0 from hz) (by decide)
      · rename_i hw
        rw [if_neg hw] at hz
        split
        · rename_i h7; rw [if_pos h7] at hz; exact absurd (show 3 = 0 from hz) (by decide)
        · rename_i h7
          have := sortC_or tx p e
          exact ⟨ho.1, Or.inr ⟨by show sortC tx p e < 9; omega, by show x.2.2.1 < 7; omega, Nat.zero_le _⟩⟩
    · exact ho
  · rename_i hl
    rw [if_neg hl] at hz
    split
    · rename_i hd
      rw [if_pos hd] at hz
      unfold numS at hz ⊢
      split
      · exact ho
      · rename_i h9
        rw [if_neg h9] at hz
        split
        · exact ho
        · rename_i hk
          rw [if_neg hk] at hz
          split
          · have k4 := kind_lt4 hk
            have ka := (kind_ar x.1 k4.1 x.2.1 k4.2).mp hk
            have := ho.2
            exact ⟨ho.1, Or.inr ⟨k4.1, by show x.2.2.1 < 7; omega, by show x.2.1 + 1 ≤ arM x.1; omega⟩⟩
          · exact ho
    · split
      · rename_i q
        have := ho.2
        exact ⟨by show x.2.2.1 + 1 ≤ 7; omega, Or.inl rfl⟩
      · exact ho
def runR (tx : Nat → Nat) (n h : Nat) : Nat → Nat → PT9 → Nat × Nat × PT9
  | 0, a, x => (0, a, x)
  | c + 1, a, x => if n ≤ a then (if x.1 = 9 then 0 else 1, n, x) else if isBlank (tx a) then runR tx n h c (a + 1) x else if (takS h x tx a (endR tx n a)).1 = 0 then runR tx n h c (endR tx n a) (takS h x tx a (endR tx n a)).2 else ((takS h x tx a (endR tx n a)).1, a, (takS h x tx a (endR tx n a)).2)
theorem takS_le3 {h : Nat} {x : PT9} {tx : Nat → Nat} {p e : Nat} : (takS h x tx p e).1 ≤ 3 := by
  unfold takS
  split
  · unfold nameS
    split
    · split
      · show 1 ≤ 3; decide
      · split
        · show 3 ≤ 3; decide
        · show 0 ≤ 3; decide
    · show 1 ≤ 3; decide
  · split
    · unfold numS
      split
      · show 1 ≤ 3; decide
      · split
        · show 1 ≤ 3; decide
        · split
          · show 0 ≤ 3; decide
          · show 2 ≤ 3; decide
    · split
      · show 0 ≤ 3; decide
      · show 1 ≤ 3; decide
theorem runR_le3 {tx : Nat → Nat} {n h : Nat} : ∀ (c a : Nat) (x : PT9), (runR tx n h c a x).1 ≤ 3 := by
  intro c
  induction c with
  | zero => intro a x; exact Nat.zero_le 3
  | succ c ih =>
    intro a x
    rw [runR]
    split
    · show (if x.1 = 9 then 0 else 1) ≤ 3
      split <;> decide
    · split
      · exact ih _ _
      · split
        · exact ih _ _
        · exact takS_le3
theorem rd_run {f pl : Nat} {P Q S : Prop} (h : (f = 0 ∧ pl = 4294967295 ∧ P ∧ Q) ∨ (f ≠ 0 ∧ S)) (he : f = 0) : pl = 4294967295 ∧ P ∧ Q := h.elim (fun q => q.2) (fun q => absurd he q.1)
theorem rd_blank {tx : Nat → Nat} {nn h cf at_ ee ft pl n1 : Nat} {x : PT9} {R : Nat × Nat × PT9} (hrun : runR tx nn h cf (max at_ ee) x = R) (hlt : at_ < nn) (hge : ¬ at_ < ee) (hb : isBlank (tx at_)) (he : ft = 0) (hp : pl = 4294967295) (hcf : nn - max at_ ee < cf) : (ft = 0 ∧ pl = 4294967295 ∧ nn - max (at_ + 1) ee < cf - 1 ∧ runR tx nn h (cf - 1) (max (at_ + 1) ee) x = R) ∨ (ft ≠ 0 ∧ R.1 = ft ∧ R.2.1 = pl ∧ n1 ≤ 7) := by
  refine Or.inl ⟨he, hp, by omega, ?_⟩
  rw [show max at_ ee = at_ by omega, show cf = (cf - 1) + 1 by omega, runR, if_neg (by omega), if_pos hb] at hrun
  rw [show max (at_ + 1) ee = at_ + 1 by omega]
  exact hrun
theorem rd_tok {tx : Nat → Nat} {nn h cf at_ ee ft pl ft' pl' sr' gv' n' : Nat} {so' nu' : Nat → Nat} {x : PT9} {R : Nat × Nat × PT9} (hrun : runR tx nn h cf at_ x = R) (hlt : at_ < nn) (hee : ee ≤ at_) (hb : ¬ isBlank (tx at_)) (hu : tkPost (takS h x tx at_ (endR tx nn at_)) ft pl at_ (ft', pl', sr', gv', n', so', nu')) (he : ft = 0) (hp : pl = 4294967295) (hcf : nn - at_ < cf) : (ft' = 0 ∧ pl' = 4294967295 ∧ nn - max (at_ + 1) (endR tx nn at_) < cf - 1 ∧ runR tx nn h (cf - 1) (max (at_ + 1) (endR tx nn at_)) (takS h x tx at_ (endR tx nn at_)).2 = R) ∨ (ft' ≠ 0 ∧ R.1 = ft' ∧ R.2.1 = pl' ∧ n' ≤ 7) := by
  have hr := endR_le (tx := tx) hlt
  rw [show cf = (cf - 1) + 1 by omega, runR, if_neg (by omega), if_neg hb] at hrun
  by_cases q : (takS h x tx at_ (endR tx nn at_)).1 = 0
  · rw [if_pos q] at hrun
    obtain ⟨a, b, -⟩ := hu.1 q
    exact Or.inl ⟨a.trans he, b.trans hp, by omega, by rw [show max (at_ + 1) (endR tx nn at_) = endR tx nn at_ by omega]; exact hrun⟩
  · rw [if_neg q] at hrun
    obtain ⟨a, b, d⟩ := hu.2.1 q
    have a : ft' = _ := a
    have b : pl' = _ := b
    exact Or.inr ⟨by rw [a]; exact q, by rw [← hrun, a], by rw [← hrun, b], d⟩
theorem rd_ok {tx : Nat → Nat} {h at_ e ft pl ft' pl' sr' gv' n' : Nat} {so' nu' : Nat → Nat} {x : PT9} (ho : okX x) (hu : tkPost (takS h x tx at_ e) ft pl at_ (ft', pl', sr', gv', n', so', nu')) : ft' = 0 → okX (takS h x tx at_ e).2 := fun z => by
  by_cases q : (takS h x tx at_ e).1 = 0
  · exact tak_ok ho q
  · exact absurd ((hu.2.1 q).1.symm.trans z) q
theorem rd_rl {tx : Nat → Nat} {h at_ e ft pl ft' pl' sr' gv' n' : Nat} {so' nu' : Nat → Nat} {x : PT9} (hu : tkPost (takS h x tx at_ e) ft pl at_ (ft', pl', sr', gv', n', so', nu')) : ft' = 0 → relS (takS h x tx at_ e).2 sr' gv' n' so' nu' := fun z => by
  by_cases q : (takS h x tx at_ e).1 = 0
  · exact (hu.1 q).2.2
  · exact absurd ((hu.2.1 q).1.symm.trans z) q
theorem endR_dg {tx : Nat → Nat} {n p j : Nat} (hd : isDg (tx p)) (h1 : p ≤ j) (h2 : j < endR tx n p) : isDg (tx j) := by
  have hl : ¬ isLt (tx p) := fun q => by unfold isLt at q; unfold isDg at hd; omega
  rw [endR_d hl hd] at h2
  have key : ∀ k a, k = n - a → a ≤ j → j < scF tx n (fun c => decide (isDg c)) k a → isDg (tx j) := by
    intro k
    induction k with
    | zero => intro a _ ha hj; rw [scF] at hj; omega
    | succ k ih =>
      intro a hk ha hj
      rw [scF] at hj
      split at hj
      · rename_i z
        by_cases w : j = a
        · rw [w]; exact of_decide_eq_true z.2
        · exact ih (a + 1) (by omega) (by omega) hj
      · omega
  exact key _ p rfl h1 h2
def rdPost (R : Nat × Nat × PT9) (u : RSt) : Prop := u.1 = R.1 ∧ (R.1 ≠ 0 → u.2.1 = R.2.1) ∧ (R.1 = 0 → u.2.1 = 4294967295 ∧ u.2.2.2.2.1 = R.2.2.2.2.1 ∧ u.2.2.2.2.2.1 = R.2.2.2.2.2.1 ∧ u.2.2.2.2.2.2 = R.2.2.2.2.2.2) ∧ (∀ j, u.2.2.2.2.2.1 j < 2147483648 ∧ u.2.2.2.2.2.2 j < 2147483648) ∧ u.2.2.2.1 < 2147483648
theorem rd_fault {P Q : Prop} {R : Nat × Nat × PT9} {ft pl sr gv n : Nat} {so nu : Nat → Nat} (h : (ft = 0 ∧ P) ∨ (ft ≠ 0 ∧ R.1 = ft ∧ R.2.1 = pl ∧ Q)) (hb : (∀ j, so j < 2147483648 ∧ nu j < 2147483648) ∧ gv < 2147483648) (hn : ¬ ft = 0) : rdPost R (ft, pl, sr, gv, n, so, nu) := by
  rcases h with h | ⟨-, a, b, -⟩
  · exact absurd h.1 hn
  · exact ⟨a.symm, fun _ => b.symm, fun z => absurd (a.symm.trans z) hn, hb⟩
theorem rd_end {tx : Nat → Nat} {nn h cf at_ ee ft pl sr gv n : Nat} {so nu : Nat → Nat} {x : PT9} {R : Nat × Nat × PT9} {Q : Prop} (hI : (ft = 0 ∧ pl = 4294967295 ∧ nn - max at_ ee < cf ∧ runR tx nn h cf (max at_ ee) x = R) ∨ (ft ≠ 0 ∧ Q)) (hok : ft = 0 → okX x) (hrl : ft = 0 → relS x sr gv n so nu) (hz : ft = 0) (hat : nn ≤ at_) (hle : at_ ≤ nn ∧ ee ≤ nn) : ft = 0 ∧ pl = 4294967295 ∧ R = (if x.1 = 9 then 0 else 1, nn, x) ∧ okX x ∧ relS x sr gv n so nu := by
  rcases hI with ⟨a, b, c, d⟩ | q
  · refine ⟨a, b, ?_, hok hz, hrl hz⟩
    rw [← d, show cf = (cf - 1) + 1 by omega, runR, if_pos (by omega)]
  · exact absurd hz q.1
theorem rd_good {x : PT9} {nn ft pl sr gv n : Nat} {so nu : Nat → Nat} {R : Nat × Nat × PT9} (h : ft = 0 ∧ pl = 4294967295 ∧ R = (if x.1 = 9 then 0 else 1, nn, x) ∧ okX x ∧ relS x sr gv n so nu) (hb : (∀ j, so j < 2147483648 ∧ nu j < 2147483648) ∧ gv < 2147483648) (hs : sr = 4294967295) : rdPost R (ft, pl, sr, gv, n, so, nu) := by
  obtain ⟨rfl, rfl, hR, ho, hr⟩ := h
  have h9 : x.1 = 9 := (rel_9 hr (okX_s ho hr)).mp hs
  rw [if_pos h9] at hR
  subst hR
  exact ⟨rfl, fun z => absurd rfl z, fun _ => ⟨rfl, hr.2.2.1, hr.2.2.2.1, hr.2.2.2.2⟩, hb⟩
theorem rd_open {x : PT9} {nn ft pl sr gv n : Nat} {so nu : Nat → Nat} {R : Nat × Nat × PT9} (h : ft = 0 ∧ pl = 4294967295 ∧ R = (if x.1 = 9 then 0 else 1, nn, x) ∧ okX x ∧ relS x sr gv n so nu) (hb : (∀ j, so j < 2147483648 ∧ nu j < 2147483648) ∧ gv < 2147483648) (hs : ¬ sr = 4294967295) : rdPost R (1, nn, sr, gv, n, so, nu) := by
  obtain ⟨rfl, rfl, hR, ho, hr⟩ := h
  have h9 : ¬ x.1 = 9 := fun z => hs ((rel_9 hr (okX_s ho hr)).mpr z)
  rw [if_neg h9] at hR
  subst hR
  exact ⟨rfl, fun _ => rfl, fun z => absurd (show 1 = 0 from z) (by decide), hb⟩
set_option maxHeartbeats 4000000 in
set_option maxRecDepth 100000 in
theorem c_X2_take (l : Launch) (D : va_G) (ro ft pl sr gv : Nat) (ta : Nat) (kt : ClassId) (tx : Nat → Nat) (pa pb pc : Nat) (kb kc : ClassId) (n : Nat) (so nu : Nat → Nat) (ak : Nat) (adK adV : Nat → Nat) (x : PT9) (sz : Nat) (pp : Nat) (ee : Nat) (h : Nat) (hx9 : relS x sr gv n so nu) (hn9 : n ≤ 7) (hsr : x.1 = 9 ∨ (x.1 < 9 ∧ n < 7 ∧ x.2.1 ≤ arM x.1)) (hbb : (∀ j, so j < 2147483648 ∧ nu j < 2147483648) ∧ gv < 2147483648) (hpe : pp < ee) (hee : ee ≤ 200) (htx : ∀ j, tx j < 4294967296) (hdd : isDg (tx pp) → ∀ j, pp ≤ j → j < ee → isDg (tx j)) (hh : h < 2) : Met l yX2_take (.code yX2_take cX2_take 6 none :: wsL_law) ({ frames := 7, cells := 0, slots := 0, locals := 157 }) (va_Pc [.ref ro, .ref ta, .int (nI pp), .int (nI ee), .int (nI h), .ref pa] (PWZ D (qW ro ft pl sr gv ta kt tx pa pb pc kb kc n so nu) (qT kt kb kc) sz ak adK adV)) (va_Qv (fun u : RSt => tkPost (takS h x tx pp ee) ft pl pp u) (QW D (fun u : RSt => qW ro u.1 u.2.1 u.2.2.1 u.2.2.2.1 ta kt tx pa pb pc kb kc u.2.2.2.2.1 u.2.2.2.2.2.1 u.2.2.2.2.2.2) (fun _ => qT kt kb kc) (va_A (qW ro ft pl sr gv ta kt tx pa pb pc kb kc n so nu) sz)) (va_A (qW ro ft pl sr gv ta kt tx pa pb pc kb kc n so nu) sz)) 0 0 (va_A (qW ro ft pl sr gv ta kt tx pa pb pc kb kc n so nu) sz) := by
  refine Met.ofW (cc := cX2_take) (maxL := 6) (ret := none) (by decide) rfl ?_
  intro p e s m args below meth c s₁ B hml hv
  obtain ⟨rfl, ⟨hsz, hP, hK, hD0⟩, hZ⟩ := hv
  have hx := B.exec
  have hb := B.bytes
  have hr := B.returns
  have hts := atoms_spec (ws := .code yX2_take cX2_take 6 none :: wsL_law) B.pre
  have hU : ∀ w ∈ wsL_law, w.before _ s = true := fun w h => hts w (List.mem_cons_of_mem _ h)
  have hown : s.vm.findClass RX2 = some m.cls := findClass_of_methodNamed B.named
  have hlocks := B.notSynchronized
  subst hsz
  have hD := hD0.self (sz := s.heap.size)
  generalize hAe : va_A (qW ro ft pl sr gv ta kt tx pa pb pc kb kc n so nu) s.heap.size = Ar at hD hZ ⊢
  have hA : ∀ q : Nat, s.heap.size ≤ q → Ar q := fun q h => by rw [← hAe]; exact Or.inr h
  have hS : va_S Ar s.heap s.heap [] := va_S.rf
  have hP : va_P D vwCl [(ro, .inr (2, [.int (nI ft), .int (nI pl), .int (nI sr), .int (nI gv)])), (ta, .inl (kt, 200, .inl (nA tx))), (pa, .inr (1, [.int (nI n), .ref pb, .ref pc])), (pb, .inl (kb, 8, .inl (nA so))), (pc, .inl (kc, 32, .inl (nA nu)))] s.heap := hP
  have hD : va_D Ar [(ro, .inr (2, [.int (nI ft), .int (nI pl), .int (nI sr), .int (nI gv)])), (ta, .inl (kt, 200, .inl (nA tx))), (pa, .inr (1, [.int (nI n), .ref pb, .ref pc])), (pb, .inl (kb, 8, .inl (nA so))), (pc, .inl (kc, 32, .inl (nA nu)))] := hD
  generalize hQ : MQ _ _ _ _ _ _ _ = Q
  have hl := lv_entry ([.ref ro, .ref ta, .int (nI pp), .int (nI ee), .int (nI h), .ref pa]) (n := 6) (Nat.le_of_ble_eq_true rfl)
  rw [lg_entry_eq]
  generalize (lg_sl ([.ref ro, .ref ta, .int (nI pp), .int (nI ee), .int (nI h), .ref pa]) ++ List.replicate (6 - (lg_sl ([.ref ro, .ref ta, .int (nI pp), .int (nI ee), .int (nI h), .ref pa])).length) Slot.unset).toArray = ls at hl ⊢
  have hl : lv_has ls 6 [(0, .ref ro), (1, .ref ta), (2, .int (nI pp)), (3, .int (nI ee)), (4, .int (nI h)), (5, .ref pa)] := hl
  have hsr9 : sr < 4294967296 := rel_sr hx9 hsr
  have hgv := hbb.2
  refine lv_aload_n hx hb dX2_take_0 rfl (lv_at hl 1 rfl) ?_
  refine lv_iload_n hx hb dX2_take_1 rfl (lv_at hl 2 rfl) ?_
  refine n_bald hx hb hK hP 1 0 rfl rfl (i := pp) (by omega) (by decide) dX2_take_2 ?_
  have hb_1 := htx  pp
  refine cSi (As := [.int (nI (tx pp))]) (rest := []) ⟨hx, hb, hml, hown, hts⟩ (c_X2_isLetter l  (tx pp) (by omega)) (va_cwS 1 hts (gS mU_140 mU_141 mU_18 mU_142) rfl rfl rfl (by decide +kernel) ⟨Nat.le_of_ble_eq_true rfl, Nat.le_of_ble_eq_true rfl⟩) fbU (fun _ _ _ => trivial) rfl hl.1 rfl (Nat.le_of_ble_eq_true rfl) dX2_take_3 ⟨Nat.zero_le _, Nat.zero_le _⟩ ?_
  refine lv_if_eq (tgt := 21) hx hb dX2_take_6 (by decide) (fun c6_2 => ?_) (fun c6_2 => ?_)
  · have c6_2 : ¬ (isLt (tx pp)) := bP_f c6_2
    refine lv_aload_n hx hb dX2_take_21 rfl (lv_at hl 1 rfl) ?_
    refine lv_iload_n hx hb dX2_take_22 rfl (lv_at hl 2 rfl) ?_
    refine n_bald hx hb hK hP 1 0 rfl rfl (i := pp) (by omega) (by decide) dX2_take_23 ?_
    have hb_3 := htx  pp
    refine cSi (As := [.int (nI (tx pp))]) (rest := []) ⟨hx, hb, hml, hown, hts⟩ (c_X2_isDigit l  (tx pp) (by omega)) (va_cwS 1 hts (gS mU_143 mU_144 mU_18 mU_145) rfl rfl rfl (by decide +kernel) ⟨Nat.le_of_ble_eq_true rfl, Nat.le_of_ble_eq_true rfl⟩) fbU (fun _ _ _ => trivial) rfl hl.1 rfl (Nat.le_of_ble_eq_true rfl) dX2_take_24 ⟨Nat.zero_le _, Nat.zero_le _⟩ ?_
    refine lv_if_eq (tgt := 44) hx hb dX2_take_27 (by decide) (fun c27_4 => ?_) (fun c27_4 => ?_)
    · have c27_4 : ¬ (isDg (tx pp)) := bP_f c27_4
      refine lv_aload_n hx hb dX2_take_44 rfl (lv_at hl 1 rfl) ?_
      refine lv_iload_n hx hb dX2_take_45 rfl (lv_at hl 2 rfl) ?_
      refine n_bald hx hb hK hP 1 0 rfl rfl (i := pp) (by omega) (by decide) dX2_take_46 ?_
      have hb_5 := htx  pp
      refine lv_bipush (v := nI 59) hx hb dX2_take_47 (by decide) ?_
      refine lv_icmp_ne (tgt := 93) hx hb dX2_take_49 (by decide) (fun c49_6 => ?_) (fun c49_6 => ?_)
      · have c49_6 : ¬ (tx pp = 59) := fun h9 => c49_6 ((nI_eqG (a := tx pp) (b := 59) (by omega) (by omega)).mpr h9)
        refine lv_aload_n hx hb dX2_take_93 rfl (lv_at hl 0 rfl) ?_
        refine lv_iconst (v := nI 1) hx hb dX2_take_94 (by decide) ?_
        refine lv_iload_n hx hb dX2_take_95 rfl (lv_at hl 2 rfl) ?_
        refine kVv (As := [.int (nI 1), .int (nI pp)]) (rest := []) (wr := [(ta, .inl (kt, 200, .inl (nA tx))), (pa, .inr (1, [.int (nI n), .ref pb, .ref pc])), (pb, .inl (kb, 8, .inl (nA so))), (pc, .inl (kc, 32, .inl (nA nu)))]) ⟨hx, hb, hml, hown, hts⟩ (c_X2_refuse l D ro ft pl sr gv s.heap.size 1 pp ) (cwV 2 hts (gV mU_213 mU_214 mU_215 mU_18 mU_216) rfl rfl rfl (by decide +kernel) ⟨Nat.le_of_ble_eq_true rfl, Nat.le_of_ble_eq_true rfl⟩) (va_recv hK hP (ci := 2) (q0 := 0) rfl rfl) hP hK hD hS hA [0] [1, 2, 3, 4] [] [0, 1, 2] rfl rfl rfl rfl (by decide) rfl rfl rfl hl.1 rfl (Nat.le_of_ble_eq_true rfl) dX2_take_96 ⟨by decide, by decide⟩ (fun u H locs hw hP hD hK hS => ?_)
        subst hw
        have hP := hP.sub (ws' := [(ro, .inr (2, [.int (nI 1), .int (nI pp), .int (nI sr), .int (nI gv)])), (ta, .inl (kt, 200, .inl (nA tx))), (pa, .inr (1, [.int (nI n), .ref pb, .ref pc])), (pb, .inl (kb, 8, .inl (nA so))), (pc, .inl (kc, 32, .inl (nA nu)))]) [4, 0, 1, 2, 3] rfl
        have hD := hD.sub (ws' := [(ro, .inr (2, [.int (nI 1), .int (nI pp), .int (nI sr), .int (nI gv)])), (ta, .inl (kt, 200, .inl (nA tx))), (pa, .inr (1, [.int (nI n), .ref pb, .ref pc])), (pb, .inl (kb, 8, .inl (nA so))), (pc, .inl (kc, 32, .inl (nA nu)))]) [4, 0, 1, 2, 3] rfl rfl
        have hK : va_K D vwCl [(kt, .byte), (kb, .int), (kc, .int)] s := hK.sub [0, 1, 2] rfl
        subst hQ
        exact rwv (1, pp, sr, gv, n, so, nu) hx hb hr hlocks (tk_bad hbb hn9 c6_2 c27_4 (fun q => c49_6 q.1)) hP hK hD hS dX2_take_99
      · have c49_6 : tx pp = 59 := (nI_eqG (a := tx pp) (b := 59) (by omega) (by omega)).mp c49_6
        refine lv_aload_n hx hb dX2_take_52 rfl (lv_at hl 0 rfl) ?_
        refine va_get (D := D) (ci := 2) (v := .int (nI sr)) (C := RX2) (T := TX2) (N := 4) hx hb hU iX2 hown hK hP 0 rfl rfl 2 (by decide) (hU _ mU_42) (fun _ h9 => h9) rfl dX2_take_53 ?_
        refine lv_iconst (v := nI 4294967295) hx hb dX2_take_56 (by decide) ?_
        refine lv_icmp_eq (tgt := 93) hx hb dX2_take_57 (by decide) (fun c57_8 => ?_) (fun c57_8 => ?_)
        · have c57_8 : sr = 4294967295 := (nI_eqG (a := sr) (b := 4294967295) (by omega) (by omega)).mp c57_8
          refine lv_aload_n hx hb dX2_take_93 rfl (lv_at hl 0 rfl) ?_
          refine lv_iconst (v := nI 1) hx hb dX2_take_94 (by decide) ?_
          refine lv_iload_n hx hb dX2_take_95 rfl (lv_at hl 2 rfl) ?_
          refine kVv (As := [.int (nI 1), .int (nI pp)]) (rest := []) (wr := [(ta, .inl (kt, 200, .inl (nA tx))), (pa, .inr (1, [.int (nI n), .ref pb, .ref pc])), (pb, .inl (kb, 8, .inl (nA so))), (pc, .inl (kc, 32, .inl (nA nu)))]) ⟨hx, hb, hml, hown, hts⟩ (c_X2_refuse l D ro ft pl sr gv s.heap.size 1 pp ) (cwV 2 hts (gV mU_213 mU_214 mU_215 mU_18 mU_216) rfl rfl rfl (by decide +kernel) ⟨Nat.le_of_ble_eq_true rfl, Nat.le_of_ble_eq_true rfl⟩) (va_recv hK hP (ci := 2) (q0 := 0) rfl rfl) hP hK hD hS hA [0] [1, 2, 3, 4] [] [0, 1, 2] rfl rfl rfl rfl (by decide) rfl rfl rfl hl.1 rfl (Nat.le_of_ble_eq_true rfl) dX2_take_96 ⟨by decide, by decide⟩ (fun u H locs hw hP hD hK hS => ?_)
          subst hw
          have hP := hP.sub (ws' := [(ro, .inr (2, [.int (nI 1), .int (nI pp), .int (nI sr), .int (nI gv)])), (ta, .inl (kt, 200, .inl (nA tx))), (pa, .inr (1, [.int (nI n), .ref pb, .ref pc])), (pb, .inl (kb, 8, .inl (nA so))), (pc, .inl (kc, 32, .inl (nA nu)))]) [4, 0, 1, 2, 3] rfl
          have hD := hD.sub (ws' := [(ro, .inr (2, [.int (nI 1), .int (nI pp), .int (nI sr), .int (nI gv)])), (ta, .inl (kt, 200, .inl (nA tx))), (pa, .inr (1, [.int (nI n), .ref pb, .ref pc])), (pb, .inl (kb, 8, .inl (nA so))), (pc, .inl (kc, 32, .inl (nA nu)))]) [4, 0, 1, 2, 3] rfl rfl
          have hK : va_K D vwCl [(kt, .byte), (kb, .int), (kc, .int)] s := hK.sub [0, 1, 2] rfl
          subst hQ
          exact rwv (1, pp, sr, gv, n, so, nu) hx hb hr hlocks (tk_bad hbb hn9 c6_2 c27_4 (fun q => q.2.1 ((rel_9 hx9 hsr).mp c57_8))) hP hK hD hS dX2_take_99
        · have c57_8 : ¬ (sr = 4294967295) := fun h9 => c57_8 ((nI_eqG (a := sr) (b := 4294967295) (by omega) (by omega)).mpr h9)
          refine lv_aload_n hx hb dX2_take_60 rfl (lv_at hl 0 rfl) ?_
          refine va_get (D := D) (ci := 2) (v := .int (nI gv)) (C := RX2) (T := TX2) (N := 4) hx hb hU iX2 hown hK hP 0 rfl rfl 3 (by decide) (hU _ mU_43) (fun _ h9 => h9) rfl dX2_take_61 ?_
          refine lv_aload_n hx hb dX2_take_64 rfl (lv_at hl 0 rfl) ?_
          refine va_get (D := D) (ci := 2) (v := .int (nI sr)) (C := RX2) (T := TX2) (N := 4) hx hb hU iX2 hown hK hP 0 rfl rfl 2 (by decide) (hU _ mU_42) (fun _ h9 => h9) rfl dX2_take_65 ?_
          refine cSi (As := [.int (nI sr)]) (rest := [.int (nI gv)]) ⟨hx, hb, hml, hown, hts⟩ (c_X1_numbersOf l ak adK adV sr (by omega)) (va_cwS 1 hts (gS mU_239 mU_240 mU_22 mU_241) rfl rfl rfl (by decide +kernel) ⟨Nat.le_of_ble_eq_true rfl, Nat.le_of_ble_eq_true rfl⟩) fbZU (zB (fun _ _ _ => trivial) hZ hS) rfl hl.1 rfl (Nat.le_of_ble_eq_true rfl) dX2_take_68 ⟨Nat.zero_le _, Nat.zero_le _⟩ ?_
          have hf_10 : numC sr ≤ 4 := numC_le _
          refine lv_icmp_ne (tgt := 93) hx hb dX2_take_71 (by decide) (fun c71_11 => ?_) (fun c71_11 => ?_)
          · have c71_11 : ¬ (gv = numC sr) := fun h9 => c71_11 ((nI_eqG (a := gv) (b := numC sr) (by omega) (by omega)).mpr h9)
            refine lv_aload_n hx hb dX2_take_93 rfl (lv_at hl 0 rfl) ?_
            refine lv_iconst (v := nI 1) hx hb dX2_take_94 (by decide) ?_
            refine lv_iload_n hx hb dX2_take_95 rfl (lv_at hl 2 rfl) ?_
            refine kVv (As := [.int (nI 1), .int (nI pp)]) (rest := []) (wr := [(ta, .inl (kt, 200, .inl (nA tx))), (pa, .inr (1, [.int (nI n), .ref pb, .ref pc])), (pb, .inl (kb, 8, .inl (nA so))), (pc, .inl (kc, 32, .inl (nA nu)))]) ⟨hx, hb, hml, hown, hts⟩ (c_X2_refuse l D ro ft pl sr gv s.heap.size 1 pp ) (cwV 2 hts (gV mU_213 mU_214 mU_215 mU_18 mU_216) rfl rfl rfl (by decide +kernel) ⟨Nat.le_of_ble_eq_true rfl, Nat.le_of_ble_eq_true rfl⟩) (va_recv hK hP (ci := 2) (q0 := 0) rfl rfl) hP hK hD hS hA [0] [1, 2, 3, 4] [] [0, 1, 2] rfl rfl rfl rfl (by decide) rfl rfl rfl hl.1 rfl (Nat.le_of_ble_eq_true rfl) dX2_take_96 ⟨by decide, by decide⟩ (fun u H locs hw hP hD hK hS => ?_)
            subst hw
            have hP := hP.sub (ws' := [(ro, .inr (2, [.int (nI 1), .int (nI pp), .int (nI sr), .int (nI gv)])), (ta, .inl (kt, 200, .inl (nA tx))), (pa, .inr (1, [.int (nI n), .ref pb, .ref pc])), (pb, .inl (kb, 8, .inl (nA so))), (pc, .inl (kc, 32, .inl (nA nu)))]) [4, 0, 1, 2, 3] rfl
            have hD := hD.sub (ws' := [(ro, .inr (2, [.int (nI 1), .int (nI pp), .int (nI sr), .int (nI gv)])), (ta, .inl (kt, 200, .inl (nA tx))), (pa, .inr (1, [.int (nI n), .ref pb, .ref pc])), (pb, .inl (kb, 8, .inl (nA so))), (pc, .inl (kc, 32, .inl (nA nu)))]) [4, 0, 1, 2, 3] rfl rfl
            have hK : va_K D vwCl [(kt, .byte), (kb, .int), (kc, .int)] s := hK.sub [0, 1, 2] rfl
            subst hQ
            exact rwv (1, pp, sr, gv, n, so, nu) hx hb hr hlocks (tk_bad hbb hn9 c6_2 c27_4 (fun q => c71_11 ((tk_gv hx9 q.2.1).trans (q.2.2.trans (tk_nc hx9 q.2.1))))) hP hK hD hS dX2_take_99
          · have c71_11 : gv = numC sr := (nI_eqG (a := gv) (b := numC sr) (by omega) (by omega)).mp c71_11
            refine lv_aload_n hx hb dX2_take_74 rfl (lv_at hl 0 rfl) ?_
            refine lv_iconst (v := nI 4294967295) hx hb dX2_take_75 (by decide) ?_
            refine va_put (D := D) (ci := 2) (v := .int (nI 4294967295)) (ty := .int) (C := RX2) (T := TX2) (N := 4) hx hb hU iX2 tyX2 tyX2_ok nmX2 hown hK hP hD hS 0 rfl rfl 2 (by decide) (hU _ mU_42) (fun _ h9 => h9) rfl (by decide +kernel) rfl rfl (Nat.le_of_ble_eq_true rfl) dX2_take_76 (fun H locs hP hD hS => ?_)
            have hP : va_P D vwCl [(ro, .inr (2, [.int (nI ft), .int (nI pl), .int (nI 4294967295), .int (nI gv)])), (ta, .inl (kt, 200, .inl (nA tx))), (pa, .inr (1, [.int (nI n), .ref pb, .ref pc])), (pb, .inl (kb, 8, .inl (nA so))), (pc, .inl (kc, 32, .inl (nA nu)))] H := hP
            have hD : va_D Ar [(ro, .inr (2, [.int (nI ft), .int (nI pl), .int (nI 4294967295), .int (nI gv)])), (ta, .inl (kt, 200, .inl (nA tx))), (pa, .inr (1, [.int (nI n), .ref pb, .ref pc])), (pb, .inl (kb, 8, .inl (nA so))), (pc, .inl (kc, 32, .inl (nA nu)))] := hD
            refine lv_aload hx hb dX2_take_79 (lv_at hl 5 rfl) ?_
            refine lv_dup hx hb dX2_take_81 rfl ?_
            refine va_get (D := D) (ci := 1) (v := .int (nI n)) (C := RX1) (T := TX1) (N := 3) hx hb hU iX1 hown hK hP 2 rfl rfl 0 (by decide) (hU _ mU_133) (fun _ h9 => h9) rfl dX2_take_82 ?_
            refine lv_iconst (v := nI 1) hx hb dX2_take_85 (by decide) ?_
            refine lv_iadd hx hb dX2_take_86 ?_
            refine lv_topE (nI (n + 1)) (nI_add _ _) ?_
            refine va_put (D := D) (ci := 1) (v := .int (nI (n + 1))) (ty := .int) (C := RX1) (T := TX1) (N := 3) hx hb hU iX1 tyX1 tyX1_ok nmX1 hown hK hP hD hS 2 rfl rfl 0 (by decide) (hU _ mU_133) (fun _ h9 => h9) rfl (by decide +kernel) rfl rfl (Nat.le_of_ble_eq_true rfl) dX2_take_87 (fun H locs hP hD hS => ?_)
            have hP : va_P D vwCl [(ro, .inr (2, [.int (nI ft), .int (nI pl), .int (nI 4294967295), .int (nI gv)])), (ta, .inl (kt, 200, .inl (nA tx))), (pa, .inr (1, [.int (nI (n + 1)), .ref pb, .ref pc])), (pb, .inl (kb, 8, .inl (nA so))), (pc, .inl (kc, 32, .inl (nA nu)))] H := hP
            have hD : va_D Ar [(ro, .inr (2, [.int (nI ft), .int (nI pl), .int (nI 4294967295), .int (nI gv)])), (ta, .inl (kt, 200, .inl (nA tx))), (pa, .inr (1, [.int (nI (n + 1)), .ref pb, .ref pc])), (pb, .inl (kb, 8, .inl (nA so))), (pc, .inl (kc, 32, .inl (nA nu)))] := hD
            refine lv_goto (tgt := 99) hx hb dX2_take_90 (by decide) ?_
            subst hQ
            exact rwv (ft, pl, 4294967295, gv, n + 1, so, nu) hx hb hr hlocks (tk_end hx9 hsr hbb c6_2 c27_4 c49_6 c57_8 c71_11) hP hK hD hS dX2_take_99
    · have c27_4 : isDg (tx pp) := bP_t c27_4
      refine lv_aload_n hx hb dX2_take_30 rfl (lv_at hl 0 rfl) ?_
      refine lv_aload_n hx hb dX2_take_31 rfl (lv_at hl 1 rfl) ?_
      refine lv_iload_n hx hb dX2_take_32 rfl (lv_at hl 2 rfl) ?_
      refine lv_iload_n hx hb dX2_take_33 rfl (lv_at hl 3 rfl) ?_
      refine lv_iload hx hb dX2_take_34 (lv_at hl 4 rfl) ?_
      refine lv_aload hx hb dX2_take_36 (lv_at hl 5 rfl) ?_
      refine kVvZ (As := [.ref ta, .int (nI pp), .int (nI ee), .int (nI h), .ref pa]) (rest := []) (wr := []) ⟨hx, hb, hml, hown, hts⟩ (c_X2_takeNumber l D ro ft pl sr gv ta kt tx pa pb pc kb kc n so nu ak adK adV x s.heap.size pp ee h (hx9) (hn9) (hsr) (hbb) (by omega) (by omega) (htx) (hdd c27_4) (hh)) (cwV 5 hts (gV mU_217 mU_218 mU_219 mU_18 mU_220) rfl rfl rfl (by decide +kernel) ⟨Nat.le_of_ble_eq_true rfl, Nat.le_of_ble_eq_true rfl⟩) (va_recv hK hP (ci := 2) (q0 := 0) rfl rfl) hP hK hD hS hA hZ [0, 1, 2, 3, 4] [] [0, 1, 2] [] rfl rfl rfl rfl (by decide) rfl rfl rfl hl.1 rfl (Nat.le_of_ble_eq_true rfl) dX2_take_38 ⟨by decide, by decide⟩ (fun u H locs hw hP hD hK hS => ?_)
      obtain ⟨ft_13, pl_13, sr_13, gv_13, n_13, so_13, nu_13⟩ := u
      have htq13 := hw
      have hP := hP.sub (ws' := [(ro, .inr (2, [.int (nI ft_13), .int (nI pl_13), .int (nI sr_13), .int (nI gv_13)])), (ta, .inl (kt, 200, .inl (nA tx))), (pa, .inr (1, [.int (nI n_13), .ref pb, .ref pc])), (pb, .inl (kb, 8, .inl (nA so_13))), (pc, .inl (kc, 32, .inl (nA nu_13)))]) [0, 1, 2, 3, 4] rfl
      have hD := hD.sub (ws' := [(ro, .inr (2, [.int (nI ft_13), .int (nI pl_13), .int (nI sr_13), .int (nI gv_13)])), (ta, .inl (kt, 200, .inl (nA tx))), (pa, .inr (1, [.int (nI n_13), .ref pb, .ref pc])), (pb, .inl (kb, 8, .inl (nA so_13))), (pc, .inl (kc, 32, .inl (nA nu_13)))]) [0, 1, 2, 3, 4] rfl rfl
      have hK : va_K D vwCl [(kt, .byte), (kb, .int), (kc, .int)] s := hK.sub [0, 1, 2] rfl
      refine lv_goto (tgt := 99) hx hb dX2_take_41 (by decide) ?_
      subst hQ
      exact rwv (ft_13, pl_13, sr_13, gv_13, n_13, so_13, nu_13) hx hb hr hlocks (tk_num c6_2 c27_4 htq13) hP hK hD hS dX2_take_99
  · have c6_2 : isLt (tx pp) := bP_t c6_2
    refine lv_aload_n hx hb dX2_take_9 rfl (lv_at hl 0 rfl) ?_
    refine lv_aload_n hx hb dX2_take_10 rfl (lv_at hl 1 rfl) ?_
    refine lv_iload_n hx hb dX2_take_11 rfl (lv_at hl 2 rfl) ?_
    refine lv_iload_n hx hb dX2_take_12 rfl (lv_at hl 3 rfl) ?_
    refine lv_aload hx hb dX2_take_13 (lv_at hl 5 rfl) ?_
    refine kVvZ (As := [.ref ta, .int (nI pp), .int (nI ee), .ref pa]) (rest := []) (wr := []) ⟨hx, hb, hml, hown, hts⟩ (c_X2_takeName l D ro ft pl sr gv ta kt tx pa pb pc kb kc n so nu ak adK adV x s.heap.size pp ee (hx9) (hn9) (hsr) (hbb) (by omega) (by omega) (htx)) (cwV 4 hts (gV mU_150 mU_151 mU_152 mU_18 mU_153) rfl rfl rfl (by decide +kernel) ⟨Nat.le_of_ble_eq_true rfl, Nat.le_of_ble_eq_true rfl⟩) (va_recv hK hP (ci := 2) (q0 := 0) rfl rfl) hP hK hD hS hA hZ [0, 1, 2, 3, 4] [] [0, 1, 2] [] rfl rfl rfl rfl (by decide) rfl rfl rfl hl.1 rfl (Nat.le_of_ble_eq_true rfl) dX2_take_15 ⟨by decide, by decide⟩ (fun u H locs hw hP hD hK hS => ?_)
    obtain ⟨ft_15, pl_15, sr_15, gv_15, n_15, so_15, nu_15⟩ := u
    have htq15 := hw
    have hP := hP.sub (ws' := [(ro, .inr (2, [.int (nI ft_15), .int (nI pl_15), .int (nI sr_15), .int (nI gv_15)])), (ta, .inl (kt, 200, .inl (nA tx))), (pa, .inr (1, [.int (nI n_15), .ref pb, .ref pc])), (pb, .inl (kb, 8, .inl (nA so_15))), (pc, .inl (kc, 32, .inl (nA nu_15)))]) [0, 1, 2, 3, 4] rfl
    have hD := hD.sub (ws' := [(ro, .inr (2, [.int (nI ft_15), .int (nI pl_15), .int (nI sr_15), .int (nI gv_15)])), (ta, .inl (kt, 200, .inl (nA tx))), (pa, .inr (1, [.int (nI n_15), .ref pb, .ref pc])), (pb, .inl (kb, 8, .inl (nA so_15))), (pc, .inl (kc, 32, .inl (nA nu_15)))]) [0, 1, 2, 3, 4] rfl rfl
    have hK : va_K D vwCl [(kt, .byte), (kb, .int), (kc, .int)] s := hK.sub [0, 1, 2] rfl
    refine lv_goto (tgt := 99) hx hb dX2_take_18 (by decide) ?_
    subst hQ
    exact rwv (ft_15, pl_15, sr_15, gv_15, n_15, so_15, nu_15) hx hb hr hlocks (tk_name c6_2 htq15) hP hK hD hS dX2_take_99

set_option maxHeartbeats 4000000 in
set_option maxRecDepth 100000 in
theorem c_X2_read (l : Launch) (D : va_G) (ro ft pl sr gv : Nat) (ta : Nat) (kt : ClassId) (tx : Nat → Nat) (pa pb pc : Nat) (kb kc : ClassId) (n : Nat) (so nu : Nat → Nat) (ak : Nat) (adK adV : Nat → Nat) (sz : Nat) (nn : Nat) (h : Nat) (hnn : nn ≤ 200) (htx : ∀ j, tx j < 4294967296) (hh : h < 2) (hbb : (∀ j, so j < 2147483648 ∧ nu j < 2147483648) ∧ gv < 2147483648) : Met l yX2_read (.code yX2_read cX2_read 7 none :: wsL_law) ({ frames := 8, cells := 0, slots := 0, locals := 182 }) (va_Pc [.ref ro, .ref ta, .int (nI nn), .int (nI h), .ref pa] (PWZ D (qW ro ft pl sr gv ta kt tx pa pb pc kb kc n so nu) (qT kt kb kc) sz ak adK adV)) (va_Qv (fun u : RSt => rdPost (runR tx nn h 201 0 (9, 0, 0, so, nu)) u) (QW D (fun u : RSt => qW ro u.1 u.2.1 u.2.2.1 u.2.2.2.1 ta kt tx pa pb pc kb kc u.2.2.2.2.1 u.2.2.2.2.2.1 u.2.2.2.2.2.2) (fun _ => qT kt kb kc) (va_A (qW ro ft pl sr gv ta kt tx pa pb pc kb kc n so nu) sz)) (va_A (qW ro ft pl sr gv ta kt tx pa pb pc kb kc n so nu) sz)) 0 0 (va_A (qW ro ft pl sr gv ta kt tx pa pb pc kb kc n so nu) sz) := by
  refine Met.ofW (cc := cX2_read) (maxL := 7) (ret := none) (by decide) rfl ?_
  intro p e s m args below meth c s₁ B hml hv
  obtain ⟨rfl, ⟨hsz, hP, hK, hD0⟩, hZ⟩ := hv
  have hx := B.exec
  have hb := B.bytes
  have hr := B.returns
  have hts := atoms_spec (ws := .code yX2_read cX2_read 7 none :: wsL_law) B.pre
  have hU : ∀ w ∈ wsL_law, w.before _ s = true := fun w h => hts w (List.mem_cons_of_mem _ h)
  have hown : s.vm.findClass RX2 = some m.cls := findClass_of_methodNamed B.named
  have hlocks := B.notSynchronized
  subst hsz
  have hD := hD0.self (sz := s.heap.size)
  generalize hAe : va_A (qW ro ft pl sr gv ta kt tx pa pb pc kb kc n so nu) s.heap.size = Ar at hD hZ ⊢
  have hA : ∀ q : Nat, s.heap.size ≤ q → Ar q := fun q h => by rw [← hAe]; exact Or.inr h
  have hS : va_S Ar s.heap s.heap [] := va_S.rf
  have hP : va_P D vwCl [(ro, .inr (2, [.int (nI ft), .int (nI pl), .int (nI sr), .int (nI gv)])), (ta, .inl (kt, 200, .inl (nA tx))), (pa, .inr (1, [.int (nI n), .ref pb, .ref pc])), (pb, .inl (kb, 8, .inl (nA so))), (pc, .inl (kc, 32, .inl (nA nu)))] s.heap := hP
  have hD : va_D Ar [(ro, .inr (2, [.int (nI ft), .int (nI pl), .int (nI sr), .int (nI gv)])), (ta, .inl (kt, 200, .inl (nA tx))), (pa, .inr (1, [.int (nI n), .ref pb, .ref pc])), (pb, .inl (kb, 8, .inl (nA so))), (pc, .inl (kc, 32, .inl (nA nu)))] := hD
  generalize hQ : MQ _ _ _ _ _ _ _ = Q
  have hl := lv_entry ([.ref ro, .ref ta, .int (nI nn), .int (nI h), .ref pa]) (n := 7) (Nat.le_of_ble_eq_true rfl)
  rw [lg_entry_eq]
  generalize (lg_sl ([.ref ro, .ref ta, .int (nI nn), .int (nI h), .ref pa]) ++ List.replicate (7 - (lg_sl ([.ref ro, .ref ta, .int (nI nn), .int (nI h), .ref pa])).length) Slot.unset).toArray = ls at hl ⊢
  have hl : lv_has ls 7 [(0, .ref ro), (1, .ref ta), (2, .int (nI nn)), (3, .int (nI h)), (4, .ref pa)] := hl
  refine lv_aload hx hb dX2_read_0 (lv_at hl 4 rfl) ?_
  refine lv_iconst (v := nI 0) hx hb dX2_read_2 (by decide) ?_
  refine va_put (D := D) (ci := 1) (v := .int (nI 0)) (ty := .int) (C := RX1) (T := TX1) (N := 3) hx hb hU iX1 tyX1 tyX1_ok nmX1 hown hK hP hD hS 2 rfl rfl 0 (by decide) (hU _ mU_133) (fun _ h9 => h9) rfl (by decide +kernel) rfl rfl (Nat.le_of_ble_eq_true rfl) dX2_read_3 (fun H locs hP hD hS => ?_)
  have hP : va_P D vwCl [(ro, .inr (2, [.int (nI ft), .int (nI pl), .int (nI sr), .int (nI gv)])), (ta, .inl (kt, 200, .inl (nA tx))), (pa, .inr (1, [.int (nI 0), .ref pb, .ref pc])), (pb, .inl (kb, 8, .inl (nA so))), (pc, .inl (kc, 32, .inl (nA nu)))] H := hP
  have hD : va_D Ar [(ro, .inr (2, [.int (nI ft), .int (nI pl), .int (nI sr), .int (nI gv)])), (ta, .inl (kt, 200, .inl (nA tx))), (pa, .inr (1, [.int (nI 0), .ref pb, .ref pc])), (pb, .inl (kb, 8, .inl (nA so))), (pc, .inl (kc, 32, .inl (nA nu)))] := hD
  refine lv_aload_n hx hb dX2_read_6 rfl (lv_at hl 0 rfl) ?_
  refine lv_iconst (v := nI 4294967295) hx hb dX2_read_7 (by decide) ?_
  refine va_put (D := D) (ci := 2) (v := .int (nI 4294967295)) (ty := .int) (C := RX2) (T := TX2) (N := 4) hx hb hU iX2 tyX2 tyX2_ok nmX2 hown hK hP hD hS 0 rfl rfl 2 (by decide) (hU _ mU_42) (fun _ h9 => h9) rfl (by decide +kernel) rfl rfl (Nat.le_of_ble_eq_true rfl) dX2_read_8 (fun H locs hP hD hS => ?_)
  have hP : va_P D vwCl [(ro, .inr (2, [.int (nI ft), .int (nI pl), .int (nI 4294967295), .int (nI gv)])), (ta, .inl (kt, 200, .inl (nA tx))), (pa, .inr (1, [.int (nI 0), .ref pb, .ref pc])), (pb, .inl (kb, 8, .inl (nA so))), (pc, .inl (kc, 32, .inl (nA nu)))] H := hP
  have hD : va_D Ar [(ro, .inr (2, [.int (nI ft), .int (nI pl), .int (nI 4294967295), .int (nI gv)])), (ta, .inl (kt, 200, .inl (nA tx))), (pa, .inr (1, [.int (nI 0), .ref pb, .ref pc])), (pb, .inl (kb, 8, .inl (nA so))), (pc, .inl (kc, 32, .inl (nA nu)))] := hD
  refine lv_aload_n hx hb dX2_read_11 rfl (lv_at hl 0 rfl) ?_
  refine lv_iconst (v := nI 0) hx hb dX2_read_12 (by decide) ?_
  refine va_put (D := D) (ci := 2) (v := .int (nI 0)) (ty := .int) (C := RX2) (T := TX2) (N := 4) hx hb hU iX2 tyX2 tyX2_ok nmX2 hown hK hP hD hS 0 rfl rfl 0 (by decide) (hU _ mU_40) (fun _ h9 => h9) rfl (by decide +kernel) rfl rfl (Nat.le_of_ble_eq_true rfl) dX2_read_13 (fun H locs hP hD hS => ?_)
  have hP : va_P D vwCl [(ro, .inr (2, [.int (nI 0), .int (nI pl), .int (nI 4294967295), .int (nI gv)])), (ta, .inl (kt, 200, .inl (nA tx))), (pa, .inr (1, [.int (nI 0), .ref pb, .ref pc])), (pb, .inl (kb, 8, .inl (nA so))), (pc, .inl (kc, 32, .inl (nA nu)))] H := hP
  have hD : va_D Ar [(ro, .inr (2, [.int (nI 0), .int (nI pl), .int (nI 4294967295), .int (nI gv)])), (ta, .inl (kt, 200, .inl (nA tx))), (pa, .inr (1, [.int (nI 0), .ref pb, .ref pc])), (pb, .inl (kb, 8, .inl (nA so))), (pc, .inl (kc, 32, .inl (nA nu)))] := hD
  refine lv_aload_n hx hb dX2_read_16 rfl (lv_at hl 0 rfl) ?_
  refine lv_iconst (v := nI 4294967295) hx hb dX2_read_17 (by decide) ?_
  refine va_put (D := D) (ci := 2) (v := .int (nI 4294967295)) (ty := .int) (C := RX2) (T := TX2) (N := 4) hx hb hU iX2 tyX2 tyX2_ok nmX2 hown hK hP hD hS 0 rfl rfl 1 (by decide) (hU _ mU_41) (fun _ h9 => h9) rfl (by decide +kernel) rfl rfl (Nat.le_of_ble_eq_true rfl) dX2_read_18 (fun H locs hP hD hS => ?_)
  have hP : va_P D vwCl [(ro, .inr (2, [.int (nI 0), .int (nI 4294967295), .int (nI 4294967295), .int (nI gv)])), (ta, .inl (kt, 200, .inl (nA tx))), (pa, .inr (1, [.int (nI 0), .ref pb, .ref pc])), (pb, .inl (kb, 8, .inl (nA so))), (pc, .inl (kc, 32, .inl (nA nu)))] H := hP
  have hD : va_D Ar [(ro, .inr (2, [.int (nI 0), .int (nI 4294967295), .int (nI 4294967295), .int (nI gv)])), (ta, .inl (kt, 200, .inl (nA tx))), (pa, .inr (1, [.int (nI 0), .ref pb, .ref pc])), (pb, .inl (kb, 8, .inl (nA so))), (pc, .inl (kc, 32, .inl (nA nu)))] := hD
  refine lv_iconst (v := nI 0) hx hb dX2_read_21 (by decide) ?_
  refine lv_istore (lv' := [(5, .int (nI 0)), (0, .ref ro), (1, .ref ta), (2, .int (nI nn)), (3, .int (nI h)), (4, .ref pa)]) hx hb dX2_read_22 hl (by decide) rfl (fun ls hl => ?_)
  refine lv_iconst (v := nI 0) hx hb dX2_read_24 (by decide) ?_
  refine lv_istore (lv' := [(6, .int (nI 0)), (5, .int (nI 0)), (0, .ref ro), (1, .ref ta), (2, .int (nI nn)), (3, .int (nI h)), (4, .ref pa)]) hx hb dX2_read_25 hl (by decide) rfl (fun ls hl => ?_)
  have L27_46 : ∀ (n : Nat) (at_ : Nat) (ee : Nat) (cf : Nat) (x : PT9) (ft1 : Nat) (pl1 : Nat) (sr1 : Nat) (gv1 : Nat) (n1 : Nat) (so1 : Nat → Nat) (nu1 : Nat → Nat), (at_ ≤ nn ∧ ee ≤ nn) → ((ft1 = 0 ∧ pl1 = 4294967295 ∧ nn - max at_ ee < cf ∧ runR tx nn h cf (max at_ ee) x = runR tx nn h 201 0 (9, 0, 0, so, nu)) ∨ (ft1 ≠ 0 ∧ (runR tx nn h 201 0 (9, 0, 0, so, nu)).1 = ft1 ∧ (runR tx nn h 201 0 (9, 0, 0, so, nu)).2.1 = pl1 ∧ n1 ≤ 7)) → (ft1 = 0 → okX x) → (ft1 = 0 → relS x sr1 gv1 n1 so1 nu1) → ((∀ j, so1 j < 2147483648 ∧ nu1 j < 2147483648) ∧ gv1 < 2147483648) → (nn - at_) < n → ∀ (H : Heap) (locs : List Loc), va_P D vwCl [(ro, .inr (2, [.int (nI ft1), .int (nI pl1), .int (nI sr1), .int (nI gv1)])), (ta, .inl (kt, 200, .inl (nA tx))), (pa, .inr (1, [.int (nI n1), .ref pb, .ref pc])), (pb, .inl (kb, 8, .inl (nA so1))), (pc, .inl (kc, 32, .inl (nA nu1)))] H → va_D Ar [(ro, .inr (2, [.int (nI ft1), .int (nI pl1), .int (nI sr1), .int (nI gv1)])), (ta, .inl (kt, 200, .inl (nA tx))), (pa, .inr (1, [.int (nI n1), .ref pb, .ref pc])), (pb, .inl (kb, 8, .inl (nA so1))), (pc, .inl (kc, 32, .inl (nA nu1)))] → va_S Ar s.heap H locs → ∀ ls : Array Slot, lv_has ls 7 [(0, .ref ro), (1, .ref ta), (2, .int (nI nn)), (3, .int (nI h)), (4, .ref pa), (5, .int (nI ee)), (6, .int (nI at_))] → W p l e ({ frames := 8, cells := 0, slots := 0, locals := 182 } : Room) s m (([.ref ro, .ref ta, .int (nI nn), .int (nI h), .ref pa] : List Value).toArray) below meth c H locs 0 0 Q (F0 m 27 ls []) := by
    intro n27
    induction n27 with
    | zero => intro at_ ee cf x ft1 pl1 sr1 gv1 n1 so1 nu1 hat hI hok hrl hbb1 hm27; exact absurd hm27 (Nat.not_lt_zero _)
    | succ n27 ih27 =>
      intro at_ ee cf x ft1 pl1 sr1 gv1 n1 so1 nu1 hat hI hok hrl hbb1 hm27 H locs hP hD hS ls hl
      have hft9 : ft1 < 4294967296 := by have := runR_le3 (tx := tx) (n := nn) (h := h) 201 0 (9, 0, 0, so, nu); omega
      refine lv_iload hx hb dX2_read_27 (lv_at hl 6 rfl) ?_
      refine lv_iload_n hx hb dX2_read_29 rfl (lv_at hl 2 rfl) ?_
      refine lv_icmp_ge (tgt := 84) hx hb dX2_read_30 (by decide) (fun c30_1 => ?_) (fun c30_1 => ?_)
      · have c30_1 : nn ≤ at_ := (nI_leI (a := nn) (b := at_) (by omega) (by omega)).mp c30_1
        refine lv_aload_n hx hb dX2_read_84 rfl (lv_at hl 0 rfl) ?_
        refine va_get (D := D) (ci := 2) (v := .int (nI ft1)) (C := RX2) (T := TX2) (N := 4) hx hb hU iX2 hown hK hP 0 rfl rfl 0 (by decide) (hU _ mU_40) (fun _ h9 => h9) rfl dX2_read_85 ?_
        refine lv_if_ne (tgt := 105) hx hb dX2_read_88 (by decide) (fun c88_2 => ?_) (fun c88_2 => ?_)
        · have c88_2 : ¬ (ft1 = 0) := fun h9 => c88_2 ((nI_eqG (a := ft1) (b := 0) (by omega) (by omega)).mpr h9)
          subst hQ
          exact rwv (ft1, pl1, sr1, gv1, n1, so1, nu1) hx hb hr hlocks (rd_fault hI hbb1 c88_2) hP hK hD hS dX2_read_105
        · have c88_2 : ft1 = 0 := (nI_eqG (a := ft1) (b := 0) (by omega) (by omega)).mp c88_2
          have hsr8 : sr1 < 4294967296 := rel_sr (hrl c88_2) (okX_s (hok c88_2) (hrl c88_2))
          refine lv_aload_n hx hb dX2_read_91 rfl (lv_at hl 0 rfl) ?_
          refine va_get (D := D) (ci := 2) (v := .int (nI sr1)) (C := RX2) (T := TX2) (N := 4) hx hb hU iX2 hown hK hP 0 rfl rfl 2 (by decide) (hU _ mU_42) (fun _ h9 => h9) rfl dX2_read_92 ?_
          refine lv_iconst (v := nI 4294967295) hx hb dX2_read_95 (by decide) ?_
          refine lv_icmp_eq (tgt := 105) hx hb dX2_read_96 (by decide) (fun c96_3 => ?_) (fun c96_3 => ?_)
          · have c96_3 : sr1 = 4294967295 := (nI_eqG (a := sr1) (b := 4294967295) (by omega) (by omega)).mp c96_3
            subst hQ
            exact rwv (ft1, pl1, sr1, gv1, n1, so1, nu1) hx hb hr hlocks (rd_good (rd_end hI hok hrl c88_2 (by omega) (by omega)) hbb1 c96_3) hP hK hD hS dX2_read_105
          · have c96_3 : ¬ (sr1 = 4294967295) := fun h9 => c96_3 ((nI_eqG (a := sr1) (b := 4294967295) (by omega) (by omega)).mpr h9)
            refine lv_aload_n hx hb dX2_read_99 rfl (lv_at hl 0 rfl) ?_
            refine lv_iconst (v := nI 1) hx hb dX2_read_100 (by decide) ?_
            refine lv_iload_n hx hb dX2_read_101 rfl (lv_at hl 2 rfl) ?_
            refine kVv (As := [.int (nI 1), .int (nI nn)]) (rest := []) (wr := [(ta, .inl (kt, 200, .inl (nA tx))), (pa, .inr (1, [.int (nI n1), .ref pb, .ref pc])), (pb, .inl (kb, 8, .inl (nA so1))), (pc, .inl (kc, 32, .inl (nA nu1)))]) ⟨hx, hb, hml, hown, hts⟩ (c_X2_refuse l D ro ft1 pl1 sr1 gv1 H.size 1 nn ) (cwV 2 hts (gV mU_213 mU_214 mU_215 mU_18 mU_216) rfl rfl rfl (by decide +kernel) ⟨Nat.le_of_ble_eq_true rfl, Nat.le_of_ble_eq_true rfl⟩) (va_recv hK hP (ci := 2) (q0 := 0) rfl rfl) hP hK hD hS hA [0] [1, 2, 3, 4] [] [0, 1, 2] rfl rfl rfl rfl (by decide) rfl rfl rfl hl.1 rfl (Nat.le_of_ble_eq_true rfl) dX2_read_102 ⟨by decide, by decide⟩ (fun u H locs hw hP hD hK hS => ?_)
            subst hw
            have hP := hP.sub (ws' := [(ro, .inr (2, [.int (nI 1), .int (nI nn), .int (nI sr1), .int (nI gv1)])), (ta, .inl (kt, 200, .inl (nA tx))), (pa, .inr (1, [.int (nI n1), .ref pb, .ref pc])), (pb, .inl (kb, 8, .inl (nA so1))), (pc, .inl (kc, 32, .inl (nA nu1)))]) [4, 0, 1, 2, 3] rfl
            have hD := hD.sub (ws' := [(ro, .inr (2, [.int (nI 1), .int (nI nn), .int (nI sr1), .int (nI gv1)])), (ta, .inl (kt, 200, .inl (nA tx))), (pa, .inr (1, [.int (nI n1), .ref pb, .ref pc])), (pb, .inl (kb, 8, .inl (nA so1))), (pc, .inl (kc, 32, .inl (nA nu1)))]) [4, 0, 1, 2, 3] rfl rfl
            have hK : va_K D vwCl [(kt, .byte), (kb, .int), (kc, .int)] s := hK.sub [0, 1, 2] rfl
            subst hQ
            exact rwv (1, nn, sr1, gv1, n1, so1, nu1) hx hb hr hlocks (rd_open (rd_end hI hok hrl c88_2 (by omega) (by omega)) hbb1 c96_3) hP hK hD hS dX2_read_105
      · have c30_1 : ¬ (nn ≤ at_) := fun h9 => c30_1 ((nI_leI (a := nn) (b := at_) (by omega) (by omega)).mpr h9)
        refine lv_aload_n hx hb dX2_read_33 rfl (lv_at hl 0 rfl) ?_
        refine va_get (D := D) (ci := 2) (v := .int (nI ft1)) (C := RX2) (T := TX2) (N := 4) hx hb hU iX2 hown hK hP 0 rfl rfl 0 (by decide) (hU _ mU_40) (fun _ h9 => h9) rfl dX2_read_34 ?_
        refine lv_if_ne (tgt := 84) hx hb dX2_read_37 (by decide) (fun c37_5 => ?_) (fun c37_5 => ?_)
        · have c37_5 : ¬ (ft1 = 0) := fun h9 => c37_5 ((nI_eqG (a := ft1) (b := 0) (by omega) (by omega)).mpr h9)
          refine lv_aload_n hx hb dX2_read_84 rfl (lv_at hl 0 rfl) ?_
          refine va_get (D := D) (ci := 2) (v := .int (nI ft1)) (C := RX2) (T := TX2) (N := 4) hx hb hU iX2 hown hK hP 0 rfl rfl 0 (by decide) (hU _ mU_40) (fun _ h9 => h9) rfl dX2_read_85 ?_
          refine lv_if_ne (tgt := 105) hx hb dX2_read_88 (by decide) (fun c88_6 => ?_) (fun c88_6 => ?_)
          · have c88_6 : ¬ (ft1 = 0) := fun h9 => c88_6 ((nI_eqG (a := ft1) (b := 0) (by omega) (by omega)).mpr h9)
            subst hQ
            exact rwv (ft1, pl1, sr1, gv1, n1, so1, nu1) hx hb hr hlocks (rd_fault hI hbb1 c88_6) hP hK hD hS dX2_read_105
          · have c88_6 : ft1 = 0 := (nI_eqG (a := ft1) (b := 0) (by omega) (by omega)).mp c88_6
            have hsr8 : sr1 < 4294967296 := rel_sr (hrl c88_6) (okX_s (hok c88_6) (hrl c88_6))
            refine lv_aload_n hx hb dX2_read_91 rfl (lv_at hl 0 rfl) ?_
            refine va_get (D := D) (ci := 2) (v := .int (nI sr1)) (C := RX2) (T := TX2) (N := 4) hx hb hU iX2 hown hK hP 0 rfl rfl 2 (by decide) (hU _ mU_42) (fun _ h9 => h9) rfl dX2_read_92 ?_
            refine lv_iconst (v := nI 4294967295) hx hb dX2_read_95 (by decide) ?_
            refine lv_icmp_eq (tgt := 105) hx hb dX2_read_96 (by decide) (fun c96_7 => ?_) (fun c96_7 => ?_)
            · have c96_7 : sr1 = 4294967295 := (nI_eqG (a := sr1) (b := 4294967295) (by omega) (by omega)).mp c96_7
              subst hQ
              exact rwv (ft1, pl1, sr1, gv1, n1, so1, nu1) hx hb hr hlocks (rd_good (rd_end hI hok hrl c88_6 (by omega) (by omega)) hbb1 c96_7) hP hK hD hS dX2_read_105
            · have c96_7 : ¬ (sr1 = 4294967295) := fun h9 => c96_7 ((nI_eqG (a := sr1) (b := 4294967295) (by omega) (by omega)).mpr h9)
              refine lv_aload_n hx hb dX2_read_99 rfl (lv_at hl 0 rfl) ?_
              refine lv_iconst (v := nI 1) hx hb dX2_read_100 (by decide) ?_
              refine lv_iload_n hx hb dX2_read_101 rfl (lv_at hl 2 rfl) ?_
              refine kVv (As := [.int (nI 1), .int (nI nn)]) (rest := []) (wr := [(ta, .inl (kt, 200, .inl (nA tx))), (pa, .inr (1, [.int (nI n1), .ref pb, .ref pc])), (pb, .inl (kb, 8, .inl (nA so1))), (pc, .inl (kc, 32, .inl (nA nu1)))]) ⟨hx, hb, hml, hown, hts⟩ (c_X2_refuse l D ro ft1 pl1 sr1 gv1 H.size 1 nn ) (cwV 2 hts (gV mU_213 mU_214 mU_215 mU_18 mU_216) rfl rfl rfl (by decide +kernel) ⟨Nat.le_of_ble_eq_true rfl, Nat.le_of_ble_eq_true rfl⟩) (va_recv hK hP (ci := 2) (q0 := 0) rfl rfl) hP hK hD hS hA [0] [1, 2, 3, 4] [] [0, 1, 2] rfl rfl rfl rfl (by decide) rfl rfl rfl hl.1 rfl (Nat.le_of_ble_eq_true rfl) dX2_read_102 ⟨by decide, by decide⟩ (fun u H locs hw hP hD hK hS => ?_)
              subst hw
              have hP := hP.sub (ws' := [(ro, .inr (2, [.int (nI 1), .int (nI nn), .int (nI sr1), .int (nI gv1)])), (ta, .inl (kt, 200, .inl (nA tx))), (pa, .inr (1, [.int (nI n1), .ref pb, .ref pc])), (pb, .inl (kb, 8, .inl (nA so1))), (pc, .inl (kc, 32, .inl (nA nu1)))]) [4, 0, 1, 2, 3] rfl
              have hD := hD.sub (ws' := [(ro, .inr (2, [.int (nI 1), .int (nI nn), .int (nI sr1), .int (nI gv1)])), (ta, .inl (kt, 200, .inl (nA tx))), (pa, .inr (1, [.int (nI n1), .ref pb, .ref pc])), (pb, .inl (kb, 8, .inl (nA so1))), (pc, .inl (kc, 32, .inl (nA nu1)))]) [4, 0, 1, 2, 3] rfl rfl
              have hK : va_K D vwCl [(kt, .byte), (kb, .int), (kc, .int)] s := hK.sub [0, 1, 2] rfl
              subst hQ
              exact rwv (1, nn, sr1, gv1, n1, so1, nu1) hx hb hr hlocks (rd_open (rd_end hI hok hrl c88_6 (by omega) (by omega)) hbb1 c96_7) hP hK hD hS dX2_read_105
        · have c37_5 : ft1 = 0 := (nI_eqG (a := ft1) (b := 0) (by omega) (by omega)).mp c37_5
          have he0 : ft1 = 0 := c37_5
          have hI9 := rd_run hI he0
          have hp0 := hI9.1
          have hcf := hI9.2.1
          have hrun := hI9.2.2
          have hok0 := hok he0
          have hrl0 := hrl he0
          have hok7 := hok0.1
          refine lv_iload hx hb dX2_read_40 (lv_at hl 6 rfl) ?_
          refine lv_iload hx hb dX2_read_42 (lv_at hl 5 rfl) ?_
          refine lv_icmp_lt (tgt := 78) hx hb dX2_read_44 (by decide) (fun c44_9 => ?_) (fun c44_9 => ?_)
          · have c44_9 : at_ < ee := (nI_ltI (a := at_) (b := ee) (by omega) (by omega)).mp c44_9
            refine lv_iinc (v := nI (at_ + 1)) (lv' := [(6, .int (nI (at_ + 1))), (0, .ref ro), (1, .ref ta), (2, .int (nI nn)), (3, .int (nI h)), (4, .ref pa), (5, .int (nI ee))]) hx hb dX2_read_78 hl (k := 6) rfl (by rw [show Int32.ofInt 1 = nI 1 from by decide, nI_add]) (by decide) rfl (fun ls hl => ?_)
            refine lv_goto (tgt := 27) hx hb dX2_read_81 (by decide) ?_
            exact ih27 (at_ + 1) ee cf x ft1 pl1 sr1 gv1 n1 so1 nu1 (by omega) (Or.inl ⟨he0, hp0, by omega, by rw [show max (at_ + 1) ee = max at_ ee by omega]; exact hrun⟩) (fun _ => hok0) (fun _ => hrl0) (hbb1) (by omega) _ _ hP hD hS _ (lv_sub hl [1, 2, 3, 4, 5, 6, 0] rfl)
          · have c44_9 : ¬ (at_ < ee) := fun h9 => c44_9 ((nI_ltI (a := at_) (b := ee) (by omega) (by omega)).mpr h9)
            refine lv_aload_n hx hb dX2_read_47 rfl (lv_at hl 1 rfl) ?_
            refine lv_iload hx hb dX2_read_48 (lv_at hl 6 rfl) ?_
            refine n_bald hx hb hK hP 1 0 rfl rfl (i := at_) (by omega) (by decide) dX2_read_50 ?_
            have hb_10 := htx  at_
            refine cSi (As := [.int (nI (tx at_))]) (rest := []) ⟨hx, hb, hml, hown, hts⟩ (c_X2_isBlank l  (tx at_) (by omega)) (va_cwS 1 hts (gS mU_134 mU_135 mU_18 mU_136) rfl rfl rfl (by decide +kernel) ⟨Nat.le_of_ble_eq_true rfl, Nat.le_of_ble_eq_true rfl⟩) fbU (fun _ _ _ => trivial) rfl hl.1 rfl (Nat.le_of_ble_eq_true rfl) dX2_read_51 ⟨Nat.zero_le _, Nat.zero_le _⟩ ?_
            refine lv_if_ne (tgt := 78) hx hb dX2_read_54 (by decide) (fun c54_11 => ?_) (fun c54_11 => ?_)
            · have c54_11 : isBlank (tx at_) := bP_t c54_11
              refine lv_iinc (v := nI (at_ + 1)) (lv' := [(6, .int (nI (at_ + 1))), (0, .ref ro), (1, .ref ta), (2, .int (nI nn)), (3, .int (nI h)), (4, .ref pa), (5, .int (nI ee))]) hx hb dX2_read_78 hl (k := 6) rfl (by rw [show Int32.ofInt 1 = nI 1 from by decide, nI_add]) (by decide) rfl (fun ls hl => ?_)
              refine lv_goto (tgt := 27) hx hb dX2_read_81 (by decide) ?_
              exact ih27 (at_ + 1) ee (cf - 1) x ft1 pl1 sr1 gv1 n1 so1 nu1 (by omega) (rd_blank hrun (by omega) (by omega) c54_11 he0 hp0 (by omega)) (fun _ => hok0) (fun _ => hrl0) (hbb1) (by omega) _ _ hP hD hS _ (lv_sub hl [1, 2, 3, 4, 5, 6, 0] rfl)
            · have c54_11 : ¬ (isBlank (tx at_)) := bP_f c54_11
              have hat9 : max at_ ee = at_ := by omega
              rw [hat9] at hrun
              refine lv_aload_n hx hb dX2_read_57 rfl (lv_at hl 1 rfl) ?_
              refine lv_iload hx hb dX2_read_58 (lv_at hl 6 rfl) ?_
              refine lv_iload_n hx hb dX2_read_60 rfl (lv_at hl 2 rfl) ?_
              have hPc := hP.sub (ws' := [(ta, .inl (kt, 200, .inl (nA tx)))]) [1] rfl
              have hKc := hK.sub (tys' := [(kt, .byte)]) [0] rfl
              refine cSi (As := [.ref ta, .int (nI at_), .int (nI nn)]) (rest := []) ⟨hx, hb, hml, hown, hts⟩ (c_X2_tokenEnd l D ta kt tx at_ nn (by omega) (by omega) (htx)) (va_cwS 3 hts (gS mU_137 mU_138 mU_18 mU_139) rfl rfl rfl (by decide +kernel) ⟨Nat.le_of_ble_eq_true rfl, Nat.le_of_ble_eq_true rfl⟩) fbR (PR.of hPc hKc) rfl hl.1 rfl (Nat.le_of_ble_eq_true rfl) dX2_read_61 ⟨Nat.zero_le _, Nat.zero_le _⟩ ?_
              have hf_12 : at_ < endR tx nn at_ ∧ endR tx nn at_ ≤ nn := endR_le (by omega)
              refine lv_istore (lv' := [(5, .int (nI (endR tx nn at_))), (0, .ref ro), (1, .ref ta), (2, .int (nI nn)), (3, .int (nI h)), (4, .ref pa), (6, .int (nI at_))]) hx hb dX2_read_64 hl (by decide) rfl (fun ls hl => ?_)
              refine lv_aload_n hx hb dX2_read_66 rfl (lv_at hl 1 rfl) ?_
              refine lv_aload_n hx hb dX2_read_67 rfl (lv_at hl 2 rfl) ?_
              refine lv_iload hx hb dX2_read_68 (lv_at hl 6 rfl) ?_
              refine lv_iload hx hb dX2_read_70 (lv_at hl 0 rfl) ?_
              refine lv_iload_n hx hb dX2_read_72 rfl (lv_at hl 4 rfl) ?_
              refine lv_aload hx hb dX2_read_73 (lv_at hl 5 rfl) ?_
              refine kVvZ (As := [.ref ta, .int (nI at_), .int (nI (endR tx nn at_)), .int (nI h), .ref pa]) (rest := []) (wr := []) ⟨hx, hb, hml, hown, hts⟩ (c_X2_take l D ro ft1 pl1 sr1 gv1 ta kt tx pa pb pc kb kc n1 so1 nu1 ak adK adV x H.size at_ (endR tx nn at_) h (hrl0) (by rw [hrl0.2.2.1]; exact hok7) (okX_s hok0 hrl0) (hbb1) (by omega) (by omega) (htx) (fun q j h1 h2 => endR_dg q h1 h2) (hh)) (cwV 5 hts (gV mU_146 mU_147 mU_148 mU_18 mU_149) rfl rfl rfl (by decide +kernel) ⟨Nat.le_of_ble_eq_true rfl, Nat.le_of_ble_eq_true rfl⟩) (va_recv hK hP (ci := 2) (q0 := 0) rfl rfl) hP hK hD hS hA hZ [0, 1, 2, 3, 4] [] [0, 1, 2] [] rfl rfl rfl rfl (by decide) rfl rfl rfl hl.1 rfl (Nat.le_of_ble_eq_true rfl) dX2_read_75 ⟨by decide, by decide⟩ (fun u H locs hw hP hD hK hS => ?_)
              obtain ⟨ft_13, pl_13, sr_13, gv_13, n_13, so_13, nu_13⟩ := u
              have htq13 := hw
              have hP := hP.sub (ws' := [(ro, .inr (2, [.int (nI ft_13), .int (nI pl_13), .int (nI sr_13), .int (nI gv_13)])), (ta, .inl (kt, 200, .inl (nA tx))), (pa, .inr (1, [.int (nI n_13), .ref pb, .ref pc])), (pb, .inl (kb, 8, .inl (nA so_13))), (pc, .inl (kc, 32, .inl (nA nu_13)))]) [0, 1, 2, 3, 4] rfl
              have hD := hD.sub (ws' := [(ro, .inr (2, [.int (nI ft_13), .int (nI pl_13), .int (nI sr_13), .int (nI gv_13)])), (ta, .inl (kt, 200, .inl (nA tx))), (pa, .inr (1, [.int (nI n_13), .ref pb, .ref pc])), (pb, .inl (kb, 8, .inl (nA so_13))), (pc, .inl (kc, 32, .inl (nA nu_13)))]) [0, 1, 2, 3, 4] rfl rfl
              have hK : va_K D vwCl [(kt, .byte), (kb, .int), (kc, .int)] s := hK.sub [0, 1, 2] rfl
              refine lv_iinc (v := nI (at_ + 1)) (lv' := [(6, .int (nI (at_ + 1))), (5, .int (nI (endR tx nn at_))), (0, .ref ro), (1, .ref ta), (2, .int (nI nn)), (3, .int (nI h)), (4, .ref pa)]) hx hb dX2_read_78 hl (k := 6) rfl (by rw [show Int32.ofInt 1 = nI 1 from by decide, nI_add]) (by decide) rfl (fun ls hl => ?_)
              refine lv_goto (tgt := 27) hx hb dX2_read_81 (by decide) ?_
              exact ih27 (at_ + 1) (endR tx nn at_) (cf - 1) ((takS h x tx at_ (endR tx nn at_)).2) ft_13 pl_13 sr_13 gv_13 n_13 so_13 nu_13 (by omega) (rd_tok (ee := ee) hrun (by omega) (by omega) c54_11 htq13 he0 hp0 (by omega)) (rd_ok hok0 htq13) (rd_rl htq13) (htq13.2.2) (by omega) _ _ hP hD hS _ (lv_sub hl [2, 3, 4, 5, 6, 1, 0] rfl)
  exact L27_46 ((nn - 0) + 1) 0 0 201 (9, 0, 0, so, nu) 0 4294967295 4294967295 gv 0 so nu (by omega) (Or.inl ⟨rfl, rfl, by omega, by rw [Nat.max_self]⟩) (okX_0) (fun _ => ⟨fun _ => rfl, fun q => absurd rfl q, rfl, rfl, rfl⟩) (⟨hbb.1, hbb.2⟩) (Nat.lt_succ_self _) _ _ hP hD hS _ (lv_sub hl [2, 3, 4, 5, 6, 1, 0] rfl)

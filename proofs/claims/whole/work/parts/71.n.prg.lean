/-! PURE: the call program, on -/
theorem wfM_rd {g : Nat → Nat → Nat} {l1 s2 n3 : Nat → Nat} {x : Nat} (hL : okL g) (hK : rdKeep g l1 s2 n3) (h : wfM g x) : wfM (upA (upA (upA g 1 l1) 2 s2) 3 n3) x := by
  obtain ⟨⟨k1, -⟩, k2, k3, -⟩ := hK
  refine wf_congr (g := g) ⟨fun a ha => ?_, fun _ _ => ⟨rfl, rfl⟩⟩ h
  have h7 := (hL a ha).1
  refine ⟨(k1 (2 + a) (by omega)).symm, fun i hi => ⟨(k2 (16 + 8 * a + i) (by omega)).symm, fun w hw => ?_⟩⟩
  have a4 : arM (g 2 (16 + 8 * a + i)) ≤ 4 := by unfold arM; split <;> (try split) <;> (try split) <;> omega
  exact (k3 (4 * (16 + 8 * a + i) + w) (by omega)).symm
theorem Walked_rd {f f' : Nat → Nat} {g : Nat → Nat → Nat} {t l1 s2 n3 : Nat → Nat} (hM : MBase f g) (hW : Walked f g t) (hK : rdKeep g l1 s2 n3) (h5 : f' 5 = f 5) (h19 : f' 19 = f 19) : Walked f' (upA (upA (upA g 1 l1) 2 s2) 3 n3) t := by
  have hL := hW.okL hM
  have h7 := lay7 hM.1 (fun a ha q => absurd q (fIn_no ha))
  have hw9 := fun (x : Nat) (h : wfM g x) => wfM_rd hL hK h
  obtain ⟨⟨k1, -⟩, k2, k3, -⟩ := hK
  have hpr : prM g (upA (upA (upA g 1 l1) 2 s2) 3 n3) := ⟨⟨k1 0 (by decide), k1 1 (by decide)⟩, fun j hj => k2 j (by omega), fun j hj => k3 j (by omega)⟩
  have A := LayA_congr hpr h7 hW.1
  have h7' : ∀ a, a < 2 → layL (upA (upA (upA g 1 l1) 2 s2) 3 n3) 4294967295 a ≤ 7 := fun a ha => by rw [layL_congr hpr ha]; exact h7 a ha
  have E : eqL g (layG g 4294967295) := eqL_lay h7 (fun a ha => (hW.1.2.2.2 a ha).1) (fun a ha => (hW.1.2.2.2 a ha).2) (fun _ _ => ⟨rfl, rfl⟩)
  have E2 : eqL g (layG (upA (upA (upA g 1 l1) 2 s2) 3 n3) 4294967295) := eqL_lay h7' (fun a ha => (A.2.2.2 a ha).1) (fun a ha => (A.2.2.2 a ha).2) (fun _ _ => ⟨rfl, rfl⟩)
  have h4 := hM.2.2.2.1
  have W1 : eqB (walkB (f 5) g (fun _ => 0) (fun _ => 0) (fun _ => 0) (fun _ => 0)) (WALK (f 5) g 4294967295) := (walk_congr E hL h4).1
  have W2 : eqB (walkB (f 5) g (fun _ => 0) (fun _ => 0) (fun _ => 0) (fun _ => 0)) (WALK (f 5) (upA (upA (upA g 1 l1) 2 s2) 3 n3) 4294967295) := (walk_congr E2 hL h4).1
  unfold Walked
  rw [h5, h19]
  refine ⟨⟨⟨rfl, rfl⟩, fun _ _ => rfl, fun _ _ => rfl, fun a ha => ⟨?_, fun j hj => ?_⟩⟩, ⟨hW.2.1.1, fun i hi => ⟨hw9 _ (hW.2.1.2 i hi).1, (hW.2.1.2 i hi).2⟩⟩, eqB_trans hW.2.2 (eqB_trans (eqB_sym W1) W2)⟩
  · show l1 (2 + a) = _
    rw [k1 _ (by omega)]; exact (A.2.2.2 a ha).1
  · obtain ⟨p, q⟩ := (A.2.2.2 a ha).2 j hj
    have := h7' a ha
    exact ⟨(k2 _ (by omega)).trans p, fun n w hw => (k3 _ (by omega)).trans (q n w hw)⟩
theorem rd_lt {g : Nat → Nat → Nat} {l1 ss nn : Nat → Nat} (h : ∀ a, a < 6 → ∀ i, g a i < 2147483648) (h1 : ∀ j, l1 j < 2147483648) (h2 : ∀ j, ss j < 2147483648 ∧ nn j < 2147483648) : ∀ a, a < 6 → ∀ i, (upA (upA (upA g 1 l1) 2 ss) 3 nn) a i < 2147483648 := fun a ha i => by
  by_cases e3 : a = 3
  · subst e3; exact (h2 i).2
  · rw [upA_n e3]
    by_cases e2 : a = 2
    · subst e2; exact (h2 i).1
    · rw [upA_n e2]
      by_cases e1 : a = 1
      · subst e1; exact h1 i
      · rw [upA_n e1]; exact h a ha i
/-- a refused program -/
theorem prog_fault {L : Nat} {f : Nat → Nat} {g : Nat → Nat → Nat} {mf : Nat → Nat} {mg : Nat → Nat → Nat} {mt : Nat → Nat} {ft pl sr gv n e p k v : Nat} {so nu l1 s2 n3 : Nat → Nat} (hX : XInv L f g) (hr : XR f g mf mg) (hI : MInv mf mg mt) (hft : ft ≤ 3) (hpl : pl ≤ 200) (hb : ∀ j, so j < 2147483648 ∧ nu j < 2147483648) (hK : rdKeep mg l1 s2 n3) (hp : pl = p) : XInv L (upN (upN (upN (upN (upN (upN f 0 0) 3 ft) 4 pl) 5 sr) 6 gv) 7 n) (upA (upA g 4 so) 5 nu) ∧ XR (upN (upN (upN (upN (upN (upN f 0 0) 3 ft) 4 pl) 5 sr) 6 gv) 7 n) (upA (upA g 4 so) 5 nu) (upN (upN (upN (upN (upN (upN (upN mf 7 0) 8 ft) 9 p) 10 e) 11 p) 12 k) 13 v) (upA (upA (upA mg 1 l1) 2 s2) 3 n3) ∧ MInv (upN (upN (upN (upN (upN (upN (upN mf 7 0) 8 ft) 9 p) 10 e) 11 p) 12 k) 13 v) (upA (upA (upA mg 1 l1) 2 s2) 3 n3) mt := by
  subst hp
  obtain ⟨⟨k1, k4⟩, k2, k3, k5⟩ := id hK
  have hpr : prM mg (upA (upA (upA mg 1 l1) 2 s2) 3 n3) := ⟨⟨k1 0 (by decide), k1 1 (by decide)⟩, fun j hj => k2 j (by omega), fun j hj => k3 j (by omega)⟩
  have R := XR_same (mf' := mf) (mg' := upA (upA (upA mg 1 l1) 2 s2) 3 n3) hr hX.1.2.1.1 hX.1.2.1.2.1 ⟨fun _ _ _ => rfl, hpr, rfl, rfl, rfl, rfl⟩
  obtain ⟨⟨⟨a0, a1, a2, a3, a4, a5⟩, b1, c1, d1, i1, f1⟩, t⟩ := hX
  obtain ⟨⟨r0, r1, r2, r3, r4⟩, r5, r6, r7, r8⟩ := R
  obtain ⟨hM, hW⟩ := hI
  refine ⟨⟨⟨⟨Nat.zero_le _, a1, a2, by show ft < 4294967296; omega, by show pl < 4294967296; omega, a5⟩, b1, upA_lt (upA_lt c1 (fun j => (hb j).1)) (fun j => (hb j).2), d1, i1, f1⟩, t⟩, ⟨⟨rfl, fun j hj => absurd hj (Nat.not_lt_zero j), rfl, rfl, r4⟩, r5, r6, r7, r8⟩, ?_, fun q => Walked_rd hM (hW q) hK rfl rfl⟩
  obtain ⟨m1, m2, m3, m4, m5, m6, m7, m8, m9, m10, m11, m12⟩ := hM
  refine ⟨okP_congr hpr m1, rd_lt m2 (fun j => ?_) k5, m3, m4, m5, Nat.zero_le _, m7, by show ft < 4294967296; omega, by show pl < 4294967296; omega, m10, m11, m12⟩
  by_cases q : j = 4
  · rw [q]; omega
  · rw [k1 j q]; exact m2 1 (by decide) j
theorem pk_other {mg : Nat → Nat → Nat} {h a i w : Nat} {x : PT9} {l1 ss nn : Nat → Nat} (hk : prKeep mg h x l1 ss nn) (ha : a < 2) (hh : h < 2) (hn : a ≠ h) (hi : i < 8) (hw : w < 4) : l1 a = mg 1 a ∧ ss (8 * a + i) = mg 2 (8 * a + i) ∧ nn (4 * (8 * a + i) + w) = mg 3 (4 * (8 * a + i) + w) := by
  obtain ⟨-, ⟨k1, -⟩, -, k2, k3, -⟩ := hk
  refine ⟨k1 a (by omega) hn, k2 _ (by omega) ?_, k3 _ (by omega) ?_⟩
  · rcases (show (a = 0 ∧ h = 1) ∨ (a = 1 ∧ h = 0) by omega) with ⟨rfl, rfl⟩ | ⟨rfl, rfl⟩ <;> omega
  · rcases (show (a = 0 ∧ h = 1) ∨ (a = 1 ∧ h = 0) by omega) with ⟨rfl, rfl⟩ | ⟨rfl, rfl⟩ <;> omega
theorem pk_okP {mg : Nat → Nat → Nat} {h : Nat} {x : PT9} {l1 ss nn : Nat → Nat} (hP : okP mg) (hk : prKeep mg h x l1 ss nn) (hh : h < 2) (hv : PV h x) : okP (upA (upA (upA mg 1 l1) 2 ss) 3 nn) := fun a ha => by
  show l1 a ≤ 7 ∧ ∀ i, i < l1 a → okS (ss (8 * a + i)) (nn (4 * (8 * a + i))) (nn (4 * (8 * a + i) + 1)) (nn (4 * (8 * a + i) + 2)) (nn (4 * (8 * a + i) + 3)) ∧ (ss (8 * a + i) = 8 → nn (4 * (8 * a + i) + 2) ≤ 7)
  by_cases e : a = h
  · subst e
    rw [hk.1]
    refine ⟨hv.1, fun i hi => ?_⟩
    obtain ⟨q1, q2⟩ := hk.2.2.1 i hi
    have w0 : nn (4 * (8 * a + i)) = x.2.2.2.2 (4 * i) := q2 0 (by decide)
    rw [q1, w0, q2 1 (by decide), q2 2 (by decide), q2 3 (by decide)]
    exact okS_may hh (hv.2.1 i hi)
  · have h7 := (hP a ha).1
    rw [(pk_other hk ha hh e (show 0 < 8 by decide) (show 0 < 4 by decide)).1]
    refine ⟨h7, fun i hi => ?_⟩
    have o := fun (w : Nat) (hw : w < 4) => pk_other hk ha hh e (show i < 8 by omega) hw
    have w0 : nn (4 * (8 * a + i)) = mg 3 (4 * (8 * a + i)) := (o 0 (by decide)).2.2
    rw [(o 0 (by decide)).2.1, w0, (o 1 (by decide)).2.2, (o 2 (by decide)).2.2, (o 3 (by decide)).2.2]
    exact (hP a ha).2 i hi
theorem pk_own {mg : Nat → Nat → Nat} {h n : Nat} {x : PT9} {so nu l1 ss nn : Nat → Nat} (hk : prKeep mg h x l1 ss nn) (hn : n = x.2.2.1) (hs : ∀ i, i < n → so i = x.2.2.2.1 i ∧ ∀ w, w < arM (so i) → nu (4 * i + w) = x.2.2.2.2 (4 * i + w)) : progR n so nu (upA (upA (upA mg 1 l1) 2 ss) 3 nn) h := fun i hi => by
  obtain ⟨p1, p2⟩ := hs i hi
  obtain ⟨q1, q2⟩ := hk.2.2.1 i (hn ▸ hi)
  have a4 : arM (so i) ≤ 4 := by unfold arM; split <;> (try split) <;> (try split) <;> omega
  refine ⟨p1.trans q1.symm, fun w hw => ?_⟩
  rw [Nat.mul_comm i 4]
  exact (p2 w hw).trans (q2 w (by omega)).symm
theorem pk_oth {mg : Nat → Nat → Nat} {h a n : Nat} {x : PT9} {so nu l1 ss nn : Nat → Nat} (hk : prKeep mg h x l1 ss nn) (ha : a < 2) (hh : h < 2) (hne : a ≠ h) (hn : n ≤ 7) (hs : progR n so nu mg a) : progR n so nu (upA (upA (upA mg 1 l1) 2 ss) 3 nn) a := fun i hi => by
  obtain ⟨p1, p2⟩ := hs i hi
  have a4 : arM (so i) ≤ 4 := by unfold arM; split <;> (try split) <;> (try split) <;> omega
  have o := fun (w : Nat) (hw : w < 4) => pk_other hk ha hh hne (show i < 8 by omega) hw
  exact ⟨p1.trans (o 0 (by decide)).2.1.symm, fun w hw => (p2 w hw).trans (o w (by omega)).2.2.symm⟩
theorem pk_MBase {mf : Nat → Nat} {mg : Nat → Nat → Nat} {h e p k v : Nat} {x : PT9} {l1 ss nn : Nat → Nat} (hM : MBase mf mg) (hk : prKeep mg h x l1 ss nn) (hh : h < 2) (hv : PV h x) : MBase (upN (upN (upN (upN (upN (upN (upN (upN mf 7 0) 8 0) 9 4294967295) 10 e) 11 p) 12 k) 13 v) 20 0) (upA (upA (upA mg 1 l1) 2 ss) 3 nn) := by
  obtain ⟨m1, m2, m3, m4, m5, m6, m7, m8, m9, m10, m11, m12⟩ := hM
  refine ⟨pk_okP m1 hk hh hv, rd_lt m2 (fun j => ?_) hk.2.2.2.2.2, m3, m4, m5, Nat.zero_le _, m7, Nat.zero_lt_succ _, Nat.lt_succ_self 4294967295, Nat.zero_lt_two, m11, m12⟩
  by_cases q : j = 4
  · have := hk.2.1.2
    rw [q]; omega
  · by_cases qh : j = h
    · have := hv.1
      rw [qh, hk.1]; omega
    · rw [hk.2.1.1 j q qh]; exact m2 1 (by decide) j
/-- program: the two agree -/
theorem program_call {ad : Nat → Nat} {ka : Nat → ClassId} {L : Nat} {f : Nat → Nat} {g : Nat → Nat → Nat} {mf : Nat → Nat} {mg : Nat → Nat → Nat} {mt : Nat → Nat} {h : Nat} {r r' : Int32} {u : XSt} {m : MSt} (hX : XInv L f g) (hr : XR f g mf mg) (hI : MInv mf mg mt) (hf6 : f 6 < 2147483648)
    (hC : (¬ h ≤ 1 → r = nI 4294967295 ∧ u = (ad, ka, L, f, g)) ∧ (h ≤ 1 → ∃ (ft pl sr gv n : Nat) (so nu : Nat → Nat), rdPost (runR (g 1) (f 0) h 201 0 (9, 0, 0, g 4, g 5)) (ft, pl, sr, gv, n, so, nu) ∧ (ft ≠ 0 → r = nI 4294967295 ∧ u = (ad, ka, L, upN (upN (upN (upN (upN (upN f 0 0) 3 ft) 4 pl) 5 sr) 6 gv) 7 n, upA (upA g 4 so) 5 nu)) ∧ (ft = 0 → r = nI n ∧ (h = 0 → u = (upN (upN (upN (upN (upN (upN (ad) 3 (ad 13)) 4 (ad 14)) 5 (ad 15)) 13 (ad 3)) 14 (ad 4)) 15 (ad 5), upK (upK (upK (upK (ka) 4 (ka 14)) 5 (ka 15)) 14 (ka 4)) 15 (ka 5), L, upN (upN (upN (upN (upN (upN (upN (upN (f) 0 0) 1 0) 3 ft) 4 pl) 5 sr) 6 gv) 7 (f 10)) 10 n, upA (upA (upA (upA (g) 4 (g 14)) 5 (g 15)) 14 (so)) 15 (nu))) ∧ (h = 1 → u = (upN (upN (upN (upN (upN (upN (ad) 3 (ad 16)) 4 (ad 17)) 5 (ad 18)) 16 (ad 3)) 17 (ad 4)) 18 (ad 5), upK (upK (upK (upK (ka) 4 (ka 17)) 5 (ka 18)) 17 (ka 4)) 18 (ka 5), L, upN (upN (upN (upN (upN (upN (upN (upN (f) 0 0) 1 0) 3 ft) 4 pl) 5 sr) 6 gv) 7 (f 11)) 11 n, upA (upA (upA (upA (g) 4 (g 17)) 5 (g 18)) 17 (so)) 18 (nu))))))
    (hK : (¬ h ≤ 1 → r' = nI 4294967295 ∧ m = (mf, mg, mt)) ∧ (h ≤ 1 → progPost mf mg mt h (runT (mg 6) (mf 7) h 201 0 (9, 0, 0, fun j => mg 2 (32 + j), fun j => mg 3 (128 + j))) r' m)) : r = r' ∧ xOK u m ∧ u.2.2.2.1 6 < 2147483648 ∧ u.2.2.1 = L ∧ u.2.2.2.1 12 = f 12 := by
  by_cases hh : h ≤ 1
  · obtain ⟨ft, pl, sr, gv, n, so, nu, hR, hF, hG⟩ := hC.2 hh
    obtain ⟨K1, K2⟩ := hK.2 hh
    have hq : txq (g 1) (mg 6) (f 0) := ⟨hI.1.2.2.2.2.2.2.1, hr.1.2.1⟩
    have h200 : f 0 ≤ 200 := hX.1.1.1
    rw [← hr.1.1] at K1 K2
    obtain ⟨S1, S2, S3⟩ := read_rel (so := g 4) (nu := g 5) (so' := fun j => mg 2 (32 + j)) (nu' := fun j => mg 3 (128 + j)) hq (show h < 2 by omega) h200
    have V := PV_run (q := mg 6) (n := f 0) 201 0 _ (PV_0 h (fun j => mg 2 (32 + j)) (fun j => mg 3 (128 + j)))
    have O := run_okQ (so := g 4) (nu := g 5) hq (show h < 2 by omega) h200
    have P := runR_pl (tx := g 1) (n := f 0) (h := h) 201 0 (9, 0, 0, g 4, g 5) (Nat.zero_le _)
    have T3 := run_3 (q := mg 6) (n := f 0) (h := h) 201 0 (9, 0, 0, fun j => mg 2 (32 + j), fun j => mg 3 (128 + j))
    generalize runR (g 1) (f 0) h 201 0 (9, 0, 0, g 4, g 5) = R at *
    generalize runT (mg 6) (f 0) h 201 0 (9, 0, 0, fun j => mg 2 (32 + j), fun j => mg 3 (128 + j)) = T at *
    obtain ⟨e1, e2, e3, e4, e5⟩ := hR
    dsimp only at e1 e2 e3 e4 e5
    by_cases z : ft = 0
    · obtain ⟨p1, p2, p3, p4⟩ := e3 (e1.symm.trans z)
      have T0 : T.1 = 0 := by rw [← S1, ← e1]; exact z
      obtain ⟨g1, g2, g3⟩ := hG z
      obtain ⟨q1, e, p, k, v, l1, ss, nn, q2, q3⟩ := K2 T0
      obtain ⟨-, -, s3, s4, -⟩ := S3
      rw [← p2] at s3 O s4
      rw [← p3, ← p4] at O s4
      subst z p1
      rw [T0] at q2
      subst q2
      have MB := pk_MBase (e := e) (p := p) (k := k) (v := v) hI.1 q3 (show h < 2 by omega) V
      obtain ⟨⟨⟨a0, a1, a2, a3, a4, a5⟩, ⟨b1, b2, b3, b4, b5, b6⟩, c1, d1, i1, f1⟩, t⟩ := hX
      obtain ⟨⟨r0, r1, r2, r3, r4⟩, r5, ⟨r61, r62, r63, r64⟩, r7, r8⟩ := hr
      refine ⟨by rw [g1, q1, s3], ?_⟩
      rcases (show h = 0 ∨ h = 1 by omega) with rfl | rfl
      · have hu := g2 rfl
        subst hu
        refine ⟨⟨⟨⟨⟨Nat.zero_le _, Nat.zero_lt_two, a2, Nat.zero_lt_succ _, Nat.lt_succ_self 4294967295, a5⟩, ⟨O.1, b2, O.2.1, b4, O.2.2, b6⟩, upA_lt (upA_lt (upA_lt (upA_lt c1 (c1 14 (by decide) (by decide) (by decide))) (c1 15 (by decide) (by decide) (by decide))) (fun j => (e4 j).1)) (fun j => (e4 j).2), d1, i1, f1⟩, fun q => absurd rfl q⟩, ⟨⟨rfl, fun j hj => absurd hj (Nat.not_lt_zero j), rfl, rfl, r4⟩, r5, ⟨s3.trans q3.1.symm, r62.trans (q3.2.1.1 1 (by decide) (by decide)).symm, pk_own q3 s3 s4, pk_oth q3 (by decide) (by decide) (by decide) b2 r64⟩, r7, r8⟩, MB, fun q => absurd rfl q⟩, e5, rfl, rfl⟩
      · have hu := g3 rfl
        subst hu
        refine ⟨⟨⟨⟨⟨Nat.zero_le _, Nat.zero_lt_two, a2, Nat.zero_lt_succ _, Nat.lt_succ_self 4294967295, a5⟩, ⟨b1, O.1, b3, O.2.1, b5, O.2.2⟩, upA_lt (upA_lt (upA_lt (upA_lt c1 (c1 17 (by decide) (by decide) (by decide))) (c1 18 (by decide) (by decide) (by decide))) (fun j => (e4 j).1)) (fun j => (e4 j).2), d1, i1, f1⟩, fun q => absurd rfl q⟩, ⟨⟨rfl, fun j hj => absurd hj (Nat.not_lt_zero j), rfl, rfl, r4⟩, r5, ⟨r61.trans (q3.2.1.1 0 (by decide) (by decide)).symm, s3.trans q3.1.symm, pk_oth q3 (by decide) (by decide) (by decide) b1 r63, pk_own q3 s3 s4⟩, r7, r8⟩, MB, fun q => absurd rfl q⟩, e5, rfl, rfl⟩
    · have T0 : T.1 ≠ 0 := by rw [← S1, ← e1]; exact z
      have z' : R.1 ≠ 0 := by rw [← e1]; exact z
      have p2 := e2 z'
      obtain ⟨g1, g2⟩ := hF z
      obtain ⟨q1, e, p, k, v, l1, s2, n3, q2, q3, q4⟩ := K1 T0
      have ef : T.1 = ft := by rw [← S1, ← e1]
      rw [ef] at q2 T3
      have ep : pl = p := by rw [p2, S2, q4]
      have F := prog_fault (sr := sr) (gv := gv) (n := n) (e := e) (k := k) (v := v) hX hr hI T3 (show pl ≤ 200 by omega) e4 q3 ep
      subst g2 q2
      exact ⟨g1.trans q1.symm, F, e5, rfl, rfl⟩
  · obtain ⟨c1, c2⟩ := hC.1 hh
    obtain ⟨k1, k2⟩ := hK.1 hh
    subst c2 k2
    exact ⟨c1.trans k1.symm, ⟨hX, hr, hI⟩, hf6, rfl, rfl⟩

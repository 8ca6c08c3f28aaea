theorem wb_tb (n : Nat) : (lN n).toBitVec = BitVec.ofNat 64 n := rfl
theorem wb_inj {a b : Int64} (h : a.toBitVec = b.toBitVec) : a = b := Int64.toBitVec_inj.mp h
theorem wb_tn {n : Nat} (h : n < 2 ^ 64) : (lN n).toBitVec.toNat = n := by rw [wb_tb, BitVec.toNat_ofNat, Nat.mod_eq_of_lt h]
theorem wb_of (x : Int64) : ∃ n, n < 2 ^ 64 ∧ x = lN n := ⟨x.toBitVec.toNat, x.toBitVec.isLt, wb_inj (by rw [wb_tb]; simp)⟩
theorem wb_of32 (x : Int32) : ∃ n, n < 2 ^ 32 ∧ x = nI n := ⟨x.toBitVec.toNat, x.toBitVec.isLt, Int32.toBitVec_inj.mp (by show _ = BitVec.ofNat 32 _; simp)⟩
theorem wb_c : ∀ k, k < 64 → ((nI k).toInt64 &&& 63) = lN k := by decide +kernel
theorem wb_cu : ∀ k, k < 64 → ((nI k).toInt64.toUInt64 &&& Int64.toUInt64 63) = UInt64.ofNat k := by decide +kernel
theorem wb_sm : ∀ k, k < 64 → (BitVec.ofNat 64 k).smod 64 = BitVec.ofNat 64 k := by decide +kernel
theorem wb_pw {a b : Nat} (h : a ≤ b) : 2 ^ b = 2 ^ a * 2 ^ (b - a) := by rw [← Nat.pow_add]; congr 1; omega
theorem wb_lt2 {a b : Nat} (h : a < b) : 2 ^ a < 2 ^ b := Nat.pow_lt_pow_right (by decide) h
theorem wb_mod (n : Nat) : lN n = lN (n % 2 ^ 64) := wb_inj (by rw [wb_tb, wb_tb]; apply BitVec.eq_of_toNat_eq; rw [BitVec.toNat_ofNat, BitVec.toNat_ofNat, Nat.mod_mod])
theorem wb_shr {n k : Nat} (hn : n < 2 ^ 64) (hk : k < 64) : ((lN n).toUInt64 >>> ((nI k).toInt64.toUInt64 &&& Int64.toUInt64 63)).toInt64 = lN (n / 2 ^ k) := by
  rw [wb_cu k hk]
  apply wb_inj
  apply BitVec.eq_of_toNat_eq
  show ((lN n).toUInt64 >>> UInt64.ofNat k).toNat = (BitVec.ofNat 64 _).toNat
  have h1 : (UInt64.ofNat k).toNat = k := by
    show (BitVec.ofNat 64 k).toNat = k
    rw [BitVec.toNat_ofNat, Nat.mod_eq_of_lt (by omega)]
  have h2 : (lN n).toUInt64.toNat = n := wb_tn hn
  rw [UInt64.toNat_shiftRight, h1, h2, Nat.mod_eq_of_lt hk, Nat.shiftRight_eq_div_pow, BitVec.toNat_ofNat, Nat.mod_eq_of_lt (Nat.lt_of_le_of_lt (Nat.div_le_self _ _) hn)]
theorem wb_shl (n : Nat) {k : Nat} (hk : k < 64) : lN n <<< ((nI k).toInt64 &&& 63) = lN (n * 2 ^ k) := by
  rw [wb_c k hk]
  apply wb_inj
  rw [Int64.toBitVec_shiftLeft, wb_tb, wb_tb, wb_tb, wb_sm k hk]
  apply BitVec.eq_of_toNat_eq
  rw [BitVec.shiftLeft_eq', BitVec.toNat_shiftLeft, BitVec.toNat_ofNat, BitVec.toNat_ofNat, BitVec.toNat_ofNat, Nat.mod_eq_of_lt (show k < 2 ^ 64 by omega), Nat.shiftLeft_eq, Nat.mul_mod, Nat.mod_mod, ← Nat.mul_mod]
theorem wb_and {a b : Nat} (ha : a < 2 ^ 64) (hb : b < 2 ^ 64) : lN a &&& lN b = lN (a &&& b) := by
  apply wb_inj
  rw [Int64.toBitVec_and, wb_tb, wb_tb, wb_tb]
  apply BitVec.eq_of_toNat_eq
  rw [BitVec.toNat_and, BitVec.toNat_ofNat, BitVec.toNat_ofNat, BitVec.toNat_ofNat, Nat.mod_eq_of_lt ha, Nat.mod_eq_of_lt hb, Nat.mod_eq_of_lt (Nat.and_lt_two_pow _ hb)]
theorem wb_or {a b : Nat} (ha : a < 2 ^ 64) (hb : b < 2 ^ 64) : lN a ||| lN b = lN (a ||| b) := by
  apply wb_inj
  rw [Int64.toBitVec_or, wb_tb, wb_tb, wb_tb]
  apply BitVec.eq_of_toNat_eq
  rw [BitVec.toNat_or, BitVec.toNat_ofNat, BitVec.toNat_ofNat, BitVec.toNat_ofNat, Nat.mod_eq_of_lt ha, Nat.mod_eq_of_lt hb, Nat.mod_eq_of_lt (Nat.or_lt_two_pow ha hb)]
theorem wb_mask {n k : Nat} (hn : n < 2 ^ 64) (hk : k < 64) : lN n &&& lN (2 ^ k - 1) = lN (n % 2 ^ k) := by
  rw [wb_and hn (by have := wb_lt2 hk; omega), Nat.and_two_pow_sub_one_eq_mod]
theorem wb_a1 {n : Nat} (hn : n < 2 ^ 64) : lN n &&& 1 = lN (n % 2) := wb_mask (k := 1) hn (by decide)
theorem wb_bit {n k : Nat} (hn : n < 2 ^ 64) (hk : k < 64) : ((lN n).toUInt64 >>> ((nI k).toInt64.toUInt64 &&& Int64.toUInt64 63)).toInt64 &&& 1 = lN (n / 2 ^ k % 2) := by
  rw [wb_shr hn hk, wb_a1 (Nat.lt_of_le_of_lt (Nat.div_le_self _ _) hn)]
theorem pf_lI {a : Nat} (h : a < 2 ^ 63) : (lN a).toInt = (a : Int) := lg_ofNat_toInt h
theorem pf_shr {a d : Nat} {D : Int64} (hD : (D.toBitVec.smod 64).toNat = d) (h : a < 2 ^ 62) : lN a >>> D = lN (a / 2 ^ d) := by
  have hd : a / 2 ^ d ≤ a := Nat.div_le_self _ _
  apply Int64.toInt_inj.mp
  have e : (lN a >>> D).toInt = (lN a).toInt >>> d := by
    rw [← hD]
    exact BitVec.toInt_sshiftRight ..
  rw [e, Int.shiftRight_eq_div_pow, pf_lI (by omega), pf_lI (by omega)]
  rfl
theorem fa_and (a b : Nat) : nI a &&& nI b = nI (a &&& b) := by
  apply Int32.toBitVec_inj.1
  show BitVec.ofNat 32 a &&& BitVec.ofNat 32 b = BitVec.ofNat 32 (a &&& b)
  apply BitVec.eq_of_getLsbD_eq
  intro i hi
  simp [hi]
theorem fa_or (a b : Nat) : nI a ||| nI b = nI (a ||| b) := by
  apply Int32.toBitVec_inj.1
  show BitVec.ofNat 32 a ||| BitVec.ofNat 32 b = BitVec.ofNat 32 (a ||| b)
  apply BitVec.eq_of_getLsbD_eq
  intro i hi
  simp [hi]
/-- a remainder by a power of two, as a mask -/
theorem fa_mask (n k : Nat) : nI n &&& nI (2 ^ k - 1) = nI (n % 2 ^ k) := by rw [fa_and, Nat.and_two_pow_sub_one_eq_mod]
/-- 'or' of a high part and a low one that don't meet is their sum -/
theorem fa_or_sum {a k : Nat} (b : Nat) (h : a < 2 ^ k) : nI (2 ^ k * b) ||| nI a = nI (2 ^ k * b + a) := by rw [fa_or, Nat.two_pow_add_eq_or_of_lt h]

/-! own: fields of a number: bitsN x f w the w bits from f on, withN the same with v there -/
def bitsN (x f w : Nat) : Nat := x / 2 ^ f % 2 ^ w
def withN (x f w v : Nat) : Nat := 2 ^ (f + w) * (x / 2 ^ (f + w)) + (2 ^ f * v + x % 2 ^ f)
theorem bitsN_lt (x f w : Nat) : bitsN x f w < 2 ^ w := Nat.mod_lt _ (Nat.two_pow_pos w)
theorem bitsN_tb (x f w i : Nat) : (bitsN x f w).testBit i = (decide (i < w) && x.testBit (f + i)) := by
  unfold bitsN
  rw [Nat.testBit_mod_two_pow, Nat.testBit_div_two_pow]
  rw [Nat.add_comm i f]
theorem withN_tb {x f w v : Nat} (hv : v < 2 ^ w) (i : Nat) : (withN x f w v).testBit i = if i < f then x.testBit i else if i < f + w then v.testBit (i - f) else x.testBit i := by
  unfold withN
  have h0 : x % 2 ^ f < 2 ^ f := Nat.mod_lt _ (Nat.two_pow_pos f)
  have h1 : 2 ^ f * v + x % 2 ^ f < 2 ^ (f + w) := by
    calc 2 ^ f * v + x % 2 ^ f < 2 ^ f * v + 2 ^ f := by omega
      _ = 2 ^ f * (v + 1) := by rw [Nat.mul_add, Nat.mul_one]
      _ ≤ 2 ^ f * 2 ^ w := Nat.mul_le_mul_left _ hv
      _ = 2 ^ (f + w) := (Nat.pow_add 2 f w).symm
  rw [Nat.testBit_two_pow_mul_add _ h1]
  by_cases a : i < f + w
  · rw [if_pos a, Nat.testBit_two_pow_mul_add _ h0]
    by_cases b : i < f
    · rw [if_pos b, if_pos b, Nat.testBit_mod_two_pow]; simp [b]
    · rw [if_neg b, if_neg b, if_pos a]
  · rw [if_neg a, Nat.testBit_div_two_pow, if_neg (by omega), if_neg a]
    congr 1; omega
theorem tb_hi {v w i : Nat} (hv : v < 2 ^ w) (h : w ≤ i) : v.testBit i = false := Nat.testBit_lt_two_pow (Nat.lt_of_lt_of_le hv (Nat.pow_le_pow_right (by decide) h))
theorem bw_same {x f w v : Nat} (hv : v < 2 ^ w) : bitsN (withN x f w v) f w = v := Nat.eq_of_testBit_eq (fun i => by
  rw [bitsN_tb, withN_tb hv]
  by_cases h : i < w
  · rw [if_neg (by omega), if_pos (by omega)]
    simp [h]
  · rw [show decide (i < w) = false by simp [h], Bool.false_and, tb_hi hv (by omega)])
theorem bw_ne {x f w v f' w' : Nat} (hv : v < 2 ^ w) (h : f' + w' ≤ f ∨ f + w ≤ f') : bitsN (withN x f w v) f' w' = bitsN x f' w' := Nat.eq_of_testBit_eq (fun i => by
  rw [bitsN_tb, bitsN_tb, withN_tb hv]
  by_cases q : i < w'
  · by_cases a : f' + i < f
    · rw [if_pos a]
    · rw [if_neg a, if_neg (by omega)]
  · simp [q])
theorem withN_lt {x f w v n : Nat} (hx : x < 2 ^ n) (hv : v < 2 ^ w) (h : f + w ≤ n) : withN x f w v < 2 ^ n := Nat.lt_pow_two_of_testBit _ (fun i hi => by
  rw [withN_tb hv, if_neg (by omega), if_neg (by omega)]
  exact tb_hi hx hi)
theorem bitsN_all {x n : Nat} (hx : x < 2 ^ n) : bitsN x 0 n = x := by unfold bitsN; rw [Nat.pow_zero, Nat.div_one, Nat.mod_eq_of_lt hx]
/-- two fields side by side -/
theorem bitsN_cat (x f a b : Nat) : bitsN x f (a + b) = 2 ^ a * bitsN x (f + a) b + bitsN x f a := Nat.eq_of_testBit_eq (fun i => by
  rw [Nat.testBit_two_pow_mul_add _ (bitsN_lt x f a), bitsN_tb, bitsN_tb, bitsN_tb]
  by_cases h : i < a
  · simp [h, show i < a + b by omega]
  · rw [if_neg h, show f + a + (i - a) = f + i by omega]
    by_cases q : i < a + b
    · simp [q, show i - a < b by omega]
    · simp [q, show ¬ i - a < b by omega])
theorem bitsN_bitsN {x f w f' w' : Nat} (h : f' + w' ≤ w) : bitsN (bitsN x f w) f' w' = bitsN x (f + f') w' := Nat.eq_of_testBit_eq (fun i => by
  rw [bitsN_tb, bitsN_tb, bitsN_tb]
  by_cases q : i < w'
  · simp [q, show f' + i < w by omega, Nat.add_assoc]
  · simp [q])
theorem z_one : ∀ w, w < 31 → (nI 1 <<< (nI w &&& 31)) - nI 1 = nI (2 ^ w - 1) := by decide +kernel
theorem z_sh : ∀ k, k < 64 → (((nI k).toInt64 &&& 63).toBitVec.smod 64).toNat = k := by decide +kernel
theorem z_bits {x f w : Nat} (hx : x < 2 ^ 62) (hf : f < 64) (hw : w < 31) : (lN x >>> ((nI f).toInt64 &&& 63)).toInt32 &&& ((nI 1 <<< (nI w &&& 31)) - nI 1) = nI (bitsN x f w) := by
  rw [pf_shr (z_sh f hf) hx, lN_i, z_one w hw, fa_mask]; rfl
theorem z_bitsU {x f w : Nat} (hx : x < 2 ^ 62) (hf : f < 64) : ((lN x).toUInt64 >>> ((nI f).toInt64.toUInt64 &&& Int64.toUInt64 63)).toInt64.toInt32 &&& nI (2 ^ w - 1) = nI (bitsN x f w) := by
  rw [wb_shr (Nat.lt_of_lt_of_le hx (by decide)) hf, lN_i, fa_mask]; rfl
theorem z_core {x f w v : Nat} (hx : x < 2 ^ 62) (hv : v < 2 ^ w) (hf : f + w < 62) : (lN x &&& (lN ((2 ^ w - 1) * 2 ^ f) ^^^ (-1))) ||| lN (v * 2 ^ f) = lN (withN x f w v) := by
  apply wb_inj
  rw [Int64.toBitVec_or, Int64.toBitVec_and, Int64.toBitVec_xor, wb_tb, wb_tb, wb_tb, wb_tb]
  apply BitVec.eq_of_getLsbD_eq
  intro i hi
  rw [BitVec.getLsbD_or, BitVec.getLsbD_and, BitVec.getLsbD_xor, BitVec.getLsbD_ofNat, BitVec.getLsbD_ofNat, BitVec.getLsbD_ofNat, BitVec.getLsbD_ofNat]
  have h1 : (Int64.toBitVec (-1)).getLsbD i = true := by
    rw [show Int64.toBitVec (-1) = BitVec.allOnes 64 from by decide, BitVec.getLsbD_allOnes]; simp [hi]
  rw [h1, withN_tb hv, Nat.testBit_mul_two_pow, Nat.testBit_mul_two_pow, Nat.testBit_two_pow_sub_one]
  by_cases a : i < f
  · simp [hi, a, show ¬ f ≤ i by omega]
  · rw [if_neg a]
    by_cases b : i < f + w
    · rw [if_pos b]; simp [hi, show f ≤ i by omega, show i - f < w by omega]
    · rw [if_neg b, tb_hi hv (show w ≤ i - f by omega)]; simp [hi, show ¬ i - f < w by omega]
theorem z_with {x f w v : Nat} (hx : x < 2 ^ 62) (hv : v < 2 ^ w) (hf : f + w < 62) : (lN x &&& ((((lN 1 <<< ((nI w).toInt64 &&& 63)) - lN 1) <<< ((nI f).toInt64 &&& 63)) ^^^ (-1))) ||| ((lN v) <<< ((nI f).toInt64 &&& 63)) = lN (withN x f w v) := by
  rw [wb_shl 1 (show w < 64 by omega), Nat.one_mul, lN_sub (Nat.two_pow_pos w), wb_shl _ (show f < 64 by omega), wb_shl _ (show f < 64 by omega)]
  exact z_core hx hv hf
theorem z_withC {x f w v : Nat} (hx : x < 2 ^ 62) (hv : v < 2 ^ w) (hf : f + w < 62) : (lN x &&& ((lN (2 ^ w - 1) <<< ((nI f).toInt64 &&& 63)) ^^^ (-1))) ||| ((lN v) <<< ((nI f).toInt64 &&& 63)) = lN (withN x f w v) := by
  rw [wb_shl _ (show f < 64 by omega), wb_shl _ (show f < 64 by omega)]
  exact z_core hx hv hf

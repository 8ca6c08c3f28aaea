/-! PURE: a state of the reference as the class keeps it -/
def dig (x h k : Nat) : Nat := if k < bitsN x (22 + 2 * h) 2 then (bitsN x (26 + 9 * h + 3 * k) 3 + 1) % 8 else 0
theorem dig_lt (x h k : Nat) : dig x h k < 8 := by unfold dig; split <;> omega
def enc (x : Nat) : Nat := x % 4194304 + 4194304 * (dig x 0 0 + 8 * (dig x 0 1 + 8 * (dig x 0 2 + 8 * (dig x 1 0 + 8 * (dig x 1 1 + 8 * (dig x 1 2 + 8 * (x / 17592186044416)))))))
theorem fld_ext {a b : Nat} (h0 : a % 4194304 = b % 4194304) (h1 : bitsN a 22 3 = bitsN b 22 3) (h2 : bitsN a 25 3 = bitsN b 25 3) (h3 : bitsN a 28 3 = bitsN b 28 3) (h4 : bitsN a 31 3 = bitsN b 31 3) (h5 : bitsN a 34 3 = bitsN b 34 3) (h6 : bitsN a 37 3 = bitsN b 37 3) (h7 : a / 2 ^ 40 = b / 2 ^ 40) : a = b := by
  unfold bitsN at *; omega
theorem enc_0 (x : Nat) : enc x % 4194304 = x % 4194304 := by unfold enc; omega
theorem enc_f (x : Nat) : bitsN (enc x) 22 3 = dig x 0 0 ∧ bitsN (enc x) 25 3 = dig x 0 1 ∧ bitsN (enc x) 28 3 = dig x 0 2 ∧ bitsN (enc x) 31 3 = dig x 1 0 ∧ bitsN (enc x) 34 3 = dig x 1 1 ∧ bitsN (enc x) 37 3 = dig x 1 2 ∧ enc x / 2 ^ 40 = x / 2 ^ 44 := by
  have a := dig_lt x 0 0
  have b := dig_lt x 0 1
  have c := dig_lt x 0 2
  have d := dig_lt x 1 0
  have e := dig_lt x 1 1
  have f := dig_lt x 1 2
  unfold enc bitsN
  generalize dig x 0 0 = d0 at *
  generalize dig x 0 1 = d1 at *
  generalize dig x 0 2 = d2 at *
  generalize dig x 1 0 = d3 at *
  generalize dig x 1 1 = d4 at *
  generalize dig x 1 2 = d5 at *
  refine ⟨?_, ?_, ?_, ?_, ?_, ?_, ?_⟩ <;> omega
theorem enc_lt {x : Nat} (hx : x < 2 ^ 48) : enc x < 2 ^ 44 := by
  have := (enc_f x).2.2.2.2.2.2
  omega
theorem enc_dig {x h k : Nat} (hh : h < 2) (hk : k < 3) : bitsN (enc x) (22 + 9 * h + 3 * k) 3 = dig x h k := by
  obtain ⟨a, b, c, d, e, f, -⟩ := enc_f x
  rcases (show h = 0 ∨ h = 1 by omega) with rfl | rfl <;> rcases (show k = 0 ∨ k = 1 ∨ k = 2 by omega) with rfl | rfl | rfl <;> assumption
theorem bits_mod {x f w m : Nat} (h : f + w ≤ m) : bitsN (x % 2 ^ m) f w = bitsN x f w := Nat.eq_of_testBit_eq (fun i => by
  rw [bitsN_tb, bitsN_tb, Nat.testBit_mod_two_pow]
  by_cases q : i < w
  · simp [q, show f + i < m by omega]
  · simp [q])
theorem enc_lo {x f w : Nat} (h : f + w ≤ 22) : bitsN (enc x) f w = bitsN x f w := by
  rw [← bits_mod h, show enc x % 2 ^ 22 = x % 2 ^ 22 from enc_0 x, bits_mod h]
theorem bits_div {x m f w : Nat} : bitsN (x / 2 ^ m) f w = bitsN x (m + f) w := by
  unfold bitsN; rw [Nat.div_div_eq_div_mul, Nat.pow_add]
theorem enc_hb {x f w : Nat} : bitsN (enc x) (40 + f) w = bitsN x (44 + f) w := by
  rw [← bits_div, (enc_f x).2.2.2.2.2.2, bits_div]
theorem wdiv {y f w v m : Nat} (hv : v < 2 ^ w) (h : f + w ≤ m) : withN y f w v / 2 ^ m = y / 2 ^ m := Nat.eq_of_testBit_eq (fun i => by
  rw [Nat.testBit_div_two_pow, Nat.testBit_div_two_pow, withN_tb hv, if_neg (by omega), if_neg (by omega)])
theorem wdivH {y f w v m : Nat} (hv : v < 2 ^ w) : withN y (m + f) w v / 2 ^ m = withN (y / 2 ^ m) f w v := Nat.eq_of_testBit_eq (fun i => by
  rw [Nat.testBit_div_two_pow, withN_tb hv, withN_tb hv, Nat.testBit_div_two_pow]
  by_cases a : i < f
  · rw [if_pos (by omega), if_pos a]
  · rw [if_neg (by omega), if_neg a]
    by_cases b : i < f + w
    · rw [if_pos (by omega), if_pos b]; congr 1; omega
    · rw [if_neg (by omega), if_neg b])
theorem wmod {y f w v m : Nat} (hv : v < 2 ^ w) (h : m ≤ f) : withN y f w v % 2 ^ m = y % 2 ^ m := Nat.eq_of_testBit_eq (fun i => by
  rw [Nat.testBit_mod_two_pow, Nat.testBit_mod_two_pow, withN_tb hv]
  by_cases q : i < m
  · rw [if_pos (show i < f by omega)]
  · simp [q])
theorem wmodL {y f w v m : Nat} (hv : v < 2 ^ w) (h : f + w ≤ m) : withN y f w v % 2 ^ m = withN (y % 2 ^ m) f w v := Nat.eq_of_testBit_eq (fun i => by
  rw [Nat.testBit_mod_two_pow, withN_tb hv, withN_tb hv, Nat.testBit_mod_two_pow]
  by_cases q : i < m
  · simp [q]
  · simp [q, show ¬ i < f by omega, show ¬ i < f + w by omega])
theorem bw_sub {y f w v a b : Nat} (hv : v < 2 ^ w) (h : a + b ≤ w) : bitsN (withN y f w v) (f + a) b = bitsN v a b := Nat.eq_of_testBit_eq (fun i => by
  rw [bitsN_tb, bitsN_tb, withN_tb hv]
  by_cases q : i < b
  · rw [if_neg (by omega), if_pos (by omega), show f + a + i - f = a + i by omega]
  · simp [q])
theorem ww_same {x f w a b : Nat} (ha : a < 2 ^ w) (hb : b < 2 ^ w) : withN (withN x f w a) f w b = withN x f w b := Nat.eq_of_testBit_eq (fun i => by
  rw [withN_tb hb, withN_tb hb, withN_tb ha]
  by_cases p : i < f
  · rw [if_pos p, if_pos p, if_pos p]
  · by_cases q : i < f + w
    · simp [p, q]
    · simp [p, q])
theorem ww_comm {x f w a f' w' b : Nat} (ha : a < 2 ^ w) (hb : b < 2 ^ w') (h : f' + w' ≤ f ∨ f + w ≤ f') : withN (withN x f w a) f' w' b = withN (withN x f' w' b) f w a := Nat.eq_of_testBit_eq (fun i => by
  rw [withN_tb hb, withN_tb ha, withN_tb ha, withN_tb hb]
  by_cases p : i < f <;> by_cases q : i < f + w <;> by_cases p' : i < f' <;> by_cases q' : i < f' + w' <;> simp [p, q, p', q'] <;> omega)
theorem or_fld {y f w v : Nat} (hv : v < 2 ^ w) (h : bitsN y f w = 0) : y ||| v * 2 ^ f = withN y f w v := Nat.eq_of_testBit_eq (fun i => by
  rw [Nat.testBit_or, Nat.testBit_mul_two_pow, withN_tb hv]
  by_cases a : i < f
  · simp [a, show ¬ f ≤ i by omega]
  · rw [if_neg a]
    by_cases b : i < f + w
    · rw [if_pos b]
      have := bitsN_tb y f w (i - f)
      rw [h, Nat.zero_testBit, show f + (i - f) = i by omega] at this
      simp [show i - f < w by omega] at this
      simp [this, show f ≤ i by omega]
    · rw [if_neg b, tb_hi hv (show w ≤ i - f by omega)]; simp)
theorem or_bit {y f : Nat} : y ||| 1 * 2 ^ f = withN y f 1 1 := Nat.eq_of_testBit_eq (fun i => by
  rw [Nat.testBit_or, Nat.testBit_mul_two_pow, withN_tb (by decide)]
  by_cases a : i < f
  · simp [a, show ¬ f ≤ i by omega]
  · rw [if_neg a]
    by_cases b : i < f + 1
    · rw [if_pos b, show i - f = 0 by omega]; simp [show f ≤ i by omega]
    · rw [if_neg b, tb_hi (show 1 < 2 ^ 1 by decide) (show 1 ≤ i - f by omega)]; simp)
theorem dig_low {x f w v h k : Nat} (hv : v < 2 ^ w) (hf : f + w ≤ 22) : dig (withN x f w v) h k = dig x h k := by
  unfold dig; rw [bw_ne hv (by omega), bw_ne hv (by omega)]
theorem dig_hi {x f w v h k : Nat} (hh : h < 2) (hk : k < 3) (hv : v < 2 ^ w) (hf : 44 ≤ f) : dig (withN x f w v) h k = dig x h k := by
  unfold dig; rw [bw_ne hv (by omega), bw_ne hv (by omega)]
theorem enc_low {x f w v : Nat} (hv : v < 2 ^ w) (hf : f + w ≤ 22) : enc (withN x f w v) = withN (enc x) f w v := by
  obtain ⟨a, b, c, d, e, g, i⟩ := enc_f x
  obtain ⟨a', b', c', d', e', g', i'⟩ := enc_f (withN x f w v)
  refine fld_ext ?_ ?_ ?_ ?_ ?_ ?_ ?_ ?_
  · rw [enc_0, show (4194304 : Nat) = 2 ^ 22 from rfl, wmodL hv hf, wmodL hv hf, show enc x % 2 ^ 22 = x % 2 ^ 22 from enc_0 x]
  · rw [a', bw_ne hv (by omega), a, dig_low hv hf]
  · rw [b', bw_ne hv (by omega), b, dig_low hv hf]
  · rw [c', bw_ne hv (by omega), c, dig_low hv hf]
  · rw [d', bw_ne hv (by omega), d, dig_low hv hf]
  · rw [e', bw_ne hv (by omega), e, dig_low hv hf]
  · rw [g', bw_ne hv (by omega), g, dig_low hv hf]
  · rw [i', wdiv hv (by omega), wdiv hv (by omega), i]
theorem enc_fall {x v : Nat} (hv : v < 4) : enc (withN x 46 2 v) = withN (enc x) 42 2 v := by
  have hv : v < 2 ^ 2 := hv
  obtain ⟨a, b, c, d, e, g, i⟩ := enc_f x
  obtain ⟨a', b', c', d', e', g', i'⟩ := enc_f (withN x 46 2 v)
  refine fld_ext ?_ ?_ ?_ ?_ ?_ ?_ ?_ ?_
  · rw [enc_0, show (4194304 : Nat) = 2 ^ 22 from rfl, wmod hv (by omega), wmod hv (by omega), show enc x % 2 ^ 22 = x % 2 ^ 22 from enc_0 x]
  · rw [a', bw_ne hv (by omega), a, dig_hi (by decide) (by decide) hv (by omega)]
  · rw [b', bw_ne hv (by omega), b, dig_hi (by decide) (by decide) hv (by omega)]
  · rw [c', bw_ne hv (by omega), c, dig_hi (by decide) (by decide) hv (by omega)]
  · rw [d', bw_ne hv (by omega), d, dig_hi (by decide) (by decide) hv (by omega)]
  · rw [e', bw_ne hv (by omega), e, dig_hi (by decide) (by decide) hv (by omega)]
  · rw [g', bw_ne hv (by omega), g, dig_hi (by decide) (by decide) hv (by omega)]
  · rw [i', wdivH (m := 44) (f := 2) hv, wdivH (m := 40) (f := 2) hv, i]
theorem enc_broken {x h : Nat} (hh : h < 2) : enc (brokenM x h) = withN (enc x) (22 + 9 * h) 9 0 ||| 1 * 2 ^ (40 + h) := by
  obtain ⟨a, b, c, d, e, g, i⟩ := enc_f x
  obtain ⟨a', b', c', d', e', g', i'⟩ := enc_f (brokenM x h)
  have e9 : 0 < 2 ^ 9 := by decide
  have e2 : 0 < 2 ^ 2 := by decide
  have e1 : 1 < 2 ^ 1 := by decide
  have z : ∀ f w, bitsN 0 f w = 0 := fun f w => by simp [bitsN]
  have own : ∀ k, dig (brokenM x h) h k = 0 := fun k => by
    unfold dig brokenM; rw [bw_ne e1 (by omega), bw_same e2, if_neg (by omega)]
  have oth : ∀ k, k < 3 → dig (brokenM x h) (1 - h) k = dig x (1 - h) k := fun k hk => by
    unfold dig brokenM; rw [bw_ne e1 (by omega), bw_ne e2 (by omega), bw_ne e9 (by omega), bw_ne e1 (by omega), bw_ne e2 (by omega), bw_ne e9 (by omega)]
  have hi : brokenM x h / 2 ^ 44 = withN (x / 2 ^ 44) h 1 1 := by
    unfold brokenM; rw [wdivH e1, wdiv e2 (by omega), wdiv e9 (by omega)]
  rw [or_bit]
  have m0 : enc (brokenM x h) % 4194304 = withN (withN (enc x) (22 + 9 * h) 9 0) (40 + h) 1 1 % 4194304 := by
    rw [enc_0, show (4194304 : Nat) = 2 ^ 22 from rfl, wmod e1 (by omega), wmod e9 (by omega), show enc x % 2 ^ 22 = x % 2 ^ 22 from enc_0 x]
    unfold brokenM
    rw [wmod e1 (by omega), wmod e2 (by omega), wmod e9 (by omega)]
  have m7 : enc (brokenM x h) / 2 ^ 40 = withN (withN (enc x) (22 + 9 * h) 9 0) (40 + h) 1 1 / 2 ^ 40 := by
    rw [i', hi, wdivH e1, wdiv e9 (by omega), i]
  rcases (show h = 0 ∨ h = 1 by omega) with rfl | rfl
  · refine fld_ext m0 ?_ ?_ ?_ ?_ ?_ ?_ m7
    · rw [a', own, bw_ne e1 (by omega)]; exact (z 0 3).symm.trans (bw_sub (f := 22) (a := 0) e9 (by decide)).symm
    · rw [b', own, bw_ne e1 (by omega)]; exact (z 3 3).symm.trans (bw_sub (f := 22) (a := 3) e9 (by decide)).symm
    · rw [c', own, bw_ne e1 (by omega)]; exact (z 6 3).symm.trans (bw_sub (f := 22) (a := 6) e9 (by decide)).symm
    · rw [d', bw_ne e1 (by omega), bw_ne e9 (by omega), d]; exact oth 0 (by decide)
    · rw [e', bw_ne e1 (by omega), bw_ne e9 (by omega), e]; exact oth 1 (by decide)
    · rw [g', bw_ne e1 (by omega), bw_ne e9 (by omega), g]; exact oth 2 (by decide)
  · refine fld_ext m0 ?_ ?_ ?_ ?_ ?_ ?_ m7
    · rw [a', bw_ne e1 (by omega), bw_ne e9 (by omega), a]; exact oth 0 (by decide)
    · rw [b', bw_ne e1 (by omega), bw_ne e9 (by omega), b]; exact oth 1 (by decide)
    · rw [c', bw_ne e1 (by omega), bw_ne e9 (by omega), c]; exact oth 2 (by decide)
    · rw [d', own, bw_ne e1 (by omega)]; exact (z 0 3).symm.trans (bw_sub (f := 31) (a := 0) e9 (by decide)).symm
    · rw [e', own, bw_ne e1 (by omega)]; exact (z 3 3).symm.trans (bw_sub (f := 31) (a := 3) e9 (by decide)).symm
    · rw [g', own, bw_ne e1 (by omega)]; exact (z 6 3).symm.trans (bw_sub (f := 31) (a := 6) e9 (by decide)).symm
/-- a change of one host's queue alone -/
theorem enc_queue {x y h q : Nat} (hh : h < 2) (hq : q < 512) (hlo : y % 4194304 = x % 4194304) (hhi : y / 2 ^ 44 = x / 2 ^ 44) (ho : ∀ k, k < 3 → dig y (1 - h) k = dig x (1 - h) k) (hd : ∀ k, k < 3 → dig y h k = bitsN q (3 * k) 3) : enc y = withN (enc x) (22 + 9 * h) 9 q := by
  have hq : q < 2 ^ 9 := hq
  obtain ⟨a, b, c, d, e, g, i⟩ := enc_f x
  obtain ⟨a', b', c', d', e', g', i'⟩ := enc_f y
  have m0 : enc y % 4194304 = withN (enc x) (22 + 9 * h) 9 q % 4194304 := by
    rw [enc_0, hlo, show (4194304 : Nat) = 2 ^ 22 from rfl, wmod hq (by omega), show enc x % 2 ^ 22 = x % 2 ^ 22 from enc_0 x]
  have m7 : enc y / 2 ^ 40 = withN (enc x) (22 + 9 * h) 9 q / 2 ^ 40 := by
    rw [i', hhi, wdiv hq (by omega), i]
  rcases (show h = 0 ∨ h = 1 by omega) with rfl | rfl
  · refine fld_ext m0 ?_ ?_ ?_ ?_ ?_ ?_ m7
    · rw [a']; exact (hd 0 (by decide)).trans (bw_sub (f := 22) (a := 0) hq (by decide)).symm
    · rw [b']; exact (hd 1 (by decide)).trans (bw_sub (f := 22) (a := 3) hq (by decide)).symm
    · rw [c']; exact (hd 2 (by decide)).trans (bw_sub (f := 22) (a := 6) hq (by decide)).symm
    · rw [d', bw_ne hq (by omega), d]; exact ho 0 (by decide)
    · rw [e', bw_ne hq (by omega), e]; exact ho 1 (by decide)
    · rw [g', bw_ne hq (by omega), g]; exact ho 2 (by decide)
  · refine fld_ext m0 ?_ ?_ ?_ ?_ ?_ ?_ m7
    · rw [a', bw_ne hq (by omega), a]; exact ho 0 (by decide)
    · rw [b', bw_ne hq (by omega), b]; exact ho 1 (by decide)
    · rw [c', bw_ne hq (by omega), c]; exact ho 2 (by decide)
    · rw [d']; exact (hd 0 (by decide)).trans (bw_sub (f := 31) (a := 0) hq (by decide)).symm
    · rw [e']; exact (hd 1 (by decide)).trans (bw_sub (f := 31) (a := 3) hq (by decide)).symm
    · rw [g']; exact (hd 2 (by decide)).trans (bw_sub (f := 31) (a := 6) hq (by decide)).symm
theorem q_sum {x h : Nat} (hh : h < 2) : bitsN (enc x) (22 + 9 * h) 9 = dig x h 0 + 8 * dig x h 1 + 64 * dig x h 2 := by
  have a := enc_dig (x := x) (k := 0) hh (by decide)
  have b := enc_dig (x := x) (k := 1) hh (by decide)
  have c := enc_dig (x := x) (k := 2) hh (by decide)
  rw [show (9 : Nat) = 3 + (3 + 3) from rfl, bitsN_cat, bitsN_cat]
  simp only [Nat.mul_zero, Nat.add_zero, Nat.mul_one] at a b c
  rw [a, b, show 22 + (3 + (3 + 3)) * h + 3 + 3 = 22 + 9 * h + 3 * 2 by omega, c]
  omega
theorem q_dig {x h k : Nat} (hh : h < 2) (hk : k < 3) : bitsN (enc x) (22 + 9 * h) 9 / 2 ^ (3 * k) % 8 = dig x h k := by
  have := bitsN_bitsN (x := enc x) (f := 22 + 9 * h) (w := 9) (f' := 3 * k) (w' := 3) (by omega)
  rw [enc_dig hh hk] at this
  exact this

theorem nm_fl {x y : Int} (hy : 0 < y) (hx : x < 0) : (x.tdiv y * y = x → x.tdiv y = x / y) ∧ (¬ x.tdiv y * y = x → x.tdiv y - 1 = x / y) := by
  by_cases hd : y ∣ x
  · have e : x.tdiv y = x / y := by rw [Int.tdiv_eq_ediv, if_pos (Or.inr hd), Int.add_zero]
    exact ⟨fun _ => e, fun h => absurd (Int.tdiv_mul_cancel hd) h⟩
  · have e : x.tdiv y = x / y + 1 := by
      rw [Int.tdiv_eq_ediv, if_neg (fun h => by rcases h with h | h; exact absurd h (by omega); exact hd h), Int.sign_eq_one_of_pos hy]
    exact ⟨fun h => absurd ⟨x.tdiv y, by rw [Int.mul_comm]; exact h.symm⟩ hd, fun _ => by omega⟩
theorem nm_flneg {x y : Int} (hy : 0 < y) (hx : x < 0) : x.tdiv y ≤ 0 := by
  have h1 := Int.ediv_neg_of_neg_of_pos hx hy
  rcases Classical.em (x.tdiv y * y = x) with h | h
  · have := (nm_fl hy hx).1 h; omega
  · have := (nm_fl hy hx).2 h; omega
theorem nm_flmul {x y : Int} (hy : 0 < y) (hx : x < 0) : x ≤ x.tdiv y * y ∧ x.tdiv y * y < x + y := by
  have h1 := Int.mul_ediv_add_emod x y
  have h2 := Int.emod_nonneg x (by omega : y ≠ 0)
  have h3 := Int.emod_lt_of_pos x hy
  rcases Classical.em (x.tdiv y * y = x) with h | h
  · omega
  · have h4 := (nm_fl hy hx).2 h
    have h5 : x.tdiv y * y = y * (x / y) + y := by rw [← h4, Int.mul_sub, Int.mul_one, Int.mul_comm]; omega
    have h6 : x % y ≠ 0 := fun z => h (by rw [h5]; exact absurd (Int.dvd_of_emod_eq_zero z) (fun hd => h (Int.tdiv_mul_cancel hd)))
    omega
def nm_fdI (x y : Int32) : Int32 := Int32.ofInt (x.toInt / y.toInt)
theorem nm_rngI (x : Int32) : -2147483648 ≤ x.toInt ∧ x.toInt < 2147483648 := ⟨x.le_toInt, x.toInt_lt⟩
theorem nm_ofI {z : Int} (h1 : -2147483648 ≤ z) (h2 : z < 2147483648) : (Int32.ofInt z).toInt = z := Int32.toInt_ofInt_of_le h1 h2
theorem nm_bmI {z : Int} (h1 : -2147483648 ≤ z) (h2 : z < 2147483648) : z.bmod (2 ^ 32) = z := Int.bmod_eq_of_le_mul_two (by omega) (by omega)
theorem nm_tdI {x y : Int32} (hy : 0 < y.toInt) : -2147483648 ≤ x.toInt.tdiv y.toInt ∧ x.toInt.tdiv y.toInt < 2147483648 := by
  have h1 := x.toInt_lt; have h2 := x.le_toInt; have h3 := Int.natAbs_tdiv_le_natAbs x.toInt y.toInt
  rcases Int.lt_or_le x.toInt 0 with h | h
  · have h4 := nm_flneg hy h; omega
  · omega
theorem nm_divI {x y : Int32} (hy : 0 < y.toInt) : (x / y).toInt = x.toInt.tdiv y.toInt := by
  rw [Int32.toInt_div]; exact nm_bmI (nm_tdI hy).1 (nm_tdI hy).2
theorem nm_mulI {x y : Int32} (hy : 0 < y.toInt) (hx : x.toInt < 0) : (x / y * y).toInt = x.toInt.tdiv y.toInt * y.toInt := by
  rw [Int32.toInt_mul, nm_divI hy]
  have h1 := nm_flmul hy hx; have h2 := x.le_toInt; have h3 := y.toInt_lt
  exact nm_bmI (by omega) (by omega)
theorem nm_xorI {x y : Int32} (hy : 0 < y.toInt) : (0 ≤ x ^^^ y) ↔ 0 ≤ x.toInt := by
  have e : (0 ≤ x ^^^ y) ↔ ¬ (x ^^^ y).toInt < 0 := by rw [Int32.le_iff_toInt_le]; simp
  have m1 : (x ^^^ y).toBitVec.msb = (x.toBitVec.msb ^^ y.toBitVec.msb) := by rw [Int32.toBitVec_xor, BitVec.msb_xor]
  have m2 : y.toBitVec.msb = false := by rw [BitVec.msb_eq_toInt]; exact decide_eq_false (by show ¬ y.toInt < 0; omega)
  rw [m2, Bool.xor_false, BitVec.msb_eq_toInt, BitVec.msb_eq_toInt] at m1
  have m3 : ((x ^^^ y).toInt < 0) ↔ (x.toInt < 0) := decide_eq_decide.mp m1
  rw [e, m3]; omega
theorem nm_fdnI {x y : Int32} (hy : 0 < y.toInt) (h : 0 ≤ x.toInt) : x / y = nm_fdI x y := by
  refine Int32.toInt_inj.mp ?_
  have h1 := nm_tdI (x := x) hy
  rw [nm_divI hy, Int.tdiv_eq_ediv_of_nonneg h] at *
  rw [nm_fdI, nm_ofI h1.1 h1.2]
theorem nm_fdmI {x y : Int32} (hy : 0 < y.toInt) (h : x.toInt < 0) (h2 : x / y * y = x) : x / y = nm_fdI x y := by
  refine Int32.toInt_inj.mp ?_
  have h1 := nm_tdI (x := x) hy
  have h3 := nm_mulI hy h
  rw [h2] at h3
  have h4 := (nm_fl hy h).1 h3.symm
  rw [nm_divI hy, h4, nm_fdI, nm_ofI (by omega) (by omega)]
theorem nm_fdkI {x y : Int32} (hy : 0 < y.toInt) (h : x.toInt < 0) (h2 : ¬ x / y * y = x) : x / y - 1 = nm_fdI x y := by
  have h3 := nm_mulI hy h
  have h4 := (nm_fl hy h).2 (fun z => h2 (Int32.toInt_inj.mp (by rw [h3, z])))
  rw [nm_fdI, ← h4, Int32.ofInt_sub, ← nm_divI hy, Int32.ofInt_toInt]; rfl
theorem nm_fdI_x1 {x y : Int32} (hy : 0 < y.toInt) (h : 0 ≤ x ^^^ y) : x / y = nm_fdI x y := nm_fdnI hy ((nm_xorI hy).mp h)
theorem nm_fdI_x2 {x y : Int32} (hy : 0 < y.toInt) (h : ¬ 0 ≤ x ^^^ y) (h2 : x / y * y = x) : x / y = nm_fdI x y := nm_fdmI hy (Int.not_le.mp fun z => h ((nm_xorI hy).mpr z)) h2
theorem nm_fdI_x3 {x y : Int32} (hy : 0 < y.toInt) (h : ¬ 0 ≤ x ^^^ y) (h2 : ¬ x / y * y = x) : x / y - 1 = nm_fdI x y := nm_fdkI hy (Int.not_le.mp fun z => h ((nm_xorI hy).mpr z)) h2
theorem nm_ne0I {y : Int32} (hy : 0 < y.toInt) : ¬ y = 0 := fun h => by rw [h] at hy; exact absurd hy (by decide)
def nm_fdJ (x y : Int64) : Int64 := Int64.ofInt (x.toInt / y.toInt)
theorem nm_rngJ (x : Int64) : -9223372036854775808 ≤ x.toInt ∧ x.toInt < 9223372036854775808 := ⟨x.le_toInt, x.toInt_lt⟩
theorem nm_ofJ {z : Int} (h1 : -9223372036854775808 ≤ z) (h2 : z < 9223372036854775808) : (Int64.ofInt z).toInt = z := Int64.toInt_ofInt_of_le h1 h2
theorem nm_bmJ {z : Int} (h1 : -9223372036854775808 ≤ z) (h2 : z < 9223372036854775808) : z.bmod (2 ^ 64) = z := Int.bmod_eq_of_le_mul_two (by omega) (by omega)
theorem nm_tdJ {x y : Int64} (hy : 0 < y.toInt) : -9223372036854775808 ≤ x.toInt.tdiv y.toInt ∧ x.toInt.tdiv y.toInt < 9223372036854775808 := by
  have h1 := x.toInt_lt; have h2 := x.le_toInt; have h3 := Int.natAbs_tdiv_le_natAbs x.toInt y.toInt
  rcases Int.lt_or_le x.toInt 0 with h | h
  · have h4 := nm_flneg hy h; omega
  · omega
theorem nm_divJ {x y : Int64} (hy : 0 < y.toInt) : (x / y).toInt = x.toInt.tdiv y.toInt := by
  rw [Int64.toInt_div]; exact nm_bmJ (nm_tdJ hy).1 (nm_tdJ hy).2
theorem nm_mulJ {x y : Int64} (hy : 0 < y.toInt) (hx : x.toInt < 0) : (x / y * y).toInt = x.toInt.tdiv y.toInt * y.toInt := by
  rw [Int64.toInt_mul, nm_divJ hy]
  have h1 := nm_flmul hy hx; have h2 := x.le_toInt; have h3 := y.toInt_lt
  exact nm_bmJ (by omega) (by omega)
theorem nm_xorJ {x y : Int64} (hy : 0 < y.toInt) : (0 ≤ x ^^^ y) ↔ 0 ≤ x.toInt := by
  have e : (0 ≤ x ^^^ y) ↔ ¬ (x ^^^ y).toInt < 0 := by rw [Int64.le_iff_toInt_le]; simp
  have m1 : (x ^^^ y).toBitVec.msb = (x.toBitVec.msb ^^ y.toBitVec.msb) := by rw [Int64.toBitVec_xor, BitVec.msb_xor]
  have m2 : y.toBitVec.msb = false := by rw [BitVec.msb_eq_toInt]; exact decide_eq_false (by show ¬ y.toInt < 0; omega)
  rw [m2, Bool.xor_false, BitVec.msb_eq_toInt, BitVec.msb_eq_toInt] at m1
  have m3 : ((x ^^^ y).toInt < 0) ↔ (x.toInt < 0) := decide_eq_decide.mp m1
  rw [e, m3]; omega
theorem nm_fdnJ {x y : Int64} (hy : 0 < y.toInt) (h : 0 ≤ x.toInt) : x / y = nm_fdJ x y := by
  refine Int64.toInt_inj.mp ?_
  have h1 := nm_tdJ (x := x) hy
  rw [nm_divJ hy, Int.tdiv_eq_ediv_of_nonneg h] at *
  rw [nm_fdJ, nm_ofJ h1.1 h1.2]
theorem nm_fdmJ {x y : Int64} (hy : 0 < y.toInt) (h : x.toInt < 0) (h2 : x / y * y = x) : x / y = nm_fdJ x y := by
  refine Int64.toInt_inj.mp ?_
  have h1 := nm_tdJ (x := x) hy
  have h3 := nm_mulJ hy h
  rw [h2] at h3
  have h4 := (nm_fl hy h).1 h3.symm
  rw [nm_divJ hy, h4, nm_fdJ, nm_ofJ (by omega) (by omega)]
theorem nm_fdkJ {x y : Int64} (hy : 0 < y.toInt) (h : x.toInt < 0) (h2 : ¬ x / y * y = x) : x / y - 1 = nm_fdJ x y := by
  have h3 := nm_mulJ hy h
  have h4 := (nm_fl hy h).2 (fun z => h2 (Int64.toInt_inj.mp (by rw [h3, z])))
  rw [nm_fdJ, ← h4, Int64.ofInt_sub, ← nm_divJ hy, Int64.ofInt_toInt]; rfl
theorem nm_fdJ_x1 {x y : Int64} (hy : 0 < y.toInt) (h : 0 ≤ x ^^^ y) : x / y = nm_fdJ x y := nm_fdnJ hy ((nm_xorJ hy).mp h)
theorem nm_fdJ_x2 {x y : Int64} (hy : 0 < y.toInt) (h : ¬ 0 ≤ x ^^^ y) (h2 : x / y * y = x) : x / y = nm_fdJ x y := nm_fdmJ hy (Int.not_le.mp fun z => h ((nm_xorJ hy).mpr z)) h2
theorem nm_fdJ_x3 {x y : Int64} (hy : 0 < y.toInt) (h : ¬ 0 ≤ x ^^^ y) (h2 : ¬ x / y * y = x) : x / y - 1 = nm_fdJ x y := nm_fdkJ hy (Int.not_le.mp fun z => h ((nm_xorJ hy).mpr z)) h2
theorem nm_ne0J {y : Int64} (hy : 0 < y.toInt) : ¬ y = 0 := fun h => by rw [h] at hy; exact absurd hy (by decide)
theorem lg_eq0 {x y : Int64} : lg_cmp x y = 0 ↔ x = y := by
  unfold lg_cmp
  by_cases h : y < x
  · rw [if_pos h]
    exact ⟨fun z => absurd z (by decide), fun z => absurd h (by rw [z]; exact fun k => absurd k (by rw [Int64.lt_iff_toInt_lt]; omega))⟩
  · rw [if_neg h]
    by_cases h2 : x = y
    · rw [if_pos h2]; exact ⟨fun _ => h2, fun _ => rfl⟩
    · rw [if_neg h2]; exact ⟨fun z => absurd z (by decide), fun z => absurd z h2⟩
theorem lg_lt0 {x y : Int64} : lg_cmp x y < 0 ↔ x < y := by
  have h := lg_cmp_ge x y
  have e1 : lg_cmp x y < 0 ↔ ¬ 0 ≤ lg_cmp x y := by rw [Int32.lt_iff_toInt_lt, Int32.le_iff_toInt_le]; omega
  have e2 : x < y ↔ ¬ y ≤ x := by rw [Int64.lt_iff_toInt_lt, Int64.le_iff_toInt_le]; omega
  rw [e1, e2, h]
theorem lg_gt0 {x y : Int64} : 0 < lg_cmp x y ↔ y < x := by
  have h := lg_cmp_le x y
  have e1 : 0 < lg_cmp x y ↔ ¬ lg_cmp x y ≤ 0 := by rw [Int32.lt_iff_toInt_lt, Int32.le_iff_toInt_le]; omega
  have e2 : y < x ↔ ¬ x ≤ y := by rw [Int64.lt_iff_toInt_lt, Int64.le_iff_toInt_le]; omega
  rw [e1, e2, h]
theorem mm_z01 {x : Int32} (h : x &&& 1 = x) : x = 0 ∨ x = 1 := by
  have e := pk_and x (m := 1) 1 (by decide)
  rw [h] at e
  rcases (by omega : x.toBitVec.toNat % 2 ^ 1 = 0 ∨ x.toBitVec.toNat % 2 ^ 1 = 1) with z | z <;> rw [z] at e
  · exact Or.inl e
  · exact Or.inr e
theorem mm_fz {x : Int32} (h : x &&& 1 = x) : fits .boolean (.int x) = true := by
  rcases mm_z01 h with rfl | rfl <;> rfl
theorem nm_fmA {x y : Int32} (hy : 0 < y.toInt) : x - x / y * y = Int32.ofInt (x.toInt - x.toInt.tdiv y.toInt * y.toInt) := by
  rw [Int32.ofInt_sub, Int32.ofInt_mul, ← nm_divI hy, Int32.ofInt_toInt, Int32.ofInt_toInt, Int32.ofInt_toInt]
def nm_fmI (x y : Int32) : Int32 := Int32.ofInt (x.toInt % y.toInt)
theorem nm_fm_x1 {x y : Int32} (hy : 0 < y.toInt) (h : 0 ≤ x.toInt) : x - x / y * y = nm_fmI x y := by
  rw [nm_fmA hy, nm_fmI, Int.tdiv_eq_ediv_of_nonneg h, Int.mul_comm]
  have h1 := Int.mul_ediv_add_emod x.toInt y.toInt
  exact congrArg Int32.ofInt (by omega)
theorem nm_fmr {x y : Int32} (hy : 0 < y.toInt) (h : x.toInt < 0) : (x - x / y * y = 0) ↔ x.toInt.tdiv y.toInt * y.toInt = x.toInt := by
  have h1 := nm_flmul hy h
  have h2 := y.toInt_lt
  rw [nm_fmA hy]
  constructor
  · intro z
    have z2 := congrArg Int32.toInt z
    rw [nm_ofI (by omega) (by omega), show (0 : Int32).toInt = 0 from rfl] at z2
    omega
  · intro z; rw [z, Int.sub_self]; rfl
theorem nm_fm_x2 {x y : Int32} (hy : 0 < y.toInt) (h : x.toInt < 0) (h2 : x - x / y * y = 0) : x - x / y * y = nm_fmI x y := by
  have z := (nm_fmr hy h).mp h2
  have e := (nm_fl hy h).1 z
  have h1 := Int.mul_ediv_add_emod x.toInt y.toInt
  rw [e, Int.mul_comm] at z
  rw [h2, nm_fmI, show x.toInt % y.toInt = 0 by omega]; rfl
theorem nm_fm_x3 {x y : Int32} (hy : 0 < y.toInt) (h : x.toInt < 0) (h2 : ¬ x - x / y * y = 0) : x - x / y * y + y = nm_fmI x y := by
  have e := (nm_fl hy h).2 (fun z => h2 ((nm_fmr hy h).mpr z))
  have h1 := Int.mul_ediv_add_emod x.toInt y.toInt
  have h5 : x.toInt.tdiv y.toInt * y.toInt = y.toInt * (x.toInt / y.toInt) + y.toInt := by rw [← e, Int.mul_sub, Int.mul_one, Int.mul_comm]; omega
  have h6 : x - x / y * y + y = Int32.ofInt (x.toInt - x.toInt.tdiv y.toInt * y.toInt + y.toInt) := by rw [Int32.ofInt_add, ← nm_fmA hy, Int32.ofInt_toInt]
  rw [h6, nm_fmI]
  exact congrArg Int32.ofInt (by omega)
theorem nm_xneg {x y : Int32} (hy : 0 < y.toInt) (h : ¬ 0 ≤ x ^^^ y) : x.toInt < 0 := Int.not_le.mp fun z => h ((nm_xorI hy).mpr z)
theorem nm_xpos {x y : Int32} (hy : 0 < y.toInt) (h : 0 ≤ x ^^^ y) : 0 ≤ x.toInt := (nm_xorI hy).mp h
theorem nm_0J {x : Int64} : (x < 0) ↔ x.toInt < 0 := Int64.lt_iff_toInt_lt
theorem nm_ge {n N : Nat} (h : n ≤ N) (hN : N < 2 ^ 31) (z : nI N ≤ nI n) : n = N := Nat.le_antisymm h ((nI_leI hN (by omega)).mp z)
theorem nm_lt {n N : Nat} (h : n < 2 ^ 31) (hN : N < 2 ^ 31) (z : ¬ nI N ≤ nI n) : n < N := Nat.not_le.mp fun k => z ((nI_leI hN h).mpr k)
theorem nm_nge {n N : Nat} (h : n < N) (hN : N < 2 ^ 31) : ¬ nI N ≤ nI n := nI_ge h hN
theorem nm_ix {x : Int32} (h : ¬ x < 0) : x.toInt = (x.toInt.toNat : Int) := by
  have : 0 ≤ x.toInt := Int.not_lt.mp fun k => h (Int32.lt_iff_toInt_lt.mpr k)
  omega
theorem nm_ixlt {x : Int32} {N : Nat} (h : ¬ x < 0) (hN : N < 2 ^ 31) (z : ¬ nI N ≤ x) : x.toInt.toNat < N := by
  have e := nm_ix h
  have h2 : ¬ (N : Int) ≤ x.toInt := fun k => z (Int32.le_iff_toInt_le.mpr (by rw [nI_toInt hN]; exact k))
  omega
def nm_sl (x : Int32) : Nat := x.toBitVec.toNat % 64
theorem nm_sl_lt {x : Int32} : nm_sl x < 64 := Nat.mod_lt _ (by decide)
theorem nm_sl_e {x : Int32} : x &&& 63 = nI (nm_sl x) := pk_and x (m := 63) 6 (by decide)
theorem nm_sl_i {x : Int32} : (x &&& 63).toInt = (nm_sl x : Int) := by
  have := nm_sl_lt (x := x)
  rw [nm_sl_e, nI_toInt (by omega)]
theorem nm_sl_nge {x : Int32} : ¬ nI 64 ≤ x &&& 63 := by rw [nm_sl_e]; exact nI_ge nm_sl_lt (by decide)
theorem nm_posJ {x : Int32} (h : ¬ x ≤ 0) : 0 < x.toInt64.toInt := by
  rw [Int32.toInt_toInt64]
  have : ¬ x.toInt ≤ 0 := fun k => h (Int32.le_iff_toInt_le.mpr k)
  omega
theorem nm_posI {x : Int32} (h : ¬ x ≤ 0) : 0 < x.toInt := by
  have : ¬ x.toInt ≤ 0 := fun k => h (Int32.le_iff_toInt_le.mpr k)
  omega
theorem nm_nI {n : Nat} : nI n = Int32.ofInt n := by
  refine Int32.toInt_inj.mp ?_
  rw [Int32.toInt_ofInt]
  show (Int32.ofNat n).toInt = _
  rw [Int32.toInt_ofNat']

theorem mk_ia {x y : Int32} (h1 : -2147483648 ≤ x.toInt + y.toInt) (h2 : x.toInt + y.toInt < 2147483648) : (x + y).toInt = x.toInt + y.toInt := by rw [Int32.toInt_add, nm_bmI h1 h2]
theorem mk_is {x y : Int32} (h1 : -2147483648 ≤ x.toInt - y.toInt) (h2 : x.toInt - y.toInt < 2147483648) : (x - y).toInt = x.toInt - y.toInt := by rw [Int32.toInt_sub, nm_bmI h1 h2]
theorem mk_im {x y : Int32} (h1 : -2147483648 ≤ x.toInt * y.toInt) (h2 : x.toInt * y.toInt < 2147483648) : (x * y).toInt = x.toInt * y.toInt := by rw [Int32.toInt_mul, nm_bmI h1 h2]
theorem mk_in {x : Int32} (h : -2147483648 < x.toInt) : (-x).toInt = -x.toInt := by rw [Int32.toInt_neg, nm_bmI (by have := nm_rngI x; omega) (by have := nm_rngI x; omega)]
theorem mk_ja {x y : Int64} (h1 : -9223372036854775808 ≤ x.toInt + y.toInt) (h2 : x.toInt + y.toInt < 9223372036854775808) : (x + y).toInt = x.toInt + y.toInt := by rw [Int64.toInt_add, nm_bmJ h1 h2]
theorem mk_js {x y : Int64} (h1 : -9223372036854775808 ≤ x.toInt - y.toInt) (h2 : x.toInt - y.toInt < 9223372036854775808) : (x - y).toInt = x.toInt - y.toInt := by rw [Int64.toInt_sub, nm_bmJ h1 h2]
theorem mk_jm {x y : Int64} (h1 : -9223372036854775808 ≤ x.toInt * y.toInt) (h2 : x.toInt * y.toInt < 9223372036854775808) : (x * y).toInt = x.toInt * y.toInt := by rw [Int64.toInt_mul, nm_bmJ h1 h2]
theorem mk_w (x : Int32) : x.toInt64.toInt = x.toInt := Int32.toInt_toInt64 x
theorem mk_o (z : Int) : (Int64.ofInt z).toInt32 = Int32.ofInt z := Int64.toInt32_ofInt
/-- an int equals the int of its value -/
theorem mk_eqI {x : Int32} {z : Int} (h : x.toInt = z) : x = Int32.ofInt z := by rw [← h, Int32.ofInt_toInt]
theorem mk_eqJ {x : Int64} {z : Int} (h : x.toInt = z) : x = Int64.ofInt z := by rw [← h, Int64.ofInt_toInt]
theorem mk_fd4 (x : Int32) : nm_fdI x 4 = (nm_fdJ x.toInt64 4).toInt32 := by
  show Int32.ofInt (x.toInt / (4 : Int32).toInt) = (Int64.ofInt (x.toInt64.toInt / (4 : Int64).toInt)).toInt32
  rw [mk_o, mk_w]; rfl
theorem mk_fd64 (x : Int32) (y : Int64) (h : y.toInt = x.toInt) : nm_fdI x 64 = (nm_fdJ y 64).toInt32 := by
  show Int32.ofInt (x.toInt / (64 : Int32).toInt) = (Int64.ofInt (y.toInt / (64 : Int64).toInt)).toInt32
  rw [mk_o, h]; rfl
/-- the class and the reference hold the same -/
def mk_R2 (C F : mm_F) (N S T : Nat) : Prop := (C 0 5 = nI N) ∧ (F 50 1 = nI N) ∧ (N ≤ 8) ∧ (C 0 6 = nI S) ∧ (F 50 9 = nI S) ∧ (S ≤ 4) ∧ (C 0 8 = nI T) ∧ (F 50 0 = nI T) ∧ (C 0 7 = F 50 15) ∧ (F 50 15 = 0 ∨ F 50 15 = 1 ∨ F 50 15 = 2) ∧ (C 3 0 = F 50 13) ∧ (0 ≤ (F 50 13).toInt ∧ (F 50 13).toInt ≤ 50) ∧ (C 3 1 = F 50 14) ∧ (0 ≤ (F 50 14).toInt ∧ (F 50 14).toInt ≤ 65536) ∧ (∀ j : Nat, j < S → C (6 + j) 0 = F 58 j ∧ C (6 + j) 1 = F 59 j ∧ C (6 + j) 2 = F 60 j) ∧ (∀ j : Nat, j < S → (-4 ≤ (F 58 j).toInt ∧ (F 58 j).toInt ≤ 4) ∧ (1 ≤ (F 59 j).toInt ∧ (F 59 j).toInt ≤ 100) ∧ (2 ≤ (F 60 j).toInt ∧ (F 60 j).toInt ≤ 16)) ∧ (∀ e : Nat, e < N → C (10 + e) 3 = 1 ∧ C (10 + e) 4 = F 55 e ∧ C (10 + e) 5 = F 51 e ∧ C (10 + e) 6 = F 52 e ∧ C (10 + e) 7 = F 53 e ∧ C (10 + e) 8 = F 56 e ∧ C (10 + e) 9 = F 57 e ∧ C (18 + e) 1 = F 54 e ∧ C (18 + e) 2 = nI T) ∧ (∀ e : Nat, e < N → (F 55 e = 0 ∨ F 55 e = 1) ∧ (0 ≤ (F 51 e).toInt ∧ (F 51 e).toInt ≤ 12) ∧ (32 ≤ (F 52 e).toInt ∧ (F 52 e).toInt ≤ 96) ∧ (-3 ≤ (F 53 e).toInt ∧ (F 53 e).toInt ≤ 3) ∧ (16 ≤ (F 56 e).toInt ∧ (F 56 e).toInt ≤ 255) ∧ (-3 ≤ (F 57 e).toInt ∧ (F 57 e).toInt ≤ 3) ∧ (0 ≤ (F 54 e).toInt ∧ (F 54 e).toInt ≤ (T : Int))) ∧ (∀ e : Nat, N ≤ e → e < 8 → C (10 + e) 3 = 0 ∧ C (10 + e) 4 = 0 ∧ C (10 + e) 8 = 64 ∧ C (10 + e) 9 = 0 ∧ C (18 + e) 1 = 0 ∧ C (18 + e) 2 = 0) ∧ (∀ e : Nat, e < 8 → ∀ c : Nat, c < 64 → C (26 + e) c = F 61 (64 * e + c)) ∧ (∀ e : Nat, e < 8 → ∀ c : Nat, c < 64 → -1000 ≤ (F 61 (64 * e + c)).toInt ∧ (F 61 (64 * e + c)).toInt ≤ 1000)
theorem mk_R2.cN {C F : mm_F} {N S T : Nat} (h : mk_R2 C F N S T) : C 0 5 = nI N := h.1
theorem mk_R2.rN {C F : mm_F} {N S T : Nat} (h : mk_R2 C F N S T) : F 50 1 = nI N := h.2.1
theorem mk_R2.N8 {C F : mm_F} {N S T : Nat} (h : mk_R2 C F N S T) : N ≤ 8 := h.2.2.1
theorem mk_R2.cS {C F : mm_F} {N S T : Nat} (h : mk_R2 C F N S T) : C 0 6 = nI S := h.2.2.2.1
theorem mk_R2.rS {C F : mm_F} {N S T : Nat} (h : mk_R2 C F N S T) : F 50 9 = nI S := h.2.2.2.2.1
theorem mk_R2.S4 {C F : mm_F} {N S T : Nat} (h : mk_R2 C F N S T) : S ≤ 4 := h.2.2.2.2.2.1
theorem mk_R2.cT {C F : mm_F} {N S T : Nat} (h : mk_R2 C F N S T) : C 0 8 = nI T := h.2.2.2.2.2.2.1
theorem mk_R2.rT {C F : mm_F} {N S T : Nat} (h : mk_R2 C F N S T) : F 50 0 = nI T := h.2.2.2.2.2.2.2.1
theorem mk_R2.sh {C F : mm_F} {N S T : Nat} (h : mk_R2 C F N S T) : C 0 7 = F 50 15 := h.2.2.2.2.2.2.2.2.1
theorem mk_R2.shB {C F : mm_F} {N S T : Nat} (h : mk_R2 C F N S T) : F 50 15 = 0 ∨ F 50 15 = 1 ∨ F 50 15 = 2 := h.2.2.2.2.2.2.2.2.2.1
theorem mk_R2.ha {C F : mm_F} {N S T : Nat} (h : mk_R2 C F N S T) : C 3 0 = F 50 13 := h.2.2.2.2.2.2.2.2.2.2.1
theorem mk_R2.haB {C F : mm_F} {N S T : Nat} (h : mk_R2 C F N S T) : 0 ≤ (F 50 13).toInt ∧ (F 50 13).toInt ≤ 50 := h.2.2.2.2.2.2.2.2.2.2.2.1
theorem mk_R2.hs {C F : mm_F} {N S T : Nat} (h : mk_R2 C F N S T) : C 3 1 = F 50 14 := h.2.2.2.2.2.2.2.2.2.2.2.2.1
theorem mk_R2.hsB {C F : mm_F} {N S T : Nat} (h : mk_R2 C F N S T) : 0 ≤ (F 50 14).toInt ∧ (F 50 14).toInt ≤ 65536 := h.2.2.2.2.2.2.2.2.2.2.2.2.2.1
theorem mk_R2.so {C F : mm_F} {N S T : Nat} (h : mk_R2 C F N S T) : ∀ j : Nat, j < S → C (6 + j) 0 = F 58 j ∧ C (6 + j) 1 = F 59 j ∧ C (6 + j) 2 = F 60 j := h.2.2.2.2.2.2.2.2.2.2.2.2.2.2.1
theorem mk_R2.soB {C F : mm_F} {N S T : Nat} (h : mk_R2 C F N S T) : ∀ j : Nat, j < S → (-4 ≤ (F 58 j).toInt ∧ (F 58 j).toInt ≤ 4) ∧ (1 ≤ (F 59 j).toInt ∧ (F 59 j).toInt ≤ 100) ∧ (2 ≤ (F 60 j).toInt ∧ (F 60 j).toInt ≤ 16) := h.2.2.2.2.2.2.2.2.2.2.2.2.2.2.2.1
theorem mk_R2.el {C F : mm_F} {N S T : Nat} (h : mk_R2 C F N S T) : ∀ e : Nat, e < N → C (10 + e) 3 = 1 ∧ C (10 + e) 4 = F 55 e ∧ C (10 + e) 5 = F 51 e ∧ C (10 + e) 6 = F 52 e ∧ C (10 + e) 7 = F 53 e ∧ C (10 + e) 8 = F 56 e ∧ C (10 + e) 9 = F 57 e ∧ C (18 + e) 1 = F 54 e ∧ C (18 + e) 2 = nI T := h.2.2.2.2.2.2.2.2.2.2.2.2.2.2.2.2.1
theorem mk_R2.elB {C F : mm_F} {N S T : Nat} (h : mk_R2 C F N S T) : ∀ e : Nat, e < N → (F 55 e = 0 ∨ F 55 e = 1) ∧ (0 ≤ (F 51 e).toInt ∧ (F 51 e).toInt ≤ 12) ∧ (32 ≤ (F 52 e).toInt ∧ (F 52 e).toInt ≤ 96) ∧ (-3 ≤ (F 53 e).toInt ∧ (F 53 e).toInt ≤ 3) ∧ (16 ≤ (F 56 e).toInt ∧ (F 56 e).toInt ≤ 255) ∧ (-3 ≤ (F 57 e).toInt ∧ (F 57 e).toInt ≤ 3) ∧ (0 ≤ (F 54 e).toInt ∧ (F 54 e).toInt ≤ (T : Int)) := h.2.2.2.2.2.2.2.2.2.2.2.2.2.2.2.2.2.1
theorem mk_R2.up {C F : mm_F} {N S T : Nat} (h : mk_R2 C F N S T) : ∀ e : Nat, N ≤ e → e < 8 → C (10 + e) 3 = 0 ∧ C (10 + e) 4 = 0 ∧ C (10 + e) 8 = 64 ∧ C (10 + e) 9 = 0 ∧ C (18 + e) 1 = 0 ∧ C (18 + e) 2 = 0 := h.2.2.2.2.2.2.2.2.2.2.2.2.2.2.2.2.2.2.1
theorem mk_R2.sl {C F : mm_F} {N S T : Nat} (h : mk_R2 C F N S T) : ∀ e : Nat, e < 8 → ∀ c : Nat, c < 64 → C (26 + e) c = F 61 (64 * e + c) := h.2.2.2.2.2.2.2.2.2.2.2.2.2.2.2.2.2.2.2.1
theorem mk_R2.slB {C F : mm_F} {N S T : Nat} (h : mk_R2 C F N S T) : ∀ e : Nat, e < 8 → ∀ c : Nat, c < 64 → -1000 ≤ (F 61 (64 * e + c)).toInt ∧ (F 61 (64 * e + c)).toInt ≤ 1000 := h.2.2.2.2.2.2.2.2.2.2.2.2.2.2.2.2.2.2.2.2
def mk_R (M : mm_M) (N S T : Nat) : Prop := mk_R2 M.1 M.1 N S T
theorem mk_R.cN {M : mm_M} {N S T : Nat} (h : mk_R M N S T) : M.1 0 5 = nI N := mk_R2.cN h
theorem mk_R.rN {M : mm_M} {N S T : Nat} (h : mk_R M N S T) : M.1 50 1 = nI N := mk_R2.rN h
theorem mk_R.N8 {M : mm_M} {N S T : Nat} (h : mk_R M N S T) : N ≤ 8 := mk_R2.N8 h
theorem mk_R.cS {M : mm_M} {N S T : Nat} (h : mk_R M N S T) : M.1 0 6 = nI S := mk_R2.cS h
theorem mk_R.rS {M : mm_M} {N S T : Nat} (h : mk_R M N S T) : M.1 50 9 = nI S := mk_R2.rS h
theorem mk_R.S4 {M : mm_M} {N S T : Nat} (h : mk_R M N S T) : S ≤ 4 := mk_R2.S4 h
theorem mk_R.cT {M : mm_M} {N S T : Nat} (h : mk_R M N S T) : M.1 0 8 = nI T := mk_R2.cT h
theorem mk_R.rT {M : mm_M} {N S T : Nat} (h : mk_R M N S T) : M.1 50 0 = nI T := mk_R2.rT h
theorem mk_R.sh {M : mm_M} {N S T : Nat} (h : mk_R M N S T) : M.1 0 7 = M.1 50 15 := mk_R2.sh h
theorem mk_R.shB {M : mm_M} {N S T : Nat} (h : mk_R M N S T) : M.1 50 15 = 0 ∨ M.1 50 15 = 1 ∨ M.1 50 15 = 2 := mk_R2.shB h
theorem mk_R.ha {M : mm_M} {N S T : Nat} (h : mk_R M N S T) : M.1 3 0 = M.1 50 13 := mk_R2.ha h
theorem mk_R.haB {M : mm_M} {N S T : Nat} (h : mk_R M N S T) : 0 ≤ (M.1 50 13).toInt ∧ (M.1 50 13).toInt ≤ 50 := mk_R2.haB h
theorem mk_R.hs {M : mm_M} {N S T : Nat} (h : mk_R M N S T) : M.1 3 1 = M.1 50 14 := mk_R2.hs h
theorem mk_R.hsB {M : mm_M} {N S T : Nat} (h : mk_R M N S T) : 0 ≤ (M.1 50 14).toInt ∧ (M.1 50 14).toInt ≤ 65536 := mk_R2.hsB h
theorem mk_R.so {M : mm_M} {N S T : Nat} (h : mk_R M N S T) : ∀ j : Nat, j < S → M.1 (6 + j) 0 = M.1 58 j ∧ M.1 (6 + j) 1 = M.1 59 j ∧ M.1 (6 + j) 2 = M.1 60 j := mk_R2.so h
theorem mk_R.soB {M : mm_M} {N S T : Nat} (h : mk_R M N S T) : ∀ j : Nat, j < S → (-4 ≤ (M.1 58 j).toInt ∧ (M.1 58 j).toInt ≤ 4) ∧ (1 ≤ (M.1 59 j).toInt ∧ (M.1 59 j).toInt ≤ 100) ∧ (2 ≤ (M.1 60 j).toInt ∧ (M.1 60 j).toInt ≤ 16) := mk_R2.soB h
theorem mk_R.el {M : mm_M} {N S T : Nat} (h : mk_R M N S T) : ∀ e : Nat, e < N → M.1 (10 + e) 3 = 1 ∧ M.1 (10 + e) 4 = M.1 55 e ∧ M.1 (10 + e) 5 = M.1 51 e ∧ M.1 (10 + e) 6 = M.1 52 e ∧ M.1 (10 + e) 7 = M.1 53 e ∧ M.1 (10 + e) 8 = M.1 56 e ∧ M.1 (10 + e) 9 = M.1 57 e ∧ M.1 (18 + e) 1 = M.1 54 e ∧ M.1 (18 + e) 2 = nI T := mk_R2.el h
theorem mk_R.elB {M : mm_M} {N S T : Nat} (h : mk_R M N S T) : ∀ e : Nat, e < N → (M.1 55 e = 0 ∨ M.1 55 e = 1) ∧ (0 ≤ (M.1 51 e).toInt ∧ (M.1 51 e).toInt ≤ 12) ∧ (32 ≤ (M.1 52 e).toInt ∧ (M.1 52 e).toInt ≤ 96) ∧ (-3 ≤ (M.1 53 e).toInt ∧ (M.1 53 e).toInt ≤ 3) ∧ (16 ≤ (M.1 56 e).toInt ∧ (M.1 56 e).toInt ≤ 255) ∧ (-3 ≤ (M.1 57 e).toInt ∧ (M.1 57 e).toInt ≤ 3) ∧ (0 ≤ (M.1 54 e).toInt ∧ (M.1 54 e).toInt ≤ (T : Int)) := mk_R2.elB h
theorem mk_R.up {M : mm_M} {N S T : Nat} (h : mk_R M N S T) : ∀ e : Nat, N ≤ e → e < 8 → M.1 (10 + e) 3 = 0 ∧ M.1 (10 + e) 4 = 0 ∧ M.1 (10 + e) 8 = 64 ∧ M.1 (10 + e) 9 = 0 ∧ M.1 (18 + e) 1 = 0 ∧ M.1 (18 + e) 2 = 0 := mk_R2.up h
theorem mk_R.sl {M : mm_M} {N S T : Nat} (h : mk_R M N S T) : ∀ e : Nat, e < 8 → ∀ c : Nat, c < 64 → M.1 (26 + e) c = M.1 61 (64 * e + c) := mk_R2.sl h
theorem mk_R.slB {M : mm_M} {N S T : Nat} (h : mk_R M N S T) : ∀ e : Nat, e < 8 → ∀ c : Nat, c < 64 → -1000 ≤ (M.1 61 (64 * e + c)).toInt ∧ (M.1 61 (64 * e + c)).toInt ≤ 1000 := mk_R2.slB h
theorem mk_R.lv {M : mm_M} {N S T : Nat} (h : mk_R M N S T) (e : Nat) (he : e < 8) : M.1 (10 + e) 4 = if e < N then M.1 55 e else 0 := by
  by_cases z : e < N
  · rw [if_pos z]; exact (h.el e z).2.1
  · rw [if_neg z]; exact (h.up e (by omega) he).2.1
theorem mk_R.lb {M : mm_M} {N S T : Nat} (h : mk_R M N S T) : ∀ i : Nat, i < 8 → M.1 (10 + i) 4 &&& 1 = M.1 (10 + i) 4 := by
  intro i hi
  rw [h.lv i hi]
  by_cases z : i < N
  · rw [if_pos z]
    rcases (h.elB i z).1 with e | e <;> rw [e] <;> rfl
  · rw [if_neg z]; rfl
theorem mk_R.ub {M : mm_M} {N S T : Nat} (h : mk_R M N S T) : ∀ i : Nat, i < 8 → M.1 (10 + i) 3 &&& 1 = M.1 (10 + i) 3 := by
  intro i hi
  by_cases z : i < N
  · rw [(h.el i z).1]; rfl
  · rw [(h.up i (by omega) hi).1]; rfl
/-- A: the delays -/
theorem mk_delay {M : mm_M} {i e : Nat} (h : M.1 (10 + i) 5 = M.1 51 e) (b : Int32) : mc_delay M i b = mr_delay M.1 e b := by
  unfold mc_delay mr_delay
  rw [h, mk_fd4]
theorem mk_delayB {F : mm_F} {e : Nat} {b : Int32} (h1 : 0 ≤ (F 51 e).toInt ∧ (F 51 e).toInt ≤ 12) (h2 : -4 ≤ b.toInt ∧ b.toInt ≤ 4) : -12 ≤ (mr_delay F e b).toInt ∧ (mr_delay F e b).toInt ≤ 12 := by
  unfold mr_delay
  rw [← mk_fd4]
  have hm : -48 ≤ (F 51 e).toInt * b.toInt ∧ (F 51 e).toInt * b.toInt ≤ 48 := by
    have := Int.mul_le_mul_of_nonneg_left h2.2 h1.1
    have := Int.mul_le_mul_of_nonneg_left h2.1 h1.1
    omega
  have e1 : (F 51 e * b).toInt = (F 51 e).toInt * b.toInt := mk_im (by omega) (by omega)
  have e2 : (4 : Int32).toInt = 4 := rfl
  rw [nm_fdI, e1, e2, nm_ofI (by omega) (by omega)]
  omega
theorem mk_inT {x y z : Int32} : (nm_in x y z = 0) ↔ (x.toInt < y.toInt ∨ z.toInt < x.toInt) := by
  unfold nm_in
  by_cases h1 : x < y
  · rw [if_pos h1]; exact ⟨fun _ => Or.inl (Int32.lt_iff_toInt_lt.mp h1), fun _ => rfl⟩
  · rw [if_neg h1]
    by_cases h2 : z < x
    · rw [if_pos h2]; exact ⟨fun _ => Or.inr (Int32.lt_iff_toInt_lt.mp h2), fun _ => rfl⟩
    · rw [if_neg h2]
      exact ⟨fun h => absurd h (by decide), fun h => by rcases h with h | h; exact absurd (Int32.lt_iff_toInt_lt.mpr h) h1; exact absurd (Int32.lt_iff_toInt_lt.mpr h) h2⟩
theorem mk_slI {x : Int32} (h : 0 ≤ x.toInt) : nm_sl x = x.toInt.toNat % 64 := by
  unfold nm_sl
  have e : x.toBitVec.toInt = x.toInt := rfl
  have := BitVec.toInt_eq_toNat_of_msb (x := x.toBitVec) (by rw [BitVec.msb_eq_toInt, e]; exact decide_eq_false (by omega))
  rw [← e, this]; rfl
/-- B: what the tape keeps -/
theorem mk_at {M : mm_M} {N S T : Nat} (h : mk_R M N S T) (hT : T ≤ 60000) {e : Nat} (he : e < N) {x t : Int32} (hx : 0 ≤ x.toInt ∧ x.toInt < 64) (ht : t.toInt = (T : Int) - 64 + x.toInt) : mc_at M e x = mr_kept M.1 61 e t := by
  have hE := h.el e he
  have hB := h.elB e he
  have e64 : (64 : Int32).toInt = 64 := rfl
  have e1 : (1 : Int32).toInt = 1 := rfl
  have e0 : (0 : Int32).toInt = 0 := rfl
  have hTi : (nI T).toInt = (T : Int) := nI_toInt (by omega)
  have s1 : (nI T - 64).toInt = (T : Int) - 64 := by rw [mk_is, hTi, e64] <;> rw [hTi, e64] <;> omega
  have s2 : (nI T - 64 + x).toInt = (T : Int) - 64 + x.toInt := by rw [mk_ia, s1] <;> rw [s1] <;> omega
  have s3 : (nI T - 1).toInt = (T : Int) - 1 := by rw [mk_is, hTi, e1] <;> rw [hTi, e1] <;> omega
  have ex : nI T - 64 + x = t := by rw [mk_eqI (s2.trans ht.symm), Int32.ofInt_toInt]
  have k1 : ¬ nm_in t (nI T - 64) (nI T - 1) = 0 := fun k => by have := mk_inT.mp k; rw [s1, s3] at this; omega
  have x0 : ¬ x < 0 := fun k => by have := Int32.lt_iff_toInt_lt.mp k; rw [e0] at this; omega
  have x64 : ¬ 64 ≤ x := fun k => by have := Int32.le_iff_toInt_le.mp k; rw [e64] at this; omega
  have hKp : mc_keeps M e x = if t < M.1 54 e then 0 else 1 := by
    unfold mc_keeps
    rw [if_neg x0, if_neg x64, hE.2.2.2.2.2.2.2.2, hE.2.2.2.2.2.2.2.1, ex]
  by_cases z : t < M.1 54 e
  · have hK : mr_isK M.1 e t = 0 := by unfold mr_isK; rw [if_pos z]
    rw [if_pos z] at hKp
    unfold mc_at mr_kept
    rw [hK, hKp, if_pos rfl, if_pos rfl]
  · have z2 : ¬ t.toInt < (M.1 54 e).toInt := fun k => z (Int32.lt_iff_toInt_lt.mpr k)
    have k2 : ¬ t < 0 := fun k => by have := Int32.lt_iff_toInt_lt.mp k; rw [e0] at this; omega
    have hK : mr_isK M.1 e t = 1 := by unfold mr_isK; rw [if_neg z, h.rT, if_neg k1, if_neg k2]
    rw [if_neg z] at hKp
    unfold mc_at mr_kept
    rw [hK, hKp, if_neg (by decide), if_neg (by decide), hE.2.2.2.2.2.2.2.2, ex, mk_slI (by omega), h.sl e (by have := h.N8; omega) _ (Nat.mod_lt _ (by decide))]
/-- a tick out of the kept 64 -/
theorem mk_out {M : mm_M} {N S T : Nat} (h : mk_R M N S T) (hT : T ≤ 60000) {e r : Nat} {t : Int32} (ht : t.toInt < (T : Int) - 64 ∨ (T : Int) ≤ t.toInt) : mr_kept M.1 r e t = 0 := by
  have e64 : (64 : Int32).toInt = 64 := rfl
  have e1 : (1 : Int32).toInt = 1 := rfl
  have hTi : (nI T).toInt = (T : Int) := nI_toInt (by omega)
  have s1 : (nI T - 64).toInt = (T : Int) - 64 := by rw [mk_is, hTi, e64] <;> rw [hTi, e64] <;> omega
  have s3 : (nI T - 1).toInt = (T : Int) - 1 := by rw [mk_is, hTi, e1] <;> rw [hTi, e1] <;> omega
  have hK : mr_isK M.1 e t = 0 := by
    unfold mr_isK
    by_cases z : t < M.1 54 e
    · rw [if_pos z]
    · rw [if_neg z, h.rT, if_pos (mk_inT.mpr (by rw [s1, s3]; omega))]
  unfold mr_kept
  rw [hK, if_pos rfl]
theorem mk_keptB {M : mm_M} {N S T : Nat} (h : mk_R M N S T) {e : Nat} (he : e < N) {t : Int32} : -1000 ≤ (mr_kept M.1 61 e t).toInt ∧ (mr_kept M.1 61 e t).toInt ≤ 1000 := by
  unfold mr_kept
  by_cases z : mr_isK M.1 e t = 0
  · rw [if_pos z]; decide
  · rw [if_neg z]; exact h.slB e (by have := h.N8; omega) _ (Nat.mod_lt _ (by decide))

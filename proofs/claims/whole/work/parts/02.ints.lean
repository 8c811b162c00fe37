/-! Whole numbers as the machine's ints: zi_n z is the int of the whole number z. -/
def zi_n (z : Int) : Int32 := Int32.ofInt z
abbrev zi_R (a : Int) : Prop := -2147483648 ≤ a ∧ a ≤ 2147483647
theorem zi_add (a b : Int) : zi_n a + zi_n b = zi_n (a + b) := (Int32.ofInt_add a b).symm
theorem zi_sub (a b : Int) : zi_n a - zi_n b = zi_n (a - b) := (Int32.ofInt_sub a b).symm
theorem zi_mul (a b : Int) : zi_n a * zi_n b = zi_n (a * b) := (Int32.ofInt_mul a b).symm
theorem zi_neg (a : Int) : -zi_n a = zi_n (-a) := (Int32.ofInt_neg a).symm
theorem zi_toInt {a : Int} (h : zi_R a) : (zi_n a).toInt = a := Int32.toInt_ofInt_of_le (by have : (2 : Int) ^ 31 = 2147483648 := by decide
                                                                                            have := h.1; omega) (by have : (2 : Int) ^ 31 = 2147483648 := by decide
                                                                                                                    have := h.2; omega)
theorem zi_self (x : Int32) : zi_n x.toInt = x := Int32.ofInt_toInt x
theorem zi_rng (x : Int32) : zi_R x.toInt := ⟨Int32.le_toInt x, by have h := Int32.toInt_lt x; have : (2 : Int) ^ 31 = 2147483648 := by decide
                                                                   omega⟩
theorem zi_lt {a b : Int} (ha : zi_R a) (hb : zi_R b) : zi_n a < zi_n b ↔ a < b := by rw [Int32.lt_iff_toInt_lt, zi_toInt ha, zi_toInt hb]
theorem zi_le {a b : Int} (ha : zi_R a) (hb : zi_R b) : zi_n a ≤ zi_n b ↔ a ≤ b := by rw [Int32.le_iff_toInt_le, zi_toInt ha, zi_toInt hb]
theorem zi_eq {a b : Int} (ha : zi_R a) (hb : zi_R b) : zi_n a = zi_n b ↔ a = b := by rw [← Int32.toInt_inj, zi_toInt ha, zi_toInt hb]
theorem zi_0 : (0 : Int32) = zi_n 0 := rfl
theorem zi_z : zi_R 0 := by decide
theorem zi_cl {a : Int} (h0 : 0 ≤ a) (h1 : a ≤ 2147483647) : (zi_n a).toNatClampNeg = a.toNat := by
  show (zi_n a).toInt.toNat = a.toNat
  rw [zi_toInt ⟨by omega, h1⟩]
theorem zi_in {a : Int} {n : Nat} (h : 0 ≤ a ∧ a < n) (hn : n ≤ 2147483647) : vp_in (zi_n a) n := by
  rw [vp_in_iff, zi_toInt ⟨by omega, by omega⟩]
  exact h
theorem zi_nI (n : Nat) : nI n = zi_n (n : Int) := Int32.ofInt_eq_ofNat.symm
/-- a number as a short -/
def zi_sh (a : Int) : Int := (a + 32768) % 65536 - 32768
theorem zi_sh_b (a : Int) : -32768 ≤ zi_sh a ∧ zi_sh a ≤ 32767 := by unfold zi_sh; omega
theorem zi_i2s {a : Int} (h : zi_R a) : (zi_n a).toInt16.toInt32 = zi_n (zi_sh a) := by
  apply Int32.toInt_inj.1
  have hb := zi_sh_b a
  rw [zi_toInt ⟨by omega, by omega⟩, Int16.toInt_toInt32, Int32.toInt_toInt16, zi_toInt h]
  unfold Int.bmod zi_sh
  have e : ((2 ^ 16 : Nat) : Int) = 65536 := by decide
  simp only [e]
  split <;> omega
/-- the unsigned reading -/
theorem zi_bv {a : Int} (h : zi_R a) : ((zi_n a).toBitVec.toNat : Int) = a ∨ ((zi_n a).toBitVec.toNat : Int) = a + 4294967296 := by
  have h1 := zi_toInt h
  have h2 : (zi_n a).toInt = (zi_n a).toBitVec.toInt := rfl
  rw [h2, BitVec.toInt_eq_toNat_cond] at h1
  have e : ((2 ^ 32 : Nat) : Int) = 4294967296 := by decide
  rw [e] at h1
  split at h1 <;> omega
theorem zi_m255 {a : Int} (h : zi_R a) : zi_n a &&& 255 = zi_n (a % 256) := by
  rw [pk_and (zi_n a) 8 (by decide), zi_nI]
  congr 1
  have := zi_bv h
  have e : (2 : Nat) ^ 8 = 256 := by decide
  rw [e]
  omega
theorem zi_m65535 {a : Int} (h : zi_R a) : zi_n a &&& 65535 = zi_n (a % 65536) := by
  rw [pk_and (zi_n a) 16 (by decide), zi_nI]
  congr 1
  have := zi_bv h
  have e : (2 : Nat) ^ 16 = 65536 := by decide
  rw [e]
  omega
theorem zi_m1 {a : Int} (h : zi_R a) : zi_n a &&& 1 = zi_n (a % 2) := by
  rw [pk_and (zi_n a) 1 (by decide), zi_nI]
  congr 1
  have := zi_bv h
  have e : (2 : Nat) ^ 1 = 2 := by decide
  rw [e]
  omega
theorem zi_m31 {a : Int} (h : zi_R a) : zi_n a &&& 31 = zi_n (a % 32) := by
  rw [pk_and (zi_n a) 5 (by decide), zi_nI]
  congr 1
  have := zi_bv h
  have e : (2 : Nat) ^ 5 = 32 := by decide
  rw [e]
  omega
theorem zi_div {a b : Int} (ha : zi_R a) (hb : zi_R b) (h0 : 0 ≤ a) : zi_n a / zi_n b = zi_n (a.tdiv b) := by
  apply Int32.toInt_inj.1
  have h1 : zi_n a ≠ Int32.minValue := fun e => by
    have := congrArg Int32.toInt e
    rw [zi_toInt ha, Int32.toInt_minValue] at this
    have : (2 : Int) ^ 31 = 2147483648 := by decide
    omega
  have hq : (a.tdiv b).natAbs ≤ a.natAbs := Int.natAbs_tdiv_le_natAbs a b
  rw [Int32.toInt_div_of_ne_left _ _ h1, zi_toInt ha, zi_toInt hb, zi_toInt ⟨by omega, by omega⟩]
theorem zi_rem {a b : Int} (ha : zi_R a) (hb : zi_R b) (h0 : 0 ≤ a) (hp : 0 < b) : zi_n a - zi_n a / zi_n b * zi_n b = zi_n (a % b) := by
  rw [zi_div ha hb h0, zi_mul, zi_sub]
  congr 1
  rw [Int.tdiv_eq_ediv_of_nonneg h0]
  have := Int.emod_add_mul_ediv a b
  rw [Int.mul_comm]
  omega
theorem zi_abs {a : Int} (ha : zi_R a) (h : a ≠ -2147483648) : (if (0 : Int32) ≤ zi_n a then zi_n a else 0 - zi_n a) = zi_n (if 0 ≤ a then a else -a) := by
  rw [zi_0]
  by_cases c : 0 ≤ a
  · rw [if_pos ((zi_le zi_z ha).mpr c), if_pos c]
  · rw [if_neg (fun q => c ((zi_le zi_z ha).mp q)), if_neg c, zi_sub]
    congr 1
    omega
/-- contents: bytes -/
def zi_F (F : Nat → Int) : Nat → Int32 := fun j => zi_n (F j)
def zi_By (F : Nat → Int) : Prop := ∀ j, 0 ≤ F j ∧ F j ≤ 255
def zi_up (F : Nat → Int) (k : Nat) (x : Int) : Nat → Int := fun j => if j = k then x else F j
theorem zi_upF (F : Nat → Int) (k : Nat) (x : Int) : upd (zi_F F) k (zi_n x) = zi_F (zi_up F k x) := by
  funext j
  unfold upd zi_F zi_up
  by_cases h : j = k
  · rw [if_pos h, if_pos h]
  · rw [if_neg h, if_neg h]
theorem zi_up_s (F : Nat → Int) (k : Nat) (x : Int) : zi_up F k x k = x := if_pos rfl
theorem zi_up_n (F : Nat → Int) {k j : Nat} (x : Int) (h : j ≠ k) : zi_up F k x j = F j := if_neg h
theorem zi_up_By {F : Nat → Int} (h : zi_By F) (k : Nat) {x : Int} (hx : 0 ≤ x ∧ x ≤ 255) : zi_By (zi_up F k x) := fun j => by
  unfold zi_up
  split
  · exact hx
  · exact h j

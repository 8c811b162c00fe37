/-! Bits. -/
def zh_pw (k : Int) : Int := 2 ^ k.toNat
def zh_set (a k : Int) : Int := if zh_sr a k % 2 = 0 then a + zh_pw k else a
def zh_clr (a k : Int) : Int := if zh_sr a k % 2 = 1 then a - zh_pw k else a
theorem zb_pw : ∀ j : Nat, j < 16 → (zi_n (2 ^ j)).toBitVec = BitVec.twoPow 32 j ∧ zi_n 1 <<< (zi_n (j : Int) &&& 31) = zi_n (2 ^ j) ∧ 1 ≤ (2 : Int) ^ j ∧ (2 : Int) ^ j ≤ 32768 := by decide
theorem zh_pw_b {k : Int} (h : 0 ≤ k ∧ k ≤ 15) : 1 ≤ zh_pw k ∧ zh_pw k ≤ 32768 := (zb_pw k.toNat (by omega)).2.2
theorem zi_shl1 {k : Int} (h : 0 ≤ k ∧ k ≤ 15) : zi_n 1 <<< (zi_n k &&& 31) = zi_n (zh_pw k) := by
  have e : k = ((k.toNat : Nat) : Int) := by omega
  have := (zb_pw k.toNat (by omega)).2.1
  rw [← e] at this
  exact this
theorem zb_or0 {x : BitVec 32} {j : Nat} (h : x.getLsbD j = false) : x ||| BitVec.twoPow 32 j = x + BitVec.twoPow 32 j :=
  (BitVec.add_eq_or_of_and_eq_zero _ _ (by rw [BitVec.and_twoPow, h]; rfl)).symm
theorem zb_or1 {x : BitVec 32} {j : Nat} (h : x.getLsbD j = true) : x ||| BitVec.twoPow 32 j = x := by
  apply BitVec.eq_of_getLsbD_eq
  intro i hi
  rw [BitVec.getLsbD_or, BitVec.getLsbD_twoPow]
  by_cases e : j = i
  · subst e; rw [h]; rfl
  · simp [e]
theorem zb_an0 {x : BitVec 32} {j : Nat} (h : x.getLsbD j = false) : x &&& ~~~(BitVec.twoPow 32 j) = x := by
  apply BitVec.eq_of_getLsbD_eq
  intro i hi
  rw [BitVec.getLsbD_and, BitVec.getLsbD_not, BitVec.getLsbD_twoPow]
  by_cases e : j = i
  · subst e; rw [h]; rfl
  · simp [e, hi]
theorem zb_an1 {x : BitVec 32} {j : Nat} (hj : j < 32) (h : x.getLsbD j = true) : x &&& ~~~(BitVec.twoPow 32 j) = x - BitVec.twoPow 32 j := by
  rw [BitVec.eq_sub_iff_add_eq, BitVec.add_eq_or_of_and_eq_zero]
  · apply BitVec.eq_of_getLsbD_eq
    intro i hi
    rw [BitVec.getLsbD_or, BitVec.getLsbD_and, BitVec.getLsbD_not, BitVec.getLsbD_twoPow]
    by_cases e : j = i
    · subst e; rw [h]; simp [hj]
    · simp [e, hi]
  · apply BitVec.eq_of_getLsbD_eq
    intro i hi
    rw [BitVec.getLsbD_and, BitVec.getLsbD_and, BitVec.getLsbD_not, BitVec.getLsbD_twoPow]
    by_cases e : j = i
    · subst e; simp [hj]
    · simp [e]
theorem zb_tn {a : Int} (h : 0 ≤ a ∧ a ≤ 65535) : (zi_n a).toBitVec.toNat = a.toNat := by
  have := zi_bv (a := a) ⟨by omega, by omega⟩
  have h2 := (zi_n a).toBitVec.isLt
  omega
theorem zb_bit {a k : Int} (h : 0 ≤ a ∧ a ≤ 65535) : (zi_n a).toBitVec.getLsbD k.toNat = decide (zh_sr a k % 2 = 1) := by
  rw [← BitVec.testBit_toNat, zb_tn h, Nat.testBit_eq_decide_div_mod_eq]
  have e : zh_sr a k % 2 = ((a.toNat / 2 ^ k.toNat % 2 : Nat) : Int) := by
    unfold zh_sr
    rw [Int.natCast_emod, Int.natCast_ediv, Int.natCast_pow, Int.toNat_of_nonneg h.1]
    rfl
  rw [e]
  generalize a.toNat / 2 ^ k.toNat % 2 = t
  apply decide_eq_decide.mpr
  omega
theorem zi_or {a k : Int} (h : 0 ≤ a ∧ a ≤ 65535) (hk : 0 ≤ k ∧ k ≤ 15) : zi_n a ||| zi_n (zh_pw k) = zi_n (zh_set a k) := by
  have e1 : (zi_n (zh_pw k)).toBitVec = BitVec.twoPow 32 k.toNat := (zb_pw k.toNat (by omega)).1
  have e2 := zb_bit (k := k) h
  unfold zh_set
  apply Int32.toBitVec_inj.mp
  rw [Int32.toBitVec_or, e1]
  by_cases c : zh_sr a k % 2 = 1
  · rw [if_neg (by omega), zb_or1 (by rw [e2]; simp [c])]
  · rw [if_pos (by omega), zb_or0 (by rw [e2]; simp [c]), ← zi_add, Int32.toBitVec_add, e1]
theorem zi_xm1 (x : Int) : zi_n x ^^^ zi_n (-1) = zi_n (-1 - x) := by
  apply Int32.toBitVec_inj.mp
  rw [Int32.toBitVec_xor, ← zi_sub, Int32.toBitVec_sub]
  have e : (zi_n (-1)).toBitVec = BitVec.allOnes 32 := by decide
  rw [e, BitVec.xor_allOnes, BitVec.allOnes_sub_eq_not]
theorem zi_andn {a k : Int} (h : 0 ≤ a ∧ a ≤ 65535) (hk : 0 ≤ k ∧ k ≤ 15) : zi_n a &&& zi_n (-1 - zh_pw k) = zi_n (zh_clr a k) := by
  have e1 : (zi_n (zh_pw k)).toBitVec = BitVec.twoPow 32 k.toNat := (zb_pw k.toNat (by omega)).1
  have e2 := zb_bit (k := k) h
  have e3 : (zi_n (-1)).toBitVec = BitVec.allOnes 32 := by decide
  unfold zh_clr
  apply Int32.toBitVec_inj.mp
  rw [← zi_xm1, Int32.toBitVec_and, Int32.toBitVec_xor, e1, e3, BitVec.xor_allOnes]
  by_cases c : zh_sr a k % 2 = 1
  · rw [if_pos c, zb_an1 (by omega) (by rw [e2]; simp [c]), ← zi_sub, Int32.toBitVec_sub, e1]
  · rw [if_neg c, zb_an0 (by rw [e2]; simp [c])]
theorem zh_set_b {a k : Int} (h : 0 ≤ a ∧ a ≤ 65535) (hk : 0 ≤ k ∧ k ≤ 15) : 0 ≤ zh_set a k ∧ zh_set a k ≤ 98303 := by
  have := zh_pw_b hk
  unfold zh_set
  split <;> omega
theorem zh_clr_b {a k : Int} (h : 0 ≤ a ∧ a ≤ 65535) (hk : 0 ≤ k ∧ k ≤ 15) : -32768 ≤ zh_clr a k ∧ zh_clr a k ≤ 65535 := by
  have := zh_pw_b hk
  unfold zh_clr
  split <;> omega
-- a byte of a long
def zh_wb (w : Int64) (k : Int) : Int := (((w.toUInt64 >>> ((zi_n (8 * k)).toInt64.toUInt64 &&& Int64.toUInt64 63)).toInt64 &&& 255).toInt32).toInt
theorem zb_255 : ∀ i : Nat, i < 64 → (255#64).getLsbD i = decide (i < 8) := by decide
theorem zb_core (x : BitVec 64) {s : Nat} (hs : s ≤ 56) : (x >>> s) &&& 255#64 = (x.sshiftRight s) &&& 255#64 := by
  apply BitVec.eq_of_getLsbD_eq
  intro i hi
  rw [BitVec.getLsbD_and, BitVec.getLsbD_and, BitVec.getLsbD_ushiftRight, BitVec.getLsbD_sshiftRight, zb_255 i hi]
  by_cases c : i < 8
  · have e1 : s + i < 64 := by omega
    simp [c, e1]
    intro
    omega
  · simp [c]
theorem zb_au : ∀ j : Nat, j < 8 → ((zi_n (8 * (j : Int))).toInt64.toUInt64 &&& Int64.toUInt64 63).toBitVec % 64 = BitVec.ofNat 64 (8 * j) ∧ ((zi_n (8 * (j : Int))).toInt64 &&& 63).toBitVec.smod 64 = BitVec.ofNat 64 (8 * j) := by decide
theorem zb_us (w : Int64) {k : Int} (hk : 0 ≤ k ∧ k ≤ 7) : (w.toUInt64 >>> ((zi_n (8 * k)).toInt64.toUInt64 &&& Int64.toUInt64 63)).toInt64 &&& 255 = w >>> ((zi_n (8 * k)).toInt64 &&& 63) &&& 255 := by
  have e : k = ((k.toNat : Nat) : Int) := by omega
  obtain ⟨a1, a2⟩ := zb_au k.toNat (by omega)
  rw [← e] at a1 a2
  apply Int64.toBitVec_inj.mp
  rw [Int64.toBitVec_and, Int64.toBitVec_and, Int64.toBitVec_shiftRight, a2]
  have b1 : ((w.toUInt64 >>> ((zi_n (8 * k)).toInt64.toUInt64 &&& Int64.toUInt64 63)).toInt64).toBitVec = w.toBitVec >>> (((zi_n (8 * k)).toInt64.toUInt64 &&& Int64.toUInt64 63).toBitVec % 64) := rfl
  rw [b1, a1]
  have b2 : (BitVec.ofNat 64 (8 * k.toNat)).toNat = 8 * k.toNat := by
    rw [BitVec.toNat_ofNat]
    exact Nat.mod_eq_of_lt (by omega)
  show (w.toBitVec >>> (BitVec.ofNat 64 (8 * k.toNat))) &&& 255#64 = (w.toBitVec.sshiftRight (BitVec.ofNat 64 (8 * k.toNat)).toNat) &&& 255#64
  rw [BitVec.ushiftRight_eq', b2]
  exact zb_core _ (by omega)
theorem zh_wb_b (w : Int64) (k : Int) : 0 ≤ zh_wb w k ∧ zh_wb w k ≤ 255 := by
  unfold zh_wb
  generalize (w.toUInt64 >>> ((zi_n (8 * k)).toInt64.toUInt64 &&& Int64.toUInt64 63)).toInt64 = v
  have h1 : (v &&& 255).toBitVec.toNat ≤ 255 := by
    rw [Int64.toBitVec_and, BitVec.toNat_and]
    exact Nat.le_trans Nat.and_le_right (by decide)
  have h2 : ((v &&& 255).toInt32).toBitVec.toNat = (v &&& 255).toBitVec.toNat := by
    show ((v &&& 255).toBitVec.signExtend 32).toNat = _
    rw [BitVec.signExtend_eq_setWidth_of_le _ (by decide), BitVec.toNat_setWidth]
    exact Nat.mod_eq_of_lt (by omega)
  have h3 : ((v &&& 255).toInt32).toInt = (((v &&& 255).toInt32).toBitVec.toNat : Int) := by
    show ((v &&& 255).toInt32).toBitVec.toInt = _
    rw [BitVec.toInt_eq_toNat_cond, if_pos (by omega)]
  omega
section ZB
variable {p : Program} {l : Launch} {e : Env} {R : Room} {s : State} {m : MethodId} {args : Array Value} {below : List Frame} {meth : Method} {c : Code} {H : Heap} {locs : List Loc} {cells slots : Nat} {Q : State → Prop} {cc : ByteArray} {pc : Nat} {ls : Array Slot} {rest : List Value}
theorem zr_ishl1 (hx : p.tables.exec = Jvm.exec) (hb : c.code = cc) {y : Int} (hd : decode cc pc = .ok (.ishl, 1)) (h2 : 0 ≤ y ∧ y ≤ 15) (k : W p l e R s m args below meth c H locs cells slots Q (F0 m (pc + 1) ls (.int (zi_n (zh_pw y)) :: rest))) : W p l e R s m args below meth c H locs cells slots Q (F0 m pc ls (.int (zi_n y) :: .int (zi_n 1) :: rest)) := lv_ishl hx hb hd (by rw [zi_shl1 h2]; exact k)
theorem zr_iorp (hx : p.tables.exec = Jvm.exec) (hb : c.code = cc) {x y : Int} (hd : decode cc pc = .ok (.ior, 1)) (h1 : 0 ≤ x ∧ x ≤ 65535) (h2 : 0 ≤ y ∧ y ≤ 15) (k : W p l e R s m args below meth c H locs cells slots Q (F0 m (pc + 1) ls (.int (zi_n (zh_set x y)) :: rest))) : W p l e R s m args below meth c H locs cells slots Q (F0 m pc ls (.int (zi_n (zh_pw y)) :: .int (zi_n x) :: rest)) := lv_ior hx hb hd (by rw [zi_or h1 h2]; exact k)
theorem zr_ixm1 (hx : p.tables.exec = Jvm.exec) (hb : c.code = cc) {x : Int} (hd : decode cc pc = .ok (.ixor, 1)) (k : W p l e R s m args below meth c H locs cells slots Q (F0 m (pc + 1) ls (.int (zi_n (-1 - x)) :: rest))) : W p l e R s m args below meth c H locs cells slots Q (F0 m pc ls (.int (zi_n (-1)) :: .int (zi_n x) :: rest)) := lv_ixor hx hb hd (by rw [zi_xm1]; exact k)
theorem zr_iandn (hx : p.tables.exec = Jvm.exec) (hb : c.code = cc) {x y : Int} (hd : decode cc pc = .ok (.iand, 1)) (h1 : 0 ≤ x ∧ x ≤ 65535) (h2 : 0 ≤ y ∧ y ≤ 15) (k : W p l e R s m args below meth c H locs cells slots Q (F0 m (pc + 1) ls (.int (zi_n (zh_clr x y)) :: rest))) : W p l e R s m args below meth c H locs cells slots Q (F0 m pc ls (.int (zi_n (-1 - zh_pw y)) :: .int (zi_n x) :: rest)) := lv_iand hx hb hd (by rw [zi_andn h1 h2]; exact k)
end ZB

/-! What calls do to the bytes. -/
def zh_put (F : Nat → Int) (n p v : Int) : Nat → Int := if 0 ≤ p ∧ p < n then zi_up F p.toNat (v % 256) else F
theorem zh_put_By {F : Nat → Int} (hF : zi_By F) (n p v : Int) : zi_By (zh_put F n p v) := by
  unfold zh_put
  split
  · exact zi_up_By hF _ (by omega)
  · exact hF
theorem zi_shr8 {a : Int} (h : zi_R a) : zi_n a >>> (zi_n 8 &&& 31) = zi_n (a / 256) := by
  apply Int32.toInt_inj.1
  rw [pk_shr (zi_n a) (zi_n 8 &&& 31) 8 (by decide), zi_toInt h, zi_toInt ⟨by omega, by omega⟩]
  rw [Int.shiftRight_eq_div_pow]
  rfl
/-- the first 600 places of one, the rest of the other -/
def zh_cp (F G : Nat → Int) : Nat → Int := fun j => if j < 600 then F j else G j
theorem zh_cp_By {F G : Nat → Int} (hF : zi_By F) (hG : zi_By G) : zi_By (zh_cp F G) := fun j => by
  unfold zh_cp
  split
  · exact hF j
  · exact hG j
theorem zh_cp_eq (F G : Nat → Int) : va_cpy (zi_F F) (zi_F G) 0 0 600 = zi_F (zh_cp F G) := by
  funext j
  unfold va_cpy zi_F zh_cp
  by_cases h : j < 600
  · rw [if_pos ⟨Nat.zero_le _, by omega⟩, if_pos h, Nat.zero_add, Nat.sub_zero]
  · rw [if_neg (by omega), if_neg h]
/-- c bytes b more -/
def zh_fl (F : Nat → Int) (n c b : Int) : Nat → Int := fun j => if n ≤ j ∧ (j : Int) < n + c then b else F j
theorem zh_fl_By {F : Nat → Int} (hF : zi_By F) (n c : Int) {b : Int} (hb : 0 ≤ b ∧ b ≤ 255) : zi_By (zh_fl F n c b) := fun j => by
  unfold zh_fl
  split
  · exact hb
  · exact hF j
theorem zh_fl_0 (F : Nat → Int) (n b : Int) : zh_fl F n 0 b = F := by
  funext j
  unfold zh_fl
  exact if_neg (by omega)
theorem zh_fl_s {F : Nat → Int} {n i b : Int} (h : 0 ≤ n) (hi : 0 ≤ i) : zi_up (zh_fl F n i b) (n + i).toNat b = zh_fl F n (i + 1) b := by
  funext j
  unfold zi_up zh_fl
  by_cases e : j = (n + i).toNat
  · rw [if_pos e, if_pos (by omega)]
  · rw [if_neg e]
    by_cases q : n ≤ j ∧ (j : Int) < n + i
    · rw [if_pos q, if_pos (by omega)]
    · rw [if_neg q, if_neg (by omega)]
section ZS
variable {p : Program} {l : Launch} {e : Env} {R : Room} {s : State} {m : MethodId} {args : Array Value} {below : List Frame} {meth : Method} {c : Code} {H : Heap} {locs : List Loc} {cells slots : Nat} {Q : State → Prop} {cc : ByteArray} {pc : Nat} {ls : Array Slot} {rest : List Value}
theorem zr_ishr8 (hx : p.tables.exec = Jvm.exec) (hb : c.code = cc) {x : Int} (hd : decode cc pc = .ok (.ishr, 1)) (h1 : zi_R x) (k : W p l e R s m args below meth c H locs cells slots Q (F0 m (pc + 1) ls (.int (zi_n (x / 256)) :: rest))) : W p l e R s m args below meth c H locs cells slots Q (F0 m pc ls (.int (zi_n 8) :: .int (zi_n x) :: rest)) := lv_ishr hx hb hd (by rw [zi_shr8 h1]; exact k)
theorem zr_copy {D : va_G} {cl : List vw_C} {A : Nat → Prop} {a : Nat} {tys : List (ClassId × FieldType)} {ws : va_W} {H0 : Heap} (hx : p.tables.exec = Jvm.exec) (hb : c.code = cc) (hml : c.maxLocals = ls.size) {own : String} {index : Nat} (hown : s.vm.findClass own = some m.cls) (hlink : (Cond.methodLink own index arraycopyName).before args s = true) (hnat : (Cond.native arraycopyName).before args s = true) (hstat : (Cond.static arraycopyName).before args s = true) (hini : (Cond.initialized "java/lang/System").before args s = true)
    (hK : va_K D cl tys s) (hP : va_P D cl ws H) (hD : va_D A ws) (hS : va_S A H0 H locs) (q0 q1 t0 t1 : Nat) {a0 : Nat} {c0 c1 : ClassId} {f g : Nat → Int} (ha0 : ws[q0]? = some (a0, .inl (c0, 600, .inl (zi_F f)))) (ha1 : ws[q1]? = some (a, .inl (c1, 600, .inl (zi_F g)))) (ht0 : tys[t0]? = some (c0, .int)) (ht1 : tys[t1]? = some (c1, .int))
    (hframes : 1 ≤ R.frames) (hlocals : (rest.map fun v => v.category).sum + (nativeFrameWords "java/lang/System" "arraycopy" 5 + 11) ≤ R.locals) (hd : decode cc pc = .ok (.invokestatic index, 3))
    (kk : ∀ (H1 : Heap) (locs1 : List Loc), va_P D cl (ws.set q1 (a, .inl (c1, 600, .inl (zi_F (zh_cp f g))))) H1 → va_D A (ws.set q1 (a, .inl (c1, 600, .inl (zi_F (zh_cp f g))))) → va_S A H0 H1 locs1 → W p l e R s m args below meth c H1 locs1 cells slots Q (F0 m (pc + 3) ls rest)) : W p l e R s m args below meth c H locs cells slots Q (F0 m pc ls (.int (zi_n 600) :: .int (zi_n 0) :: .ref a :: .int (zi_n 0) :: .ref a0 :: rest)) :=
  va_copyi hx hb hml hown hlink hnat hstat hini hK hP hD hS q0 q1 t0 t1 ha0 ha1 ht0 ht1 rfl (by decide) (by decide) (by decide) (by decide) (by decide) (fun i _ => rfl) hframes hlocals hd (fun H1 l1 u1 u2 u3 => kk H1 l1 (by rw [← zh_cp_eq]; exact u1) (by rw [← zh_cp_eq]; exact u2) u3)
end ZS
def zh_apE (n c : Int) : Int := if 600 - n < c then -14 else n + c
def zh_apN (n c : Int) : Int := if 600 - n < c then n else n + c
def zh_apR (n rd c : Int) : Int := if 600 - n < c then rd else 0
def zh_apF (F : Nat → Int) (n c b : Int) : Nat → Int := if 600 - n < c then F else zh_fl F n c b
theorem zh_apF_By {F : Nat → Int} (hF : zi_By F) (n c : Int) {b : Int} (hb : 0 ≤ b ∧ b ≤ 255) : zi_By (zh_apF F n c b) := by
  unfold zh_apF
  split
  · exact hF
  · exact zh_fl_By hF n c hb
-- fill, octet
def zh_fiG (c b : Int) : Prop := (1 ≤ c ∧ c ≤ 600) ∧ (0 ≤ b ∧ b ≤ 255)
theorem zh_fiG_dec (c b : Int) : zh_fiG c b ∨ ¬ zh_fiG c b := by unfold zh_fiG; omega
def zh_fiE (n c b : Int) : Int := if (1 ≤ c ∧ c ≤ 600) ∧ (0 ≤ b ∧ b ≤ 255) then zh_apE n c else -12
def zh_fiN (n c b : Int) : Int := if (1 ≤ c ∧ c ≤ 600) ∧ (0 ≤ b ∧ b ≤ 255) then zh_apN n c else n
def zh_fiR (n rd c b : Int) : Int := if (1 ≤ c ∧ c ≤ 600) ∧ (0 ≤ b ∧ b ≤ 255) then zh_apR n rd c else rd
def zh_fiF (F : Nat → Int) (n c b : Int) : Nat → Int := if (1 ≤ c ∧ c ≤ 600) ∧ (0 ≤ b ∧ b ≤ 255) then zh_apF F n c b else F
theorem zh_fiF_By {F : Nat → Int} (hF : zi_By F) (n c b : Int) : zi_By (zh_fiF F n c b) := by
  unfold zh_fiF
  split
  · exact zh_apF_By hF n c (by omega)
  · exact hF
-- poke
def zh_poE (F : Nat → Int) (n p b : Int) : Int := if (0 ≤ p ∧ p < n) ∧ (0 ≤ b ∧ b ≤ 255) then F p.toNat else -12
def zh_poF (F : Nat → Int) (n p b : Int) : Nat → Int := if (0 ≤ p ∧ p < n) ∧ (0 ≤ b ∧ b ≤ 255) then zi_up F p.toNat b else F
def zh_poR (n rd p b : Int) : Int := if (0 ≤ p ∧ p < n) ∧ (0 ≤ b ∧ b ≤ 255) then 0 else rd
theorem zh_poF_By {F : Nat → Int} (hF : zi_By F) (n p b : Int) : zi_By (zh_poF F n p b) := by
  unfold zh_poF
  split
  · exact zi_up_By hF _ (by omega)
  · exact hF
-- shifts
def zh_sr (a k : Int) : Int := a / 2 ^ k.toNat
theorem zh_sr_b {a k : Int} (h : 0 ≤ a) : 0 ≤ zh_sr a k ∧ zh_sr a k ≤ a := by
  unfold zh_sr
  exact ⟨Int.ediv_nonneg h (Int.le_of_lt (Int.pow_pos (by decide))), Int.ediv_le_self _ h⟩
theorem zh_smod : ∀ j : Nat, j < 32 → ((zi_n (j : Int) &&& 31).toBitVec.smod 32).toNat = j := by decide
theorem zi_shr {a k : Int} (ha : 0 ≤ a ∧ a ≤ 2147483647) (hk : 0 ≤ k ∧ k ≤ 31) : zi_n a >>> (zi_n k &&& 31) = zi_n (zh_sr a k) := by
  have hb := zh_sr_b (k := k) ha.1
  apply Int32.toInt_inj.1
  have e : k = ((k.toNat : Nat) : Int) := by omega
  have e2 : ((zi_n k &&& 31).toBitVec.smod 32).toNat = k.toNat := by rw [e]; exact zh_smod k.toNat (by omega)
  rw [pk_shr (zi_n a) (zi_n k &&& 31) k.toNat e2, zi_toInt ⟨by omega, by omega⟩, zi_toInt ⟨by omega, by omega⟩, Int.shiftRight_eq_div_pow]
  unfold zh_sr
  congr 1
section ZS2
variable {p : Program} {l : Launch} {e : Env} {R : Room} {s : State} {m : MethodId} {args : Array Value} {below : List Frame} {meth : Method} {c : Code} {H : Heap} {locs : List Loc} {cells slots : Nat} {Q : State → Prop} {cc : ByteArray} {pc : Nat} {ls : Array Slot} {rest : List Value}
theorem zr_ishr (hx : p.tables.exec = Jvm.exec) (hb : c.code = cc) {x y : Int} (hd : decode cc pc = .ok (.ishr, 1)) (h1 : 0 ≤ x ∧ x ≤ 2147483647) (h2 : 0 ≤ y ∧ y ≤ 31) (k : W p l e R s m args below meth c H locs cells slots Q (F0 m (pc + 1) ls (.int (zi_n (zh_sr x y)) :: rest))) : W p l e R s m args below meth c H locs cells slots Q (F0 m pc ls (.int (zi_n y) :: .int (zi_n x) :: rest)) := lv_ishr hx hb hd (by rw [zi_shr h1 h2]; exact k)
end ZS2
-- rights
def zh_pb (v : Int) : Int := if 1 ≤ v ∧ v ≤ 3 then 112 else if v = 4 then 156 else if v = 6 then 191 else 157
def zh_may1 (v b st : Int) : Prop := st = 0 ∧ zh_sr (zh_pb v) b % 2 = 1
def zh_may2 (v b on st : Int) : Prop := b = 0 ∨ (b = 1 ∧ st ≠ 0 ∧ 3 ≤ v) ∨ (b = 2 ∧ v = 6 ∧ (st = 0 ∨ on = 0)) ∨ (3 ≤ b ∧ st = 0 ∧ on = 0 ∧ ((b ≤ 7 ∧ 5 ≤ v) ∨ (b = 8 ∧ v = 6)))
def zh_isF (w b : Int) : Prop := (w = 1 ∧ 0 ≤ b ∧ b ≤ 7) ∨ (w = 2 ∧ 0 ≤ b ∧ b ≤ 15)
def zh_wide (w : Int) : Prop := w = 4 ∨ w = 5 ∨ w = 10
def zh_sf (w : Int) : Int := if w ≤ 3 then 4 else if w ≤ 9 then 5 else 1
def zh_sp (w v : Int) : Int := if w = 4 then 34 else if w = 5 then 36 else if w = 6 then (if v = 5 then 38 else 39) else if w = 7 then (if v = 5 then 39 else 38) else if w = 8 then 44 else if w = 9 then 45 else if w = 10 then 50 else 30 + w
-- reads of the memory
def zh_fldE (F : Nat → Int) (n rd w : Int) : Int := if rd = 0 then -11 else if w < 0 ∨ 18 ≤ w then -12 else zh_term F n w

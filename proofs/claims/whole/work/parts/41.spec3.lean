/-! The class's answers. -/
def zh_sm (F : Nat → Int) : Nat → Int
  | 0 => 0
  | k + 1 => zh_sm F k + F (64 + k)
theorem zh_sm_b {F : Nat → Int} (hF : zi_By F) : ∀ k : Nat, 0 ≤ zh_sm F k ∧ zh_sm F k ≤ 255 * (k : Int)
  | 0 => by simp [zh_sm]
  | k + 1 => by
    have h1 := zh_sm_b hF k
    have h2 := hF (64 + k)
    show 0 ≤ zh_sm F k + F (64 + k) ∧ zh_sm F k + F (64 + k) ≤ 255 * ((k + 1 : Nat) : Int)
    omega
theorem zh_sm_s (F : Nat → Int) {i : Int} (h : 64 ≤ i) : zh_sm F (i - 64).toNat + F i.toNat = zh_sm F (i + 1 - 64).toNat := by
  have e : (i + 1 - 64).toNat = (i - 64).toNat + 1 := by omega
  have e2 : i.toNat = 64 + (i - 64).toNat := by omega
  rw [e, e2]
  rfl
def zh_sum (F : Nat → Int) (n : Int) : Int := zh_sm F (zh_len F n - 64).toNat % 65536
def zh_sumE (F : Nat → Int) (n rd : Int) : Int := if rd = 0 then -11 else zh_sum F n
def zh_agE (F : Nat → Int) (n rd : Int) : Int := if rd = 0 then -11 else if zh_sum F n = zh_t F 28 then 1 else 0
def zh_pkE (F : Nat → Int) (rd a t : Int) : Int := if rd = 0 then -11 else if 0 ≤ a ∧ a ≤ 65535 then zh_unp F a t else -12
def zh_fb (G : Nat → Int) (w b : Int) : Int := if w = 1 then zh_sr (G 1) b % 2 else zh_sr (zh_t G 16) b % 2
def zh_onE (G : Nat → Int) (rd w b : Int) : Int := if rd = 0 then -11 else if (w = 1 ∧ 0 ≤ b ∧ b ≤ 7) ∨ (w = 2 ∧ 0 ≤ b ∧ b ≤ 15) then zh_fb G w b else -12
def zh_serE (G : Nat → Int) (k rd i : Int) : Int := if rd = 0 then -11 else zh_at G k (18 + i)
def zh_gloE (F G : Nat → Int) (k rd i : Int) : Int := if rd = 0 then -11 else zi_sh (zh_two G k (zh_t F 12 + 2 * i))
def zh_ldE (G : Nat → Int) (k rd i : Int) : Int := if rd = 0 then -11 else zh_at G k i
def zh_fiE1 (F G : Nat → Int) (k rd a t : Int) : Int := if rd = 0 then -11 else if 0 ≤ a ∧ a ≤ 65535 then zh_at G k (zh_unp F a t) else -12
def zh_sgE (F : Nat → Int) (n rd i : Int) : Int := if rd = 0 then -11 else zh_at F n (zh_t F 8 + 1 + i)
def zh_dv (F : Nat → Int) (n by_ : Int) : Int := if by_ = 0 then zh_eb F n else zh_en F n
def zh_raE (F : Nat → Int) (n rd by_ : Int) : Int := if rd = 0 then -11 else (zh_len F n).tdiv (zh_dv F n by_)
-- store
def zh_stE (F G : Nat → Int) (k rd i : Int) : Int := if rd = 0 then -11 else if i < 64 ∨ zh_t F 14 ≤ i then -13 else zh_at G k i
def zh_stG (F G : Nat → Int) (k rd i v : Int) : Nat → Int := if rd = 0 ∨ i < 64 ∨ zh_t F 14 ≤ i then G else zh_put G k i v
theorem zh_stG_By {F G : Nat → Int} (hG : zi_By G) (k rd i v : Int) : zi_By (zh_stG F G k rd i v) := by
  unfold zh_stG
  split
  · exact hG
  · exact zh_put_By hG _ _ _
theorem zh_tdiv_b {a b : Int} (h : 0 ≤ a ∧ a ≤ 600) : -600 ≤ a.tdiv b ∧ a.tdiv b ≤ 600 := by
  have hq : (a.tdiv b).natAbs ≤ a.natAbs := Int.natAbs_tdiv_le_natAbs a b
  omega
-- feed
def zh_fd (F : Nat → Int) (n : Int) (w : Int64) (c i : Int) : Nat → Int := fun j => if n ≤ j ∧ (j : Int) < n + i then zh_wb w (c - 1 - (j - n)) else F j
theorem zh_fd_By {F : Nat → Int} (hF : zi_By F) (n : Int) (w : Int64) (c i : Int) : zi_By (zh_fd F n w c i) := fun j => by
  unfold zh_fd
  split
  · exact zh_wb_b _ _
  · exact hF j
theorem zh_fd_0 (F : Nat → Int) (n : Int) (w : Int64) (c : Int) : zh_fd F n w c 0 = F := by
  funext j
  unfold zh_fd
  exact if_neg (by omega)
theorem zh_fd_s {F : Nat → Int} {n : Int} {w : Int64} {c i : Int} (h : 0 ≤ n) (hi : 0 ≤ i) : zi_up (zh_fd F n w c i) (n + i).toNat (zh_wb w (c - 1 - i)) = zh_fd F n w c (i + 1) := by
  funext j
  unfold zi_up zh_fd
  by_cases e : j = (n + i).toNat
  · rw [if_pos e, if_pos (by omega), show c - 1 - ((j : Int) - n) = c - 1 - i by omega]
  · rw [if_neg e]
    by_cases q : n ≤ j ∧ (j : Int) < n + i
    · rw [if_pos q, if_pos (by omega)]
    · rw [if_neg q, if_neg (by omega)]
def zh_feE (n c : Int) : Int := if 1 ≤ c ∧ c ≤ 8 then zh_apE n c else -12
def zh_feN (n c : Int) : Int := if 1 ≤ c ∧ c ≤ 8 then zh_apN n c else n
def zh_feR (n rd c : Int) : Int := if 1 ≤ c ∧ c ≤ 8 then zh_apR n rd c else rd
def zh_feF (F : Nat → Int) (n : Int) (w : Int64) (c : Int) : Nat → Int := if (1 ≤ c ∧ c ≤ 8) ∧ c ≤ 600 - n then zh_fd F n w c c else F
theorem zh_feF_By {F : Nat → Int} (hF : zi_By F) (n : Int) (w : Int64) (c : Int) : zi_By (zh_feF F n w c) := by
  unfold zh_feF
  split
  · exact zh_fd_By hF _ _ _ _
  · exact hF
section ZL
variable {p : Program} {l : Launch} {e : Env} {R : Room} {s : State} {m : MethodId} {args : Array Value} {below : List Frame} {meth : Method} {c : Code} {H : Heap} {locs : List Loc} {cells slots : Nat} {Q : State → Prop} {cc : ByteArray} {pc : Nat} {ls : Array Slot} {rest : List Value}
theorem zr_l2iu (hx : p.tables.exec = Jvm.exec) (hb : c.code = cc) {w : Int64} {k : Int} (hd : decode cc pc = .ok (.l2i, 1)) (kk : W p l e R s m args below meth c H locs cells slots Q (F0 m (pc + 1) ls (.int (zi_n (zh_wb w k)) :: rest))) : W p l e R s m args below meth c H locs cells slots Q (F0 m pc ls (.long ((w.toUInt64 >>> ((zi_n (8 * k)).toInt64.toUInt64 &&& Int64.toUInt64 63)).toInt64 &&& 255) :: rest)) := lv_l2i hx hb hd (zi_self _).symm kk
theorem zr_l2is (hx : p.tables.exec = Jvm.exec) (hb : c.code = cc) {w : Int64} {k : Int} (hk : 0 ≤ k ∧ k ≤ 7) (hd : decode cc pc = .ok (.l2i, 1)) (kk : W p l e R s m args below meth c H locs cells slots Q (F0 m (pc + 1) ls (.int (zi_n (zh_wb w k)) :: rest))) : W p l e R s m args below meth c H locs cells slots Q (F0 m pc ls (.long (w >>> ((zi_n (8 * k)).toInt64 &&& 63) &&& 255) :: rest)) := lv_l2i hx hb hd (by rw [← zb_us w hk]; exact (zi_self _).symm) kk
end ZL

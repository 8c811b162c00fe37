/-! What the head's words mean over bytes F and a size n. -/
def zh_at (F : Nat → Int) (n p : Int) : Int := if 0 ≤ p ∧ p < n then F p.toNat else -1
def zh_two (F : Nat → Int) (n p : Int) : Int := if 0 ≤ p ∧ p < n - 1 then F p.toNat * 256 + F (p + 1).toNat else -1
def zh_t (F : Nat → Int) (k : Nat) : Int := F k * 256 + F (k + 1)
def zh_scale (v : Int) : Int := if v ≤ 3 then 2 else if v ≤ 5 then 4 else 8
def zh_len (F : Nat → Int) (n : Int) : Int := if zh_t F 26 = 0 ∧ F 0 ≤ 3 then n else zh_t F 26 * zh_scale (F 0)
def zh_shorts (F : Nat → Int) : Int := if F 0 = 1 then 0 else zh_t F 24
def zh_start (F : Nat → Int) : Int := if F 0 = 6 then 4 * zh_t F 6 + 8 * zh_t F 40 else zh_t F 6
def zh_letters (F : Nat → Int) : Int := if F 0 < 5 then 0 else zh_t F 52
def zh_ends (F : Nat → Int) : Int := if F 0 < 5 then 0 else zh_t F 46
def zh_more (F : Nat → Int) : Int := if F 0 < 5 then 0 else zh_t F 54
def zh_mw (F : Nat → Int) (n : Int) : Int := if zh_more F = 0 then 0 else zh_two F n (zh_more F)
def zh_third (F : Nat → Int) (n : Int) : Int := if zh_more F = 0 ∨ zh_two F n (zh_more F) < 3 then 0 else zh_two F n (zh_more F + 6)
def zh_unp (F : Nat → Int) (a t : Int) : Int := if F 0 ≤ 3 then 2 * a else if F 0 ≤ 5 then 4 * a else if F 0 = 8 then 8 * a else 4 * a + 8 * (if t = 0 then zh_t F 40 else zh_t F 42)
def zh_sg (F : Nat → Int) (n : Int) : Int := zh_at F n (zh_t F 8)
def zh_eb (F : Nat → Int) (n : Int) : Int := zh_at F n (zh_t F 8 + 1 + zh_sg F n)
def zh_told (F : Nat → Int) (n : Int) : Int := zh_two F n (zh_t F 8 + 2 + zh_sg F n)
def zh_en (F : Nat → Int) (n : Int) : Int := zi_sh (zh_told F n)
def zh_abs (a : Int) : Int := if 0 ≤ a then a else -a
def zh_term (F : Nat → Int) (n w : Int) : Int :=
  if w = 0 then F 0 else if w = 1 then zh_len F n else if w = 2 then zh_t F 14 else if w = 3 then zh_t F 4 else if w = 4 then zh_t F 12 else if w = 5 then zh_t F 10 else if w = 6 then zh_t F 8 else if w = 7 then zh_shorts F else if w = 8 then zh_start F else if w = 9 then zh_letters F else if w = 10 then zh_ends F else if w = 11 then zh_mw F n else if w = 12 then zh_third F n else if w = 13 then zh_t F 2 else if w = 14 then zh_t F 28 else if w = 15 then zh_en F n else if w = 16 then zh_eb F n else zh_sg F n
-- the rules
def zh_ok1 (F : Nat → Int) (n : Int) : Prop := 0 < n
def zh_ok2 (F : Nat → Int) (n : Int) : Prop := 1 ≤ F 0 ∧ F 0 ≤ 8
def zh_ok3 (F : Nat → Int) (n : Int) : Prop := 64 ≤ n
def zh_ok4 (F : Nat → Int) (n : Int) : Prop := 64 ≤ zh_len F n ∧ zh_len F n ≤ n
def zh_ok5 (F : Nat → Int) (n : Int) : Prop := 64 ≤ zh_t F 14 ∧ zh_t F 14 ≤ zh_len F n
def zh_ok6 (F : Nat → Int) (n : Int) : Prop := zh_t F 14 ≤ zh_t F 4 ∧ zh_t F 4 ≤ zh_len F n
def zh_ok7 (F : Nat → Int) (n : Int) : Prop := 64 ≤ zh_t F 12 ∧ zh_t F 12 + 480 ≤ zh_t F 14
def zh_ok8 (F : Nat → Int) (n : Int) : Prop := 64 ≤ zh_t F 10 ∧ zh_t F 10 + (if F 0 ≤ 3 then 62 else 126) ≤ zh_t F 14
def zh_ok9 (F : Nat → Int) (n : Int) : Prop := 64 ≤ zh_t F 8 ∧ zh_sg F n ≠ -1 ∧ (if F 0 ≤ 3 then 4 else 6) ≤ zh_eb F n ∧ zh_told F n ≠ -1 ∧ zh_t F 8 + 4 + zh_sg F n + zh_abs (zi_sh (zh_told F n)) * zh_eb F n ≤ zh_len F n
def zh_ok10 (F : Nat → Int) (n : Int) : Prop := zh_shorts F = 0 ∨ (64 ≤ zh_shorts F ∧ zh_shorts F + (if F 0 = 2 then 64 else 192) ≤ zh_len F n)
def zh_ok11 (F : Nat → Int) (n : Int) : Prop := 64 ≤ zh_start F ∧ zh_start F ≤ zh_len F n - 1
def zh_ok12 (F : Nat → Int) (n : Int) : Prop := zh_letters F = 0 ∨ (64 ≤ zh_letters F ∧ zh_letters F + 78 ≤ zh_len F n)
def zh_ok13 (F : Nat → Int) (n : Int) : Prop := zh_ends F = 0 ∨ (64 ≤ zh_ends F ∧ ∃ j : Int, zh_ends F ≤ j ∧ j < zh_len F n ∧ F j.toNat = 0)
def zh_ok14 (F : Nat → Int) (n : Int) : Prop := zh_more F = 0 ∨ (zh_mw F n ≠ -1 ∧ 64 ≤ zh_more F ∧ zh_more F + (2 + 2 * zh_mw F n) ≤ zh_len F n)
def zh_ok15 (F : Nat → Int) (n : Int) : Prop := zh_third F n = 0 ∨ (zh_at F n (zh_third F n) ≠ -1 ∧ 64 ≤ zh_third F n ∧ zh_third F n + (1 + 2 * zh_at F n (zh_third F n)) ≤ zh_len F n)
-- bounds
theorem zh_t_b {F : Nat → Int} (hF : zi_By F) (k : Nat) : 0 ≤ zh_t F k ∧ zh_t F k ≤ 65535 := by
  have h1 := hF k
  have h2 := hF (k + 1)
  unfold zh_t
  omega
theorem zh_at_b {F : Nat → Int} (hF : zi_By F) (n p : Int) : -1 ≤ zh_at F n p ∧ zh_at F n p ≤ 255 := by
  have h1 := hF p.toNat
  unfold zh_at
  split <;> omega
theorem zh_two_b {F : Nat → Int} (hF : zi_By F) (n p : Int) : -1 ≤ zh_two F n p ∧ zh_two F n p ≤ 65535 := by
  have h1 := hF p.toNat
  have h2 := hF (p + 1).toNat
  unfold zh_two
  split <;> omega
theorem zh_scale_b (v : Int) : 2 ≤ zh_scale v ∧ zh_scale v ≤ 8 := by
  unfold zh_scale
  split
  · omega
  · split <;> omega
theorem zh_mul_b {a b x y : Int} (h1 : 0 ≤ a) (h2 : a ≤ x) (h3 : 0 ≤ b) (h4 : b ≤ y) : 0 ≤ a * b ∧ a * b ≤ x * y :=
  ⟨Int.mul_nonneg h1 h3, Int.mul_le_mul h2 h4 h3 (Int.le_trans h1 h2)⟩
theorem zh_ts_b {F : Nat → Int} (hF : zi_By F) : 0 ≤ zh_t F 26 * zh_scale (F 0) ∧ zh_t F 26 * zh_scale (F 0) ≤ 524280 := by
  have h1 := zh_t_b hF 26
  have h2 := zh_scale_b (F 0)
  have h3 := zh_mul_b h1.1 h1.2 (show 0 ≤ zh_scale (F 0) by omega) h2.2
  omega
theorem zh_len_b {F : Nat → Int} {n : Int} (hF : zi_By F) (hn : 0 ≤ n ∧ n ≤ 600) : 0 ≤ zh_len F n ∧ zh_len F n ≤ 524280 := by
  have h1 := zh_ts_b hF
  unfold zh_len
  split <;> omega
theorem zh_abs_b {a : Int} (h : -32768 ≤ a ∧ a ≤ 32767) : 0 ≤ zh_abs a ∧ zh_abs a ≤ 32768 := by
  unfold zh_abs
  split <;> omega
theorem zh_ee_b {a b : Int} (h : -32768 ≤ a ∧ a ≤ 32767) (hb : 0 ≤ b ∧ b ≤ 255) : 0 ≤ zh_abs a * b ∧ zh_abs a * b ≤ 8355840 := by
  have h1 := zh_abs_b h
  have h3 := zh_mul_b h1.1 h1.2 hb.1 hb.2
  omega
theorem zh_at_in {F : Nat → Int} {n p : Int} (h : 0 ≤ p ∧ p < n) : zh_at F n p = F p.toNat := if_pos h
theorem zh_ee_b2 {a b : Int} (h : -32768 ≤ a ∧ a ≤ 32767) (hb : -1 ≤ b ∧ b ≤ 255) : -32768 ≤ zh_abs a * b ∧ zh_abs a * b ≤ 8355840 := by
  have h1 := zh_abs_b h
  by_cases c : 0 ≤ b
  · have h2 := zh_ee_b h ⟨c, hb.2⟩
    omega
  · have e : b = -1 := by omega
    subst e
    omega

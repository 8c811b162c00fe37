/-! The reference's words. -/
def zh_T (F : Nat → Int) (p : Int) : Int := 256 * F p.toNat + F (p + 1).toNat
def zh_mW (F : Nat → Int) (n v ln p : Int) : Prop := 64 ≤ p ∧ p < n ∧ p + F p.toNat + 3 < n ∧ (if v < 4 then 4 else 6) ≤ F (p + 1 + F p.toNat).toNat ∧ p + 4 + F p.toNat + F (p + 1 + F p.toNat).toNat * zh_abs (zi_sh (zh_T F (p + 2 + F p.toNat))) ≤ ln
def zh_mE (F : Nat → Int) (ln p : Int) : Prop := p = 0 ∨ (64 ≤ p ∧ ∃ j : Int, p ≤ j ∧ j < ln ∧ F j.toNat = 0)
def zh_mM (F : Nat → Int) (n ln p : Int) : Prop := p = 0 ∨ (64 ≤ p ∧ p + 1 < n ∧ p + 2 + 2 * zh_T F p ≤ ln)
def zh_mT (F : Nat → Int) (n ln p : Int) : Prop := zh_T F (p + 6) = 0 ∨ (64 ≤ zh_T F (p + 6) ∧ zh_T F (p + 6) < n ∧ zh_T F (p + 6) + 1 + 2 * F (zh_T F (p + 6)).toNat ≤ ln)
def zh_mst (F : Nat → Int) (v : Int) : Int := if v = 6 then 4 * zh_t F 6 + 8 * zh_t F 40 else zh_t F 6
def zh_mof (F : Nat → Int) (v w : Int) : Int := if v < 5 ∨ zh_t F 54 = 0 then 0 else if w = 11 then zh_T F (zh_t F 54) else if zh_T F (zh_t F 54) > 2 then zh_T F (zh_t F 54 + 6) else 0
def zh_mpk (F : Nat → Int) (v a t : Int) : Int := a * (if v < 4 then 2 else if v < 8 then 4 else 8) + (if v = 6 ∨ v = 7 then 8 * (if t = 0 then zh_t F 40 else zh_t F 42) else 0)
def zh_mp (w b : Int) : Int := if w = 1 then 1 else if b > 7 then 16 else 17
def zh_mm1 (v b : Int) : Prop := ((1 ≤ v ∧ v ≤ 3) ∧ 4 ≤ b ∧ b ≤ 6) ∨ (v = 4 ∧ ((2 ≤ b ∧ b ≤ 4) ∨ b = 7)) ∨ (v = 6 ∧ b ≠ 6) ∨ ((v = 5 ∨ v = 7 ∨ v = 8) ∧ (b = 0 ∨ (2 ≤ b ∧ b ≤ 4) ∨ b = 7))
theorem zh_T_b {F : Nat → Int} (hF : zi_By F) (p : Int) : 0 ≤ zh_T F p ∧ zh_T F p ≤ 65535 := by
  have h1 := hF p.toNat
  have h2 := hF (p + 1).toNat
  unfold zh_T
  omega
theorem zh_me_b {a b : Int} (h : -32768 ≤ a ∧ a ≤ 32767) (hb : 0 ≤ b ∧ b ≤ 255) : 0 ≤ b * zh_abs a ∧ b * zh_abs a ≤ 8355840 := by
  rw [Int.mul_comm]
  exact zh_ee_b h hb
def zh_fm (F : Nat → Int) (n : Int) (u : Nat) : Prop := (u = 0 ∧ zh_ok12 F n ∧ zh_ok13 F n ∧ zh_ok14 F n ∧ zh_ok15 F n) ∨ (u = 12 ∧ ¬ zh_ok12 F n) ∨ (u = 13 ∧ zh_ok12 F n ∧ ¬ zh_ok13 F n) ∨ (u = 14 ∧ zh_ok12 F n ∧ zh_ok13 F n ∧ ¬ zh_ok14 F n) ∨ (u = 15 ∧ zh_ok12 F n ∧ zh_ok13 F n ∧ zh_ok14 F n ∧ ¬ zh_ok15 F n)
theorem zh_fm_first {F : Nat → Int} {n : Int} {u : Nat} (h : zh_all F n 11) (hu : zh_fm F n u) : zh_first F n u := by
  rcases hu with ⟨rfl, a, b, c, d⟩ | ⟨rfl, a⟩ | ⟨rfl, a, b⟩ | ⟨rfl, a, b, c⟩ | ⟨rfl, a, b, c, d⟩
  · exact zh_first_0 (zh_all_s (zh_all_s (zh_all_s (zh_all_s h a) b) c) d)
  · exact zh_first_b 11 (by decide) h a
  · exact zh_first_b 12 (by decide) (zh_all_s h a) b
  · exact zh_first_b 13 (by decide) (zh_all_s (zh_all_s h a) b) c
  · exact zh_first_b 14 (by decide) (zh_all_s (zh_all_s (zh_all_s h a) b) c) d
theorem zh_lt5 {F : Nat → Int} {n : Int} (h : F 0 < 5) : zh_ok12 F n ∧ zh_ok13 F n ∧ zh_ok14 F n ∧ zh_ok15 F n := by
  have e1 : zh_letters F = 0 := by unfold zh_letters; exact if_pos h
  have e2 : zh_ends F = 0 := by unfold zh_ends; exact if_pos h
  have e3 : zh_more F = 0 := by unfold zh_more; exact if_pos h
  have e4 : zh_third F n = 0 := by unfold zh_third; exact if_pos (Or.inl e3)
  exact ⟨Or.inl e1, Or.inl e2, Or.inl e3, Or.inl e4⟩
-- the reference's rules are the rules
theorem zh_two_T {F : Nat → Int} {n p : Int} (h : 0 ≤ p ∧ p + 1 < n) : zh_two F n p = zh_T F p := by
  unfold zh_two zh_T
  rw [if_pos (by omega)]
  omega
theorem zh_mW_iff {F : Nat → Int} {n : Int} (hF : zi_By F) : zh_mW F n (F 0) (zh_len F n) (zh_t F 8) ↔ zh_ok9 F n := by
  have hb := zh_t_b hF 8
  have h1 := hF (zh_t F 8).toNat
  unfold zh_mW zh_ok9 zh_eb zh_told zh_sg
  by_cases c1 : zh_t F 8 < n
  · have e1 : zh_at F n (zh_t F 8) = F (zh_t F 8).toNat := zh_at_in ⟨by omega, c1⟩
    rw [e1]
    by_cases c2 : zh_t F 8 + F (zh_t F 8).toNat + 3 < n
    · have e2 : zh_at F n (zh_t F 8 + 1 + F (zh_t F 8).toNat) = F (zh_t F 8 + 1 + F (zh_t F 8).toNat).toNat := zh_at_in ⟨by omega, by omega⟩
      have e3 : zh_two F n (zh_t F 8 + 2 + F (zh_t F 8).toNat) = zh_T F (zh_t F 8 + 2 + F (zh_t F 8).toNat) := zh_two_T ⟨by omega, by omega⟩
      have e4 := zh_T_b hF (zh_t F 8 + 2 + F (zh_t F 8).toNat)
      rw [e2, e3, Int.mul_comm (zh_abs _)]
      split <;> split <;> omega
    · have e3 : zh_two F n (zh_t F 8 + 2 + F (zh_t F 8).toNat) = -1 := by unfold zh_two; exact if_neg (by omega)
      rw [e3]
      constructor
      · intro h; exact absurd h.2.2.1 c2
      · intro h; exact absurd rfl h.2.2.2.1
  · have e1 : zh_at F n (zh_t F 8) = -1 := by unfold zh_at; exact if_neg (by omega)
    rw [e1]
    constructor
    · intro h; exact absurd h.2.1 c1
    · intro h; exact absurd rfl h.2.1

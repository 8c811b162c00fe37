/-! The reference's answers. -/
def zh_same (F P : Nat → Int) (n : Int) : Prop := ∀ j : Nat, (j : Int) < n → P j = F j
def zh_qser (P : Nat → Int) (rd i : Int) : Int := if rd = 0 then -11 else if 0 ≤ i ∧ i ≤ 5 then P (18 + i).toNat else 0
def zh_qserT (rd i : Int) : Int := if rd = 0 ∨ (0 ≤ i ∧ i ≤ 5) then 0 else 1
def zh_qglo (F G : Nat → Int) (rd i : Int) : Int := if rd = 0 then -11 else if 0 ≤ i ∧ i ≤ 239 then zi_sh (zh_T G (zh_t F 12 + 2 * i)) else 0
def zh_qgloT (rd i : Int) : Int := if rd = 0 ∨ (0 ≤ i ∧ i ≤ 239) then 0 else 1
def zh_qld (G : Nat → Int) (n rd i : Int) : Int := if rd = 0 then -11 else if 0 ≤ i ∧ i < n then G i.toNat else 0
def zh_qldT (n rd i : Int) : Int := if rd = 0 ∨ (0 ≤ i ∧ i < n) then 0 else 1
def zh_qfi (F G : Nat → Int) (n rd v a t : Int) : Int := if rd = 0 then -11 else if 0 ≤ a ∧ a ≤ 65535 then zh_qld G n rd (zh_mpk F v a t) else -12
def zh_qfiT (F : Nat → Int) (n rd v a t : Int) : Int := if 0 ≤ a ∧ a ≤ 65535 then zh_qldT n rd (zh_mpk F v a t) else 0
def zh_qsg (F P : Nat → Int) (rd i : Int) : Int := if rd = 0 then -11 else if 0 ≤ i ∧ i < F (zh_t F 8).toNat then P (zh_t F 8 + 1 + i).toNat else 0
def zh_qsgT (F : Nat → Int) (rd i : Int) : Int := if rd = 0 ∨ (0 ≤ i ∧ i < F (zh_t F 8).toNat) then 0 else 1
def zh_qra (F : Nat → Int) (n rd b : Int) : Int := if rd = 0 then -11 else if zh_dv F n b = 0 then 0 else (zh_len F n).tdiv (zh_dv F n b)
def zh_qraT (F : Nat → Int) (n rd b : Int) : Int := if rd = 0 ∨ zh_dv F n b ≠ 0 then 0 else 1
def zh_qsu (P : Nat → Int) (rd ln : Int) : Int := if rd = 0 then -11 else zh_sm P (ln - 64).toNat % 65536
def zh_qag (F P : Nat → Int) (rd ln : Int) : Int := if rd = 0 then -11 else if zh_sm P (ln - 64).toNat % 65536 = zh_t F 28 then 1 else 0
noncomputable def zh_qon (G : Nat → Int) (rd w b : Int) : Int := if rd = 0 then -11 else zh_if (zh_isF w b) (zh_sr (G (zh_mp w b).toNat) (b % 8) % 2) (-12)
def zh_qmay (v w b on st : Int) : Prop := (w = 1 → st = 0 ∧ zh_mm1 v b) ∧ (w ≠ 1 → zh_may2 v b on st)
noncomputable def zh_qfl (G : Nat → Int) (rd v w b on st : Int) : Int := if rd = 0 then -11 else zh_if (zh_isF w b) (zh_if (zh_qmay v w b on st) (zh_sr (G (zh_mp w b).toNat) (b % 8) % 2) (-13)) (-12)
def zh_qflV (a b on : Int) : Int := if zh_sr a b % 2 = 0 ∧ on ≠ 0 then a + zh_pw b else if zh_sr a b % 2 = 1 ∧ on = 0 then a + -(zh_pw b) else a + 0
noncomputable def zh_qflG (G : Nat → Int) (rd v w b on st : Int) : Nat → Int := zh_if (rd ≠ 0 ∧ zh_isF w b ∧ zh_qmay v w b on st) (zi_up G (zh_mp w b).toNat (zh_qflV (G (zh_mp w b).toNat) (b % 8) on)) G
theorem zh_bit_b {a k : Int} (ha : 0 ≤ a ∧ a ≤ 255) (hk : 0 ≤ k ∧ k ≤ 7) : (zh_sr a k % 2 = 0 → a + zh_pw k ≤ 255) ∧ (zh_sr a k % 2 = 1 → zh_pw k ≤ a) ∧ 1 ≤ zh_pw k ∧ (0 ≤ zh_sr a k % 2 ∧ zh_sr a k % 2 ≤ 1) := by
  rcases (show k = 0 ∨ k = 1 ∨ k = 2 ∨ k = 3 ∨ k = 4 ∨ k = 5 ∨ k = 6 ∨ k = 7 by omega) with rfl | rfl | rfl | rfl | rfl | rfl | rfl | rfl <;> simp [zh_sr, zh_pw] <;> omega
theorem zh_qflV_b {a b on : Int} (ha : 0 ≤ a ∧ a ≤ 255) (hb : 0 ≤ b ∧ b ≤ 7) : 0 ≤ zh_qflV a b on ∧ zh_qflV a b on ≤ 255 := by
  have h := zh_bit_b ha hb
  unfold zh_qflV
  split
  · omega
  · split <;> omega
theorem zh_qflG_By {G : Nat → Int} (hG : zi_By G) (rd v w b on st : Int) : zi_By (zh_qflG G rd v w b on st) := by
  unfold zh_qflG zh_if
  split
  · rename_i h
    exact zi_up_By hG _ (zh_qflV_b (hG _) (by have := h.2.1; unfold zh_isF at this; omega))
  · exact hG
def zh_qre (F P G : Nat → Int) (rd : Int) : Int := if rd = 0 then -11 else zh_dc P G (zh_t F 14 - 64).toNat
def zh_qreG (F P G : Nat → Int) (rd : Int) : Nat → Int := if rd = 0 then G else zh_rs P G (zh_t F 14)
theorem zh_qreG_By {F P G : Nat → Int} (hP : zi_By P) (hG : zi_By G) (rd : Int) : zi_By (zh_qreG F P G rd) := by
  unfold zh_qreG
  split
  · exact hG
  · exact zh_rs_By hP hG _
-- the words of the dictionary and of the table of more words, where they stand
theorem zh_f_sg {F : Nat → Int} {n : Int} (hF : zi_By F) (h : 64 ≤ zh_t F 8 ∧ zh_t F 8 + F (zh_t F 8).toNat + 3 < n) : zh_sg F n = F (zh_t F 8).toNat := by
  have := hF (zh_t F 8).toNat
  exact zh_at_in ⟨by omega, by omega⟩
theorem zh_f_eb {F : Nat → Int} {n : Int} (hF : zi_By F) (h : 64 ≤ zh_t F 8 ∧ zh_t F 8 + F (zh_t F 8).toNat + 3 < n) : zh_eb F n = F (zh_t F 8 + 1 + F (zh_t F 8).toNat).toNat := by
  have := hF (zh_t F 8).toNat
  unfold zh_eb
  rw [zh_f_sg hF h]
  exact zh_at_in ⟨by omega, by omega⟩
theorem zh_f_en {F : Nat → Int} {n : Int} (hF : zi_By F) (h : 64 ≤ zh_t F 8 ∧ zh_t F 8 + F (zh_t F 8).toNat + 3 < n) : zh_en F n = zi_sh (zh_T F (zh_t F 8 + 2 + F (zh_t F 8).toNat)) := by
  have := hF (zh_t F 8).toNat
  unfold zh_en zh_told
  rw [zh_f_sg hF h, zh_two_T ⟨by omega, by omega⟩]
theorem zh_mpk_eq {F : Nat → Int} {v a t : Int} (hv : v = F 0) (hb : 1 ≤ F 0 ∧ F 0 ≤ 8) : zh_mpk F v a t = zh_unp F a t := by
  subst hv
  unfold zh_mpk zh_unp
  (repeat' split) <;> omega
theorem zh_rs_s' {F G : Nat → Int} {i : Int} (h : 64 ≤ i) : zi_up (zh_rs F G i) i.toNat (F i.toNat) = zh_rs F G (i + 1) := zh_rs_s h

/-! restart, read, flags, settings -/
def zh_rs (F G : Nat → Int) (i : Int) : Nat → Int := fun j => if 64 ≤ (j : Int) ∧ (j : Int) < i then F j else G j
theorem zh_rs_By {F G : Nat → Int} (hF : zi_By F) (hG : zi_By G) (i : Int) : zi_By (zh_rs F G i) := fun j => by
  unfold zh_rs
  split
  · exact hF j
  · exact hG j
theorem zh_rs_0 (F G : Nat → Int) : zh_rs F G 64 = G := by
  funext j
  unfold zh_rs
  exact if_neg (by omega)
theorem zh_rs_at {F G : Nat → Int} {i : Int} (h : 64 ≤ i) : zh_rs F G i i.toNat = G i.toNat := by
  unfold zh_rs
  exact if_neg (by omega)
theorem zh_rs_s {F G : Nat → Int} {i : Int} (h : 64 ≤ i) : zi_up (zh_rs F G i) i.toNat (F i.toNat) = zh_rs F G (i + 1) := by
  funext j
  unfold zi_up zh_rs
  by_cases e : j = i.toNat
  · subst e
    rw [if_pos rfl, if_pos (by omega)]
  · rw [if_neg e]
    by_cases q : 64 ≤ (j : Int) ∧ (j : Int) < i
    · rw [if_pos q, if_pos (by omega)]
    · rw [if_neg q, if_neg (by omega)]
theorem zh_rs_e {F G : Nat → Int} {i : Int} (h : 64 ≤ i) (e : G i.toNat = F i.toNat) : zh_rs F G i = zh_rs F G (i + 1) := by
  rw [← zh_rs_s h]
  funext j
  unfold zi_up
  by_cases q : j = i.toNat
  · subst q
    rw [if_pos rfl, zh_rs_at h, e]
  · rw [if_neg q]
def zh_dc (F G : Nat → Int) : Nat → Int
  | 0 => 0
  | k + 1 => zh_dc F G k + (if G (64 + k) = F (64 + k) then 0 else 1)
theorem zh_dc_b (F G : Nat → Int) : ∀ k : Nat, 0 ≤ zh_dc F G k ∧ zh_dc F G k ≤ (k : Int)
  | 0 => by simp [zh_dc]
  | k + 1 => by
    have h1 := zh_dc_b F G k
    show 0 ≤ zh_dc F G k + (if G (64 + k) = F (64 + k) then 0 else 1) ∧ zh_dc F G k + (if G (64 + k) = F (64 + k) then 0 else 1) ≤ ((k + 1 : Nat) : Int)
    split <;> omega
theorem zh_dc_e {F G : Nat → Int} {i : Int} (h : 64 ≤ i) (e : G i.toNat = F i.toNat) : zh_dc F G (i - 64).toNat = zh_dc F G (i + 1 - 64).toNat := by
  have e1 : (i + 1 - 64).toNat = (i - 64).toNat + 1 := by omega
  have e2 : i.toNat = 64 + (i - 64).toNat := by omega
  rw [e2] at e
  rw [e1]
  show _ = zh_dc F G (i - 64).toNat + (if G (64 + (i - 64).toNat) = F (64 + (i - 64).toNat) then 0 else 1)
  rw [if_pos e]
  omega
theorem zh_dc_n {F G : Nat → Int} {i : Int} (h : 64 ≤ i) (e : ¬ G i.toNat = F i.toNat) : zh_dc F G (i - 64).toNat + 1 = zh_dc F G (i + 1 - 64).toNat := by
  have e1 : (i + 1 - 64).toNat = (i - 64).toNat + 1 := by omega
  have e2 : i.toNat = 64 + (i - 64).toNat := by omega
  rw [e2] at e
  rw [e1]
  show _ = zh_dc F G (i - 64).toNat + (if G (64 + (i - 64).toNat) = F (64 + (i - 64).toNat) then 0 else 1)
  rw [if_neg e]
def zh_reE (F G : Nat → Int) (rd : Int) : Int := if rd = 0 then -11 else zh_dc F G (zh_t F 14 - 64).toNat
def zh_reG (F G : Nat → Int) (rd : Int) : Nat → Int := if rd = 0 then G else zh_rs F G (zh_t F 14)
theorem zh_reG_By {F G : Nat → Int} (hF : zi_By F) (hG : zi_By G) (rd : Int) : zi_By (zh_reG F G rd) := by
  unfold zh_reG
  split
  · exact hG
  · exact zh_rs_By hF hG _
-- read
def zh_ok (F : Nat → Int) (n : Int) : Nat → Prop
  | 1 => zh_ok1 F n | 2 => zh_ok2 F n | 3 => zh_ok3 F n | 4 => zh_ok4 F n | 5 => zh_ok5 F n | 6 => zh_ok6 F n | 7 => zh_ok7 F n | 8 => zh_ok8 F n | 9 => zh_ok9 F n | 10 => zh_ok10 F n | 11 => zh_ok11 F n | 12 => zh_ok12 F n | 13 => zh_ok13 F n | 14 => zh_ok14 F n | 15 => zh_ok15 F n | _ => True
def zh_all (F : Nat → Int) (n : Int) : Nat → Prop
  | 0 => True
  | k + 1 => zh_all F n k ∧ zh_ok F n (k + 1)
def zh_first (F : Nat → Int) (n : Int) (j : Nat) : Prop := (j = 0 ∧ zh_all F n 15) ∨ ∃ k, j = k + 1 ∧ k < 15 ∧ zh_all F n k ∧ ¬ zh_ok F n (k + 1)
theorem zh_all_le {F : Nat → Int} {n : Int} : ∀ {a b : Nat}, zh_all F n a → b < a → zh_ok F n (b + 1)
  | a + 1, b, h, hb => by
    rcases (show b < a ∨ b = a by omega) with q | q
    · exact zh_all_le h.1 q
    · subst q; exact h.2
theorem zh_first_u {F : Nat → Int} {n : Int} {i j : Nat} (h1 : zh_first F n i) (h2 : zh_first F n j) : i = j := by
  rcases h1 with ⟨a, b⟩ | ⟨k, a, b, c, d⟩ <;> rcases h2 with ⟨a', b'⟩ | ⟨k', a', b', c', d'⟩
  · omega
  · exact absurd (zh_all_le b b') d'
  · exact absurd (zh_all_le b' b) d
  · rcases (show k < k' ∨ k = k' ∨ k' < k by omega) with q | q | q
    · exact absurd (zh_all_le c' q) d
    · omega
    · exact absurd (zh_all_le c q) d'
def zh_pl (F : Nat → Int) (n : Int) (j : Nat) : Int := if j = 3 then n else if j = 4 then 26 else if j = 5 then 14 else if j = 6 then 4 else if j = 7 then 12 else if j = 8 then 10 else if j = 9 then 8 else if j = 10 then 24 else if j = 11 then 6 else if j = 12 then 52 else if j = 13 then 46 else if j = 14 then 54 else if j = 15 then zh_more F + 6 else 0
def zh_rdE (F : Nat → Int) (n : Int) (j : Nat) : Int := if j = 0 then F 0 else -20 - zh_pl F n j
def zh_rdR (j : Nat) : Int := if j = 0 then 1 else 0
def zh_rdB (j : Nat) : Int := j
def zh_rdK (n k : Int) (j : Nat) : Int := if j = 0 then n else k
def zh_rdG (F G : Nat → Int) (j : Nat) : Nat → Int := if j = 0 then zh_cp F G else G
theorem zh_rdG_By {F G : Nat → Int} (hF : zi_By F) (hG : zi_By G) (j : Nat) : zi_By (zh_rdG F G j) := by
  unfold zh_rdG
  split
  · exact zh_cp_By hF hG
  · exact hG
-- flags
def zh_swV (a b on : Int) : Int := if on = 0 then zh_clr a b else zh_set a b
def zh_swG (G : Nat → Int) (k w b on : Int) : Nat → Int := if w = 1 then zh_put G k 1 (zh_swV (G 1) b on) else zh_put (zh_put G k 16 (zh_swV (zh_t G 16) b on / 256)) k (16 + 1) (zh_swV (zh_t G 16) b on)
theorem zh_swG_By {G : Nat → Int} (hG : zi_By G) (k w b on : Int) : zi_By (zh_swG G k w b on) := by
  unfold zh_swG
  split
  · exact zh_put_By hG _ _ _
  · exact zh_put_By (zh_put_By hG _ _ _) _ _ _
-- settings
def zh_seB (w v : Int) : Prop := (0 ≤ w ∧ w ≤ 10) ∧ (((w = 4 ∨ w = 5 ∨ w = 10) ∧ 0 ≤ v ∧ v ≤ 65535) ∨ (¬ (w = 4 ∨ w = 5 ∨ w = 10) ∧ 0 ≤ v ∧ v ≤ 255))

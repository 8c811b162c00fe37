theorem zh_first_p {F : Nat → Int} {n : Int} {j : Nat} (h : zh_first F n j) (h0 : j = 0) : zh_all F n 15 := by
  rcases h with ⟨_, a⟩ | ⟨k, a, _⟩
  · exact a
  · omega
theorem zh_all_2 {F : Nat → Int} {n : Int} (h : zh_all F n 15) : 1 ≤ F 0 ∧ F 0 ≤ 8 := zh_all_le (b := 1) h (by decide)
theorem zh_first_15 {F : Nat → Int} {n : Int} {j : Nat} (h : zh_first F n j) : j ≤ 15 := by
  rcases h with ⟨a, _⟩ | ⟨k, a, b, _⟩ <;> omega
theorem zh_more_b {F : Nat → Int} (hF : zi_By F) : 0 ≤ zh_more F ∧ zh_more F ≤ 65535 := by
  have := zh_t_b hF 54
  unfold zh_more
  split <;> omega
theorem zh_rdE_n {F : Nat → Int} {n : Int} {j : Nat} (hF : zi_By F) (hn : 0 ≤ n ∧ n ≤ 600) (h : 0 < j) : -70000 ≤ zh_rdE F n j ∧ zh_rdE F n j ≤ -20 := by
  have := zh_more_b hF
  have h2 : 0 ≤ zh_pl F n j ∧ zh_pl F n j ≤ 65541 := by
    unfold zh_pl
    (repeat' split) <;> omega
  unfold zh_rdE
  rw [if_neg (by omega)]
  omega
def zh_rc (F P : Nat → Int) (i : Int) : Nat → Int := fun j => if (j : Int) < i then F j else P j
theorem zh_rc_By {F P : Nat → Int} (hF : zi_By F) (hP : zi_By P) (i : Int) : zi_By (zh_rc F P i) := fun j => by
  unfold zh_rc
  split
  · exact hF j
  · exact hP j
theorem zh_rc_0 (F P : Nat → Int) : zh_rc F P 0 = P := by
  funext j
  unfold zh_rc
  exact if_neg (by omega)
theorem zh_rc_s {F P : Nat → Int} {i : Int} (h : 0 ≤ i) : zi_up (zh_rc F P i) i.toNat (F i.toNat) = zh_rc F P (i + 1) := by
  funext j
  unfold zi_up zh_rc
  by_cases e : j = i.toNat
  · subst e
    rw [if_pos rfl, if_pos (by omega)]
  · rw [if_neg e]
    by_cases q : (j : Int) < i
    · rw [if_pos q, if_pos (by omega)]
    · rw [if_neg q, if_neg (by omega)]
def zh_rcJ (F P : Nat → Int) (n : Int) (j : Nat) : Nat → Int := if j = 0 then zh_rc F P n else P
theorem zh_rcJ_By {F P : Nat → Int} (hF : zi_By F) (hP : zi_By P) (n : Int) (j : Nat) : zi_By (zh_rcJ F P n j) := by
  unfold zh_rcJ
  split
  · exact zh_rc_By hF hP n
  · exact hP

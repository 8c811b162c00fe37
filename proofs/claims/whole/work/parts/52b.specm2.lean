def zh_ei (F : Nat → Int) (p i en : Int) : Prop := (en = 1 ∧ (p = 0 ∨ ∃ j : Int, p ≤ j ∧ j < i ∧ F j.toNat = 0)) ∨ (en = 0 ∧ p ≠ 0 ∧ ∀ j : Int, p ≤ j → j < i → F j.toNat ≠ 0)
theorem zh_ei_10 {F : Nat → Int} {p i : Int} (h : p = 0) : zh_ei F p i 1 := Or.inl ⟨rfl, Or.inl h⟩
theorem zh_ei_00 {F : Nat → Int} {p i : Int} (h : p ≠ 0) (e : i = p) : zh_ei F p i 0 := Or.inr ⟨rfl, h, fun j a b => absurd a (by omega)⟩
theorem zh_ei_d {F : Nat → Int} {p i en : Int} (h : zh_ei F p i en) : en = 0 ∨ en = 1 := by
  rcases h with ⟨a, -⟩ | ⟨a, -, -⟩
  · exact Or.inr a
  · exact Or.inl a
theorem zh_ei_s1 {F : Nat → Int} {p i : Int} (h : zh_ei F p i 1) : zh_ei F p (i + 1) 1 := by
  rcases h with ⟨-, a | ⟨j, a, b, c⟩⟩ | ⟨a, -, -⟩
  · exact Or.inl ⟨rfl, Or.inl a⟩
  · exact Or.inl ⟨rfl, Or.inr ⟨j, a, by omega, c⟩⟩
  · exact absurd a (by decide)
theorem zh_ei_h {F : Nat → Int} {p i : Int} (h : p ≤ i) (c : F i.toNat = 0) : zh_ei F p (i + 1) 1 := Or.inl ⟨rfl, Or.inr ⟨i, h, by omega, c⟩⟩
theorem zh_ei_s0 {F : Nat → Int} {p i : Int} (h : zh_ei F p i 0) (c : F i.toNat ≠ 0) : zh_ei F p (i + 1) 0 := by
  rcases h with ⟨a, -⟩ | ⟨-, a, b⟩
  · exact absurd a (by decide)
  · refine Or.inr ⟨rfl, a, fun j x y => ?_⟩
    rcases (show j < i ∨ j = i by omega) with q | q
    · exact b j x q
    · rw [q]; exact c
theorem zh_ei_t {F : Nat → Int} {p i ln : Int} (h : zh_ei F p i 1) (h6 : p < 64 → i = p) (h7 : i = p ∨ i ≤ ln) : zh_mE F ln p := by
  rcases h with ⟨-, a | ⟨j, a, b, c⟩⟩ | ⟨a, -, -⟩
  · exact Or.inl a
  · exact Or.inr ⟨by omega, j, a, by omega, c⟩
  · exact absurd a (by decide)
theorem zh_ei_f {F : Nat → Int} {p i ln : Int} (h : zh_ei F p i 0) (hx : p < 64 ∨ ln ≤ i) : ¬ zh_mE F ln p := by
  rcases h with ⟨a, -⟩ | ⟨-, a, b⟩
  · exact absurd a (by decide)
  · intro z
    rcases z with z | ⟨z, j, x, y, w⟩
    · exact a z
    · exact b j x (by omega) w
theorem zh_ei_sa {F : Nat → Int} {p i en : Int} (h : zh_ei F p i en) (e : en ≠ 0) : zh_ei F p (i + 1) 1 := by
  have d := zh_ei_d h
  have e1 : en = 1 := by omega
  subst e1
  exact zh_ei_s1 h
theorem zh_ei_sb {F : Nat → Int} {p i en : Int} (h : zh_ei F p i en) (e : en = 0) (c : F i.toNat ≠ 0) : zh_ei F p (i + 1) 0 := by
  subst e
  exact zh_ei_s0 h c
theorem zh_mE_iff {F : Nat → Int} {n : Int} : zh_mE F (zh_len F n) (zh_ends F) ↔ zh_ok13 F n := Iff.rfl
theorem zh_ok14_r {F : Nat → Int} {n : Int} (hF : zi_By F) (hL : zh_len F n ≤ n) (h : zh_ok14 F n) (h0 : zh_more F ≠ 0) : 64 ≤ zh_more F ∧ zh_more F + 1 < n ∧ zh_mw F n = zh_T F (zh_more F) ∧ zh_more F + 2 + 2 * zh_T F (zh_more F) ≤ zh_len F n := by
  rcases h with h | ⟨h1, h2, h3⟩
  · exact absurd h h0
  · have e : zh_mw F n = zh_two F n (zh_more F) := by unfold zh_mw; exact if_neg h0
    have b := zh_two_b hF n (zh_more F)
    have c : zh_more F + 1 < n := by
      by_cases q : 0 ≤ zh_more F ∧ zh_more F < n - 1
      · omega
      · exfalso
        apply h1
        rw [e]
        unfold zh_two
        exact if_neg q
    have e2 := zh_two_T (F := F) (n := n) (p := zh_more F) ⟨by omega, c⟩
    exact ⟨h2, c, by rw [e, e2], by rw [e, e2] at h3; omega⟩
theorem zh_mM_iff {F : Nat → Int} {n : Int} (hF : zi_By F) (hL : zh_len F n ≤ n) (h5 : 5 ≤ F 0) : zh_mM F n (zh_len F n) (zh_more F) ↔ zh_ok14 F n := by
  have hb : 0 ≤ zh_more F := by
    have := zh_t_b hF 54
    unfold zh_more
    split <;> omega
  constructor
  · intro h
    rcases h with h | ⟨h1, h2, h3⟩
    · exact Or.inl h
    · refine Or.inr ?_
      have e : zh_mw F n = zh_T F (zh_more F) := by unfold zh_mw; rw [if_neg (by omega)]; exact zh_two_T ⟨by omega, h2⟩
      have b := zh_T_b hF (zh_more F)
      rw [e]
      omega
  · intro h
    by_cases h0 : zh_more F = 0
    · exact Or.inl h0
    · obtain ⟨a, b, c, d⟩ := zh_ok14_r hF hL h h0
      exact Or.inr ⟨a, b, d⟩
theorem zh_ok14_r3 {F : Nat → Int} {n : Int} (hF : zi_By F) (hL : zh_len F n ≤ n) (h : zh_ok14 F n) (h0 : zh_more F ≠ 0) (h2 : 2 < zh_T F (zh_more F)) : zh_more F + 7 < n ∧ zh_third F n = zh_T F (zh_more F + 6) := by
  obtain ⟨a, b, c, d⟩ := zh_ok14_r hF hL h h0
  have e2 := zh_two_T (F := F) (n := n) (p := zh_more F) ⟨by omega, b⟩
  have b2 : zh_more F + 7 < n := by omega
  refine ⟨b2, ?_⟩
  unfold zh_third
  rw [if_neg (by rw [e2]; omega)]
  exact zh_two_T ⟨by omega, by omega⟩
theorem zh_mT_iff {F : Nat → Int} {n : Int} (hF : zi_By F) (hL : zh_len F n ≤ n) (h : zh_ok14 F n) (h0 : zh_more F ≠ 0) (h2 : 2 < zh_T F (zh_more F)) : zh_mT F n (zh_len F n) (zh_more F) ↔ zh_ok15 F n := by
  obtain ⟨a, e⟩ := zh_ok14_r3 hF hL h h0 h2
  have b := zh_T_b hF (zh_more F + 6)
  have bf := hF (zh_T F (zh_more F + 6)).toNat
  unfold zh_mT zh_ok15
  rw [e]
  by_cases c : zh_T F (zh_more F + 6) < n
  · rw [zh_at_in ⟨b.1, c⟩]
    omega
  · have e1 : zh_at F n (zh_T F (zh_more F + 6)) = -1 := by unfold zh_at; exact if_neg (by omega)
    rw [e1]
    omega
theorem zh_ok15_0 {F : Nat → Int} {n : Int} (h0 : zh_more F = 0) : zh_ok15 F n := by
  refine Or.inl ?_
  unfold zh_third
  exact if_pos (Or.inl h0)
theorem zh_ok15_2 {F : Nat → Int} {n : Int} (hF : zi_By F) (hL : zh_len F n ≤ n) (h : zh_ok14 F n) (h0 : zh_more F ≠ 0) (h2 : zh_T F (zh_more F) ≤ 2) : zh_ok15 F n := by
  obtain ⟨a, b, c, d⟩ := zh_ok14_r hF hL h h0
  have e2 := zh_two_T (F := F) (n := n) (p := zh_more F) ⟨by omega, b⟩
  refine Or.inl ?_
  unfold zh_third
  exact if_pos (Or.inr (by rw [e2]; omega))

theorem zh_all_0 {F : Nat → Int} {n : Int} : zh_all F n 0 := trivial
theorem zh_all_s {F : Nat → Int} {n : Int} {k : Nat} (a : zh_all F n k) (b : zh_ok F n (k + 1)) : zh_all F n (k + 1) := ⟨a, b⟩
theorem zh_first_0 {F : Nat → Int} {n : Int} (a : zh_all F n 15) : zh_first F n 0 := Or.inl ⟨rfl, a⟩
theorem zh_first_b {F : Nat → Int} {n : Int} (k : Nat) (h : k < 15) (a : zh_all F n k) (b : ¬ zh_ok F n (k + 1)) : zh_first F n (k + 1) := Or.inr ⟨k, rfl, h, a, b⟩

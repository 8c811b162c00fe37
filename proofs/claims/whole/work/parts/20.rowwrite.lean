theorem in_X2_put_X2 : ∀ w ∈ u_ws RX2 TX2 2, w ∈ wsX2_put := by decide +kernel
set_option maxHeartbeats 4000000 in
set_option maxRecDepth 100000 in
theorem c_Row_put (l : Launch) (D : va_G) (q a : Nat) (cA : ClassId) (F : Nat → Int) (n : Int) (hF : zi_By F) (hn : 0 ≤ n ∧ n ≤ 600) (sz : Nat) (p0 : Int) (p1 : Int) (hp : zi_R p0) (hq : zi_R p1) : Met l yX2_put wsX2_put ({ frames := 1, cells := 0, slots := 0, locals := 21 }) (va_Pc [.ref q, .int (zi_n p0), .int (zi_n p1)] (zp_P D vwCl sz [(q, .inr (3, [.ref a, .int (zi_n n)])), (a, .inl (cA, 600, .inl (zi_F F)))] [(cA, .int)])) (va_Qv (fun (_ : Unit) => True) (fun (_ : Unit) => zp_B D vwCl [(cA, .int)] (va_A [(q, .inr (3, [.ref a, .int (zi_n n)])), (a, .inl (cA, 600, .inl (zi_F F)))] sz) [(q, .inr (3, [.ref a, .int (zi_n n)])), (a, .inl (cA, 600, .inl (zi_F (zh_put F n p0 p1))))]) (va_A [(q, .inr (3, [.ref a, .int (zi_n n)])), (a, .inl (cA, 600, .inl (zi_F F)))] sz)) 0 0 (va_A [(q, .inr (3, [.ref a, .int (zi_n n)])), (a, .inl (cA, 600, .inl (zi_F F)))] sz) := by
  refine Met.ofW (cc := cX2_put) (maxL := 3) (ret := none) (by decide) rfl ?_
  intro p e s m args below meth c s₁ B hml hv
  obtain ⟨rfl, hsz, hP, hK, hD0⟩ := hv
  have hx := B.exec
  have hb := B.bytes
  have hr := B.returns
  have hts := atoms_spec (ws := wsX2_put) B.pre
  have hown : s.vm.findClass RX2 = some m.cls := findClass_of_methodNamed B.named
  have hlocks := B.notSynchronized
  subst hsz
  have hD := hD0.self (sz := s.heap.size)
  generalize hAe : va_A [(q, .inr (3, [.ref a, .int (zi_n n)])), (a, .inl (cA, 600, .inl (zi_F F)))] s.heap.size = A at hD ⊢
  have hA : ∀ q : Nat, s.heap.size ≤ q → A q := fun q h => by rw [← hAe]; exact Or.inr h
  have hS : va_S A s.heap s.heap [] := va_S.rf
  have hP : va_P D vwCl [(q, .inr (3, [.ref a, .int (zi_n n)])), (a, .inl (cA, 600, .inl (zi_F F)))] s.heap := hP
  have hl := lv_entry ([.ref q, .int (zi_n p0), .int (zi_n p1)]) (n := 3) (Nat.le_of_ble_eq_true rfl)
  rw [lg_entry_eq]
  generalize (lg_sl ([.ref q, .int (zi_n p0), .int (zi_n p1)]) ++ List.replicate (3 - (lg_sl ([.ref q, .int (zi_n p0), .int (zi_n p1)])).length) Slot.unset).toArray = ls at hl ⊢
  have hl : lv_has ls 3 [(0, .ref q), (1, .int (zi_n p0)), (2, .int (zi_n p1))] := hl
  refine lv_aload_n hx hb dX2_put_0 rfl (lv_at hl 0 rfl) ?_
  refine lv_iload_n hx hb dX2_put_1 rfl (lv_at hl 1 rfl) ?_
  refine zc_V (As := [.int (zi_n p0)]) (rest := []) ⟨hx, hb, hml, hown, hts⟩ (c_Row_has l D q a cA F n hF (by omega) p0 (by omega)) (cwV 1 hts gX2_put_X2_has rfl rfl rfl (by decide +kernel) ⟨(Nat.le_of_ble_eq_true rfl), (Nat.le_of_ble_eq_true rfl)⟩) hP hK [0, 1] [0] rfl rfl (ci := 3) rfl rfl rfl rfl hl.1 rfl (Nat.le_of_ble_eq_true rfl) dX2_put_2 ⟨Nat.zero_le _, Nat.zero_le _⟩ (fun r hr1 => ?_)
  rcases hr1 with ⟨rfl, c_1⟩ | ⟨rfl, c_1⟩
  · refine zr_if_eq (tgt := 19) hx hb dX2_put_5 (by decide) (by omega) (fun c => absurd c (by decide)) (fun c_2 => ?_)
    refine lv_aload_n hx hb dX2_put_8 rfl (lv_at hl 0 rfl) ?_
    refine va_get (D := D) (ci := 3) (v := .ref a) (C := RX2) (T := TX2) (N := 2) hx hb hts in_X2_put_X2 hown hK hP 0 rfl rfl 0 (by decide) (hts (.fieldLink RX2 9 "ZHeads$Row" "cells" "[I") (by decide +kernel)) (fun _ h9 => h9) rfl dX2_put_9 ?_
    refine lv_iload_n hx hb dX2_put_12 rfl (lv_at hl 1 rfl) ?_
    refine lv_iload_n hx hb dX2_put_13 rfl (lv_at hl 2 rfl) ?_
    refine zr_sipush hx hb dX2_put_14 (by decide) ?_
    refine zr_iand255 hx hb dX2_put_17 (by omega) ?_
    refine zr_iast (x := p1 % 256) hx hb hK hP hD hS 1 0 rfl rfl (by decide) (by omega) dX2_put_18 (fun H locs hP hD hS => ?_)
    have hF_3 : zi_By (zi_up F p0.toNat (p1 % 256)) := zi_up_By hF _ (by omega)
    have hP : va_P D vwCl [(q, .inr (3, [.ref a, .int (zi_n n)])), (a, .inl (cA, 600, .inl (zi_F (zi_up F p0.toNat (p1 % 256)))))] H := hP
    have hD : va_D A [(q, .inr (3, [.ref a, .int (zi_n n)])), (a, .inl (cA, 600, .inl (zi_F (zi_up F p0.toNat (p1 % 256)))))] := hD
    have e_n_4_0 : zh_put F n p0 p1 = zi_up F p0.toNat (p1 % 256) := by exact if_pos c_1
    have hP9 : va_P D vwCl [(q, .inr (3, [.ref a, .int (zi_n n)])), (a, .inl (cA, 600, .inl (zi_F (zh_put F n p0 p1))))] H := by rw [e_n_4_0]; exact hP
    have hD9 : va_D A [(q, .inr (3, [.ref a, .int (zi_n n)])), (a, .inl (cA, 600, .inl (zi_F (zh_put F n p0 p1))))] := by rw [e_n_4_0]; exact hD
    exact W.vret hx hb hr (fun t ht hW => ⟨⟨(), rfl, trivial, by rw [ht]; exact hP9, va_K.moved hW.alike hK, hD9⟩, hS.F ht⟩) hS.2.2 dX2_put_19
  · refine zr_if_eq (tgt := 19) hx hb dX2_put_5 (by decide) (by omega) (fun c_5 => ?_) (fun c => absurd c (by decide))
    have e_n_6_0 : zh_put F n p0 p1 = F := by exact if_neg c_1
    have hP9 : va_P D vwCl [(q, .inr (3, [.ref a, .int (zi_n n)])), (a, .inl (cA, 600, .inl (zi_F (zh_put F n p0 p1))))] s.heap := by rw [e_n_6_0]; exact hP
    have hD9 : va_D A [(q, .inr (3, [.ref a, .int (zi_n n)])), (a, .inl (cA, 600, .inl (zi_F (zh_put F n p0 p1))))] := by rw [e_n_6_0]; exact hD
    exact W.vret hx hb hr (fun t ht hW => ⟨⟨(), rfl, trivial, by rw [ht]; exact hP9, va_K.moved hW.alike hK, hD9⟩, hS.F ht⟩) hS.2.2 dX2_put_19

set_option maxHeartbeats 4000000 in
set_option maxRecDepth 100000 in
theorem c_Row_putTwo (l : Launch) (D : va_G) (q a : Nat) (cA : ClassId) (F : Nat → Int) (n : Int) (hF : zi_By F) (hn : 0 ≤ n ∧ n ≤ 600) (sz : Nat) (p0 : Int) (p1 : Int) (hp : 0 ≤ p0 ∧ p0 ≤ 600) (hq : zi_R p1) : Met l yX2_putTwo wsX2_putTwo ({ frames := 2, cells := 0, slots := 0, locals := 43 }) (va_Pc [.ref q, .int (zi_n p0), .int (zi_n p1)] (zp_P D vwCl sz [(q, .inr (3, [.ref a, .int (zi_n n)])), (a, .inl (cA, 600, .inl (zi_F F)))] [(cA, .int)])) (va_Qv (fun (_ : Unit) => True) (fun (_ : Unit) => zp_B D vwCl [(cA, .int)] (va_A [(q, .inr (3, [.ref a, .int (zi_n n)])), (a, .inl (cA, 600, .inl (zi_F F)))] sz) [(q, .inr (3, [.ref a, .int (zi_n n)])), (a, .inl (cA, 600, .inl (zi_F (zh_put (zh_put F n p0 (p1 / 256)) n (p0 + 1) p1))))]) (va_A [(q, .inr (3, [.ref a, .int (zi_n n)])), (a, .inl (cA, 600, .inl (zi_F F)))] sz)) 0 0 (va_A [(q, .inr (3, [.ref a, .int (zi_n n)])), (a, .inl (cA, 600, .inl (zi_F F)))] sz) := by
  refine Met.ofW (cc := cX2_putTwo) (maxL := 3) (ret := none) (by decide) rfl ?_
  intro p e s m args below meth c s₁ B hml hv
  obtain ⟨rfl, hsz, hP, hK, hD0⟩ := hv
  have hx := B.exec
  have hb := B.bytes
  have hr := B.returns
  have hts := atoms_spec (ws := wsX2_putTwo) B.pre
  have hown : s.vm.findClass RX2 = some m.cls := findClass_of_methodNamed B.named
  have hlocks := B.notSynchronized
  subst hsz
  have hD := hD0.self (sz := s.heap.size)
  generalize hAe : va_A [(q, .inr (3, [.ref a, .int (zi_n n)])), (a, .inl (cA, 600, .inl (zi_F F)))] s.heap.size = A at hD ⊢
  have hA : ∀ q : Nat, s.heap.size ≤ q → A q := fun q h => by rw [← hAe]; exact Or.inr h
  have hS : va_S A s.heap s.heap [] := va_S.rf
  have hP : va_P D vwCl [(q, .inr (3, [.ref a, .int (zi_n n)])), (a, .inl (cA, 600, .inl (zi_F F)))] s.heap := hP
  have hl := lv_entry ([.ref q, .int (zi_n p0), .int (zi_n p1)]) (n := 3) (Nat.le_of_ble_eq_true rfl)
  rw [lg_entry_eq]
  generalize (lg_sl ([.ref q, .int (zi_n p0), .int (zi_n p1)]) ++ List.replicate (3 - (lg_sl ([.ref q, .int (zi_n p0), .int (zi_n p1)])).length) Slot.unset).toArray = ls at hl ⊢
  have hl : lv_has ls 3 [(0, .ref q), (1, .int (zi_n p0)), (2, .int (zi_n p1))] := hl
  refine lv_aload_n hx hb dX2_putTwo_0 rfl (lv_at hl 0 rfl) ?_
  refine lv_iload_n hx hb dX2_putTwo_1 rfl (lv_at hl 1 rfl) ?_
  refine lv_iload_n hx hb dX2_putTwo_2 rfl (lv_at hl 2 rfl) ?_
  refine zr_bipush hx hb dX2_putTwo_3 (by decide) ?_
  refine zr_ishr8 hx hb dX2_putTwo_5 (by omega) ?_
  refine zc_Vv (As := [.int (zi_n p0), .int (zi_n (p1 / 256))]) (rest := []) (wr := []) (wf := fun (_ : Unit) => [(q, .inr (3, [.ref a, .int (zi_n n)])), (a, .inl (cA, 600, .inl (zi_F (zh_put F n p0 (p1 / 256)))))]) ⟨hx, hb, hml, hown, hts⟩ (c_Row_put l D q a cA F n hF (by omega) _ p0 (p1 / 256) (by omega) (by omega)) (cwV 2 hts gX2_putTwo_X2_put rfl rfl rfl (by decide +kernel) ⟨(Nat.le_of_ble_eq_true rfl), (Nat.le_of_ble_eq_true rfl)⟩) hP hD hK hS hA [0, 1] [] [0] [0, 1] rfl rfl (by decide) rfl (by decide) (by decide) rfl (fun _ => rfl) (fun _ => rfl) (by decide) (ci := 3) rfl rfl rfl rfl hl.1 rfl (Nat.le_of_ble_eq_true rfl) dX2_putTwo_6 ⟨Nat.zero_le _, Nat.zero_le _⟩ (fun _ hr1 H locs hP hD hS => ?_)
  have hF_1 : zi_By (zh_put F n p0 (p1 / 256)) := zh_put_By hF _ _ _
  have hP : va_P D vwCl [(q, .inr (3, [.ref a, .int (zi_n n)])), (a, .inl (cA, 600, .inl (zi_F (zh_put F n p0 (p1 / 256)))))] H := hP
  have hD : va_D A [(q, .inr (3, [.ref a, .int (zi_n n)])), (a, .inl (cA, 600, .inl (zi_F (zh_put F n p0 (p1 / 256)))))] := hD
  refine lv_aload_n hx hb dX2_putTwo_9 rfl (lv_at hl 0 rfl) ?_
  refine lv_iload_n hx hb dX2_putTwo_10 rfl (lv_at hl 1 rfl) ?_
  refine zr_iconst hx hb dX2_putTwo_11 ?_
  refine zr_iadd hx hb dX2_putTwo_12 ?_
  refine lv_iload_n hx hb dX2_putTwo_13 rfl (lv_at hl 2 rfl) ?_
  refine zc_Vv (As := [.int (zi_n (p0 + 1)), .int (zi_n p1)]) (rest := []) (wr := []) (wf := fun (_ : Unit) => [(q, .inr (3, [.ref a, .int (zi_n n)])), (a, .inl (cA, 600, .inl (zi_F (zh_put (zh_put F n p0 (p1 / 256)) n (p0 + 1) p1))))]) ⟨hx, hb, hml, hown, hts⟩ (c_Row_put l D q a cA (zh_put F n p0 (p1 / 256)) n hF_1 (by omega) _ (p0 + 1) p1 (by omega) (by omega)) (cwV 2 hts gX2_putTwo_X2_put rfl rfl rfl (by decide +kernel) ⟨(Nat.le_of_ble_eq_true rfl), (Nat.le_of_ble_eq_true rfl)⟩) hP hD hK hS hA [0, 1] [] [0] [0, 1] rfl rfl (by decide) rfl (by decide) (by decide) rfl (fun _ => rfl) (fun _ => rfl) (by decide) (ci := 3) rfl rfl rfl rfl hl.1 rfl (Nat.le_of_ble_eq_true rfl) dX2_putTwo_14 ⟨Nat.zero_le _, Nat.zero_le _⟩ (fun _ hr1 H locs hP hD hS => ?_)
  have hF_2 : zi_By (zh_put (zh_put F n p0 (p1 / 256)) n (p0 + 1) p1) := zh_put_By hF_1 _ _ _
  have hP : va_P D vwCl [(q, .inr (3, [.ref a, .int (zi_n n)])), (a, .inl (cA, 600, .inl (zi_F (zh_put (zh_put F n p0 (p1 / 256)) n (p0 + 1) p1))))] H := hP
  have hD : va_D A [(q, .inr (3, [.ref a, .int (zi_n n)])), (a, .inl (cA, 600, .inl (zi_F (zh_put (zh_put F n p0 (p1 / 256)) n (p0 + 1) p1))))] := hD
  have hP9 : va_P D vwCl [(q, .inr (3, [.ref a, .int (zi_n n)])), (a, .inl (cA, 600, .inl (zi_F (zh_put (zh_put F n p0 (p1 / 256)) n (p0 + 1) p1))))] H := hP
  have hD9 : va_D A [(q, .inr (3, [.ref a, .int (zi_n n)])), (a, .inl (cA, 600, .inl (zi_F (zh_put (zh_put F n p0 (p1 / 256)) n (p0 + 1) p1))))] := hD
  exact W.vret hx hb hr (fun t ht hW => ⟨⟨(), rfl, trivial, by rw [ht]; exact hP9, va_K.moved hW.alike hK, hD9⟩, hS.F ht⟩) hS.2.2 dX2_putTwo_17

theorem in_X2_add_X2 : ∀ w ∈ u_ws RX2 TX2 2, w ∈ wsX2_add := by decide +kernel
set_option maxHeartbeats 4000000 in
set_option maxRecDepth 100000 in
theorem c_Row_add (l : Launch) (D : va_G) (q a : Nat) (cA : ClassId) (F : Nat → Int) (n : Int) (hF : zi_By F) (hn : 0 ≤ n ∧ n ≤ 600) (sz : Nat) (p0 : Int) (hp : 0 ≤ p0 ∧ p0 ≤ 255) (hq : n < 600) : Met l yX2_add wsX2_add ({ frames := 0, cells := 0, slots := 0, locals := 0 }) (va_Pc [.ref q, .int (zi_n p0)] (zp_P D vwCl sz [(q, .inr (3, [.ref a, .int (zi_n n)])), (a, .inl (cA, 600, .inl (zi_F F)))] [(cA, .int)])) (va_Qv (fun (_ : Unit) => True) (fun (_ : Unit) => zp_B D vwCl [(cA, .int)] (va_A [(q, .inr (3, [.ref a, .int (zi_n n)])), (a, .inl (cA, 600, .inl (zi_F F)))] sz) [(q, .inr (3, [.ref a, .int (zi_n (n + 1))])), (a, .inl (cA, 600, .inl (zi_F (zi_up F n.toNat p0))))]) (va_A [(q, .inr (3, [.ref a, .int (zi_n n)])), (a, .inl (cA, 600, .inl (zi_F F)))] sz)) 0 0 (va_A [(q, .inr (3, [.ref a, .int (zi_n n)])), (a, .inl (cA, 600, .inl (zi_F F)))] sz) := by
  refine Met.ofW (cc := cX2_add) (maxL := 2) (ret := none) (by decide) rfl ?_
  intro p e s m args below meth c s₁ B hml hv
  obtain ⟨rfl, hsz, hP, hK, hD0⟩ := hv
  have hx := B.exec
  have hb := B.bytes
  have hr := B.returns
  have hts := atoms_spec (ws := wsX2_add) B.pre
  have hown : s.vm.findClass RX2 = some m.cls := findClass_of_methodNamed B.named
  have hlocks := B.notSynchronized
  subst hsz
  have hD := hD0.self (sz := s.heap.size)
  generalize hAe : va_A [(q, .inr (3, [.ref a, .int (zi_n n)])), (a, .inl (cA, 600, .inl (zi_F F)))] s.heap.size = A at hD ⊢
  have hA : ∀ q : Nat, s.heap.size ≤ q → A q := fun q h => by rw [← hAe]; exact Or.inr h
  have hS : va_S A s.heap s.heap [] := va_S.rf
  have hP : va_P D vwCl [(q, .inr (3, [.ref a, .int (zi_n n)])), (a, .inl (cA, 600, .inl (zi_F F)))] s.heap := hP
  have hl := lv_entry ([.ref q, .int (zi_n p0)]) (n := 2) (Nat.le_of_ble_eq_true rfl)
  rw [lg_entry_eq]
  generalize (lg_sl ([.ref q, .int (zi_n p0)]) ++ List.replicate (2 - (lg_sl ([.ref q, .int (zi_n p0)])).length) Slot.unset).toArray = ls at hl ⊢
  have hl : lv_has ls 2 [(0, .ref q), (1, .int (zi_n p0))] := hl
  refine lv_aload_n hx hb dX2_add_0 rfl (lv_at hl 0 rfl) ?_
  refine va_get (D := D) (ci := 3) (v := .int (zi_n n)) (C := RX2) (T := TX2) (N := 2) hx hb hts in_X2_add_X2 hown hK hP 0 rfl rfl 1 (by decide) (hts (.fieldLink RX2 15 "ZHeads$Row" "count" "I") (by decide +kernel)) (fun _ h9 => h9) rfl dX2_add_1 ?_
  refine zr_if_lt (tgt := 39) hx hb dX2_add_4 (by decide) (by omega) (fun c => False.elim (by omega)) (fun c_1 => ?_)
  refine lv_aload_n hx hb dX2_add_7 rfl (lv_at hl 0 rfl) ?_
  refine va_get (D := D) (ci := 3) (v := .int (zi_n n)) (C := RX2) (T := TX2) (N := 2) hx hb hts in_X2_add_X2 hown hK hP 0 rfl rfl 1 (by decide) (hts (.fieldLink RX2 15 "ZHeads$Row" "count" "I") (by decide +kernel)) (fun _ h9 => h9) rfl dX2_add_8 ?_
  refine lv_aload_n hx hb dX2_add_11 rfl (lv_at hl 0 rfl) ?_
  refine va_get (D := D) (ci := 3) (v := .ref a) (C := RX2) (T := TX2) (N := 2) hx hb hts in_X2_add_X2 hown hK hP 0 rfl rfl 0 (by decide) (hts (.fieldLink RX2 9 "ZHeads$Row" "cells" "[I") (by decide +kernel)) (fun _ h9 => h9) rfl dX2_add_12 ?_
  refine zr_alen hx hb hK hP 1 0 rfl rfl 600 rfl dX2_add_15 ?_
  refine zr_icmp_ge (tgt := 39) hx hb dX2_add_16 (by decide) (by omega) (by omega) (fun c => False.elim (by omega)) (fun c_2 => ?_)
  refine lv_aload_n hx hb dX2_add_19 rfl (lv_at hl 0 rfl) ?_
  refine va_get (D := D) (ci := 3) (v := .ref a) (C := RX2) (T := TX2) (N := 2) hx hb hts in_X2_add_X2 hown hK hP 0 rfl rfl 0 (by decide) (hts (.fieldLink RX2 9 "ZHeads$Row" "cells" "[I") (by decide +kernel)) (fun _ h9 => h9) rfl dX2_add_20 ?_
  refine lv_aload_n hx hb dX2_add_23 rfl (lv_at hl 0 rfl) ?_
  refine va_get (D := D) (ci := 3) (v := .int (zi_n n)) (C := RX2) (T := TX2) (N := 2) hx hb hts in_X2_add_X2 hown hK hP 0 rfl rfl 1 (by decide) (hts (.fieldLink RX2 15 "ZHeads$Row" "count" "I") (by decide +kernel)) (fun _ h9 => h9) rfl dX2_add_24 ?_
  refine lv_iload_n hx hb dX2_add_27 rfl (lv_at hl 1 rfl) ?_
  refine zr_iast (x := p0) hx hb hK hP hD hS 1 0 rfl rfl (by decide) (by omega) dX2_add_28 (fun H locs hP hD hS => ?_)
  have hF_3 : zi_By (zi_up F n.toNat p0) := zi_up_By hF _ (by omega)
  have hP : va_P D vwCl [(q, .inr (3, [.ref a, .int (zi_n n)])), (a, .inl (cA, 600, .inl (zi_F (zi_up F n.toNat p0))))] H := hP
  have hD : va_D A [(q, .inr (3, [.ref a, .int (zi_n n)])), (a, .inl (cA, 600, .inl (zi_F (zi_up F n.toNat p0))))] := hD
  refine lv_aload_n hx hb dX2_add_29 rfl (lv_at hl 0 rfl) ?_
  refine lv_dup hx hb dX2_add_30 rfl ?_
  refine va_get (D := D) (ci := 3) (v := .int (zi_n n)) (C := RX2) (T := TX2) (N := 2) hx hb hts in_X2_add_X2 hown hK hP 0 rfl rfl 1 (by decide) (hts (.fieldLink RX2 15 "ZHeads$Row" "count" "I") (by decide +kernel)) (fun _ h9 => h9) rfl dX2_add_31 ?_
  refine zr_iconst hx hb dX2_add_34 ?_
  refine zr_iadd hx hb dX2_add_35 ?_
  refine va_put (D := D) (ci := 3) (v := .int (zi_n (n + 1))) (ty := .int) (C := RX2) (T := TX2) (N := 2) hx hb hts in_X2_add_X2 tyX2 tyX2_ok nmX2 hown hK hP hD hS 0 rfl rfl 1 (by decide) (hts (.fieldLink RX2 15 "ZHeads$Row" "count" "I") (by decide +kernel)) (fun _ h9 => h9) rfl (by decide +kernel) rfl rfl (Nat.le_of_ble_eq_true rfl) dX2_add_36 (fun H locs hP hD hS => ?_)
  have hP : va_P D vwCl [(q, .inr (3, [.ref a, .int (zi_n (n + 1))])), (a, .inl (cA, 600, .inl (zi_F (zi_up F n.toNat p0))))] H := hP
  have hD : va_D A [(q, .inr (3, [.ref a, .int (zi_n (n + 1))])), (a, .inl (cA, 600, .inl (zi_F (zi_up F n.toNat p0))))] := hD
  have hP9 : va_P D vwCl [(q, .inr (3, [.ref a, .int (zi_n (n + 1))])), (a, .inl (cA, 600, .inl (zi_F (zi_up F n.toNat p0))))] H := hP
  have hD9 : va_D A [(q, .inr (3, [.ref a, .int (zi_n (n + 1))])), (a, .inl (cA, 600, .inl (zi_F (zi_up F n.toNat p0))))] := hD
  exact W.vret hx hb hr (fun t ht hW => ⟨⟨(), rfl, trivial, by rw [ht]; exact hP9, va_K.moved hW.alike hK, hD9⟩, hS.F ht⟩) hS.2.2 dX2_add_39

theorem in_X2_empty_X2 : ∀ w ∈ u_ws RX2 TX2 2, w ∈ wsX2_empty := by decide +kernel
set_option maxHeartbeats 4000000 in
set_option maxRecDepth 100000 in
theorem c_Row_empty (l : Launch) (D : va_G) (q a : Nat) (cA : ClassId) (F : Nat → Int) (n : Int) (hF : zi_By F) (hn : 0 ≤ n ∧ n ≤ 600) (sz : Nat) : Met l yX2_empty wsX2_empty ({ frames := 0, cells := 0, slots := 0, locals := 0 }) (va_Pc [.ref q] (zp_P D vwCl sz [(q, .inr (3, [.ref a, .int (zi_n n)])), (a, .inl (cA, 600, .inl (zi_F F)))] [(cA, .int)])) (va_Qv (fun (_ : Unit) => True) (fun (_ : Unit) => zp_B D vwCl [(cA, .int)] (va_A [(q, .inr (3, [.ref a, .int (zi_n n)])), (a, .inl (cA, 600, .inl (zi_F F)))] sz) [(q, .inr (3, [.ref a, .int (zi_n 0)])), (a, .inl (cA, 600, .inl (zi_F F)))]) (va_A [(q, .inr (3, [.ref a, .int (zi_n n)])), (a, .inl (cA, 600, .inl (zi_F F)))] sz)) 0 0 (va_A [(q, .inr (3, [.ref a, .int (zi_n n)])), (a, .inl (cA, 600, .inl (zi_F F)))] sz) := by
  refine Met.ofW (cc := cX2_empty) (maxL := 1) (ret := none) (by decide) rfl ?_
  intro p e s m args below meth c s₁ B hml hv
  obtain ⟨rfl, hsz, hP, hK, hD0⟩ := hv
  have hx := B.exec
  have hb := B.bytes
  have hr := B.returns
  have hts := atoms_spec (ws := wsX2_empty) B.pre
  have hown : s.vm.findClass RX2 = some m.cls := findClass_of_methodNamed B.named
  have hlocks := B.notSynchronized
  subst hsz
  have hD := hD0.self (sz := s.heap.size)
  generalize hAe : va_A [(q, .inr (3, [.ref a, .int (zi_n n)])), (a, .inl (cA, 600, .inl (zi_F F)))] s.heap.size = A at hD ⊢
  have hA : ∀ q : Nat, s.heap.size ≤ q → A q := fun q h => by rw [← hAe]; exact Or.inr h
  have hS : va_S A s.heap s.heap [] := va_S.rf
  have hP : va_P D vwCl [(q, .inr (3, [.ref a, .int (zi_n n)])), (a, .inl (cA, 600, .inl (zi_F F)))] s.heap := hP
  have hl := lv_entry ([.ref q]) (n := 1) (Nat.le_of_ble_eq_true rfl)
  rw [lg_entry_eq]
  generalize (lg_sl ([.ref q]) ++ List.replicate (1 - (lg_sl ([.ref q])).length) Slot.unset).toArray = ls at hl ⊢
  have hl : lv_has ls 1 [(0, .ref q)] := hl
  refine lv_aload_n hx hb dX2_empty_0 rfl (lv_at hl 0 rfl) ?_
  refine zr_iconst hx hb dX2_empty_1 ?_
  refine va_put (D := D) (ci := 3) (v := .int (zi_n 0)) (ty := .int) (C := RX2) (T := TX2) (N := 2) hx hb hts in_X2_empty_X2 tyX2 tyX2_ok nmX2 hown hK hP hD hS 0 rfl rfl 1 (by decide) (hts (.fieldLink RX2 15 "ZHeads$Row" "count" "I") (by decide +kernel)) (fun _ h9 => h9) rfl (by decide +kernel) rfl rfl (Nat.le_of_ble_eq_true rfl) dX2_empty_2 (fun H locs hP hD hS => ?_)
  have hP : va_P D vwCl [(q, .inr (3, [.ref a, .int (zi_n 0)])), (a, .inl (cA, 600, .inl (zi_F F)))] H := hP
  have hD : va_D A [(q, .inr (3, [.ref a, .int (zi_n 0)])), (a, .inl (cA, 600, .inl (zi_F F)))] := hD
  have hP9 : va_P D vwCl [(q, .inr (3, [.ref a, .int (zi_n 0)])), (a, .inl (cA, 600, .inl (zi_F F)))] H := hP
  have hD9 : va_D A [(q, .inr (3, [.ref a, .int (zi_n 0)])), (a, .inl (cA, 600, .inl (zi_F F)))] := hD
  exact W.vret hx hb hr (fun t ht hW => ⟨⟨(), rfl, trivial, by rw [ht]; exact hP9, va_K.moved hW.alike hK, hD9⟩, hS.F ht⟩) hS.2.2 dX2_empty_5

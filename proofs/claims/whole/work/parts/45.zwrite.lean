set_option maxHeartbeats 4000000 in
set_option maxRecDepth 100000 in
theorem c_Z_octet (l : Launch) (D : va_G) (x q q2 hh a a2 : Nat) (cA cB : ClassId) (F G : Nat → Int) (n k rd br : Int) (hF : zi_By F) (hn : 0 ≤ n ∧ n ≤ 600) (hG : zi_By G) (hk : 0 ≤ k ∧ k ≤ 600) (hrd : rd = 0 ∨ rd = 1) (hbr : 0 ≤ br ∧ br ≤ 15) (sz : Nat) (p0 : Int) (rp0 : zi_R p0) : Met l yX3_octet wsX3_octet ({ frames := 2, cells := 0, slots := 0, locals := 44 }) (va_Pc [.ref x, .int (zi_n p0)] (zp_P D vwCl sz [(x, .inr (4, [.ref q, .ref q2, .ref hh, .int (zi_n rd), .int (zi_n br)])), (q, .inr (3, [.ref a, .int (zi_n n)])), (q2, .inr (3, [.ref a2, .int (zi_n k)])), (hh, .inr (2, [.ref q])), (a, .inl (cA, 600, .inl (zi_F F))), (a2, .inl (cB, 600, .inl (zi_F G)))] [(cA, .int), (cB, .int)])) (va_Qi (fun (r : Int32) (_ : Unit) => r = zi_n (zh_fiE n 1 p0) ∧ -14 ≤ (zh_fiE n 1 p0) ∧ (zh_fiE n 1 p0) ≤ 600) (fun (_ : Unit) => zp_B D vwCl [(cA, .int), (cB, .int)] (va_A [(x, .inr (4, [.ref q, .ref q2, .ref hh, .int (zi_n rd), .int (zi_n br)])), (q, .inr (3, [.ref a, .int (zi_n n)])), (q2, .inr (3, [.ref a2, .int (zi_n k)])), (hh, .inr (2, [.ref q])), (a, .inl (cA, 600, .inl (zi_F F))), (a2, .inl (cB, 600, .inl (zi_F G)))] sz) [(x, .inr (4, [.ref q, .ref q2, .ref hh, .int (zi_n (zh_fiR n rd 1 p0)), .int (zi_n br)])), (q, .inr (3, [.ref a, .int (zi_n (zh_fiN n 1 p0))])), (q2, .inr (3, [.ref a2, .int (zi_n k)])), (hh, .inr (2, [.ref q])), (a, .inl (cA, 600, .inl (zi_F (zh_fiF F n 1 p0)))), (a2, .inl (cB, 600, .inl (zi_F G)))]) (va_A [(x, .inr (4, [.ref q, .ref q2, .ref hh, .int (zi_n rd), .int (zi_n br)])), (q, .inr (3, [.ref a, .int (zi_n n)])), (q2, .inr (3, [.ref a2, .int (zi_n k)])), (hh, .inr (2, [.ref q])), (a, .inl (cA, 600, .inl (zi_F F))), (a2, .inl (cB, 600, .inl (zi_F G)))] sz)) 0 0 (va_A [(x, .inr (4, [.ref q, .ref q2, .ref hh, .int (zi_n rd), .int (zi_n br)])), (q, .inr (3, [.ref a, .int (zi_n n)])), (q2, .inr (3, [.ref a2, .int (zi_n k)])), (hh, .inr (2, [.ref q])), (a, .inl (cA, 600, .inl (zi_F F))), (a2, .inl (cB, 600, .inl (zi_F G)))] sz) := by
  refine Met.ofW (cc := cX3_octet) (maxL := 2) (ret := (some .int)) (by decide) rfl ?_
  intro p e s m args below meth c s₁ B hml hv
  obtain ⟨rfl, hsz, hP, hK, hD0⟩ := hv
  have hx := B.exec
  have hb := B.bytes
  have hr := B.returns
  have hts := atoms_spec (ws := wsX3_octet) B.pre
  have hown : s.vm.findClass RX3 = some m.cls := findClass_of_methodNamed B.named
  have hlocks := B.notSynchronized
  subst hsz
  have hD := hD0.self (sz := s.heap.size)
  generalize hAe : va_A [(x, .inr (4, [.ref q, .ref q2, .ref hh, .int (zi_n rd), .int (zi_n br)])), (q, .inr (3, [.ref a, .int (zi_n n)])), (q2, .inr (3, [.ref a2, .int (zi_n k)])), (hh, .inr (2, [.ref q])), (a, .inl (cA, 600, .inl (zi_F F))), (a2, .inl (cB, 600, .inl (zi_F G)))] s.heap.size = A at hD ⊢
  have hA : ∀ q : Nat, s.heap.size ≤ q → A q := fun q h => by rw [← hAe]; exact Or.inr h
  have hS : va_S A s.heap s.heap [] := va_S.rf
  have hP : va_P D vwCl [(x, .inr (4, [.ref q, .ref q2, .ref hh, .int (zi_n rd), .int (zi_n br)])), (q, .inr (3, [.ref a, .int (zi_n n)])), (q2, .inr (3, [.ref a2, .int (zi_n k)])), (hh, .inr (2, [.ref q])), (a, .inl (cA, 600, .inl (zi_F F))), (a2, .inl (cB, 600, .inl (zi_F G)))] s.heap := hP
  have hl := lv_entry ([.ref x, .int (zi_n p0)]) (n := 2) (Nat.le_of_ble_eq_true rfl)
  rw [lg_entry_eq]
  generalize (lg_sl ([.ref x, .int (zi_n p0)]) ++ List.replicate (2 - (lg_sl ([.ref x, .int (zi_n p0)])).length) Slot.unset).toArray = ls at hl ⊢
  have hl : lv_has ls 2 [(0, .ref x), (1, .int (zi_n p0))] := hl
  refine lv_iload_n hx hb dX3_octet_0 rfl (lv_at hl 1 rfl) ?_
  refine zc_S (As := [.int (zi_n p0)]) (rest := []) ⟨hx, hb, hml, hown, hts⟩ (c_Z_isByte l p0 (by omega)) (va_cwS 1 hts gX3_octet_X3_isByte rfl rfl rfl (by decide +kernel) ⟨(Nat.le_of_ble_eq_true rfl), (Nat.le_of_ble_eq_true rfl)⟩) rfl hl.1 rfl (Nat.le_of_ble_eq_true rfl) dX3_octet_1 ⟨Nat.zero_le _, Nat.zero_le _⟩ (fun r hr1 => ?_)
  rcases hr1 with ⟨rfl, c_1⟩ | ⟨rfl, c_1⟩
  · refine zr_if_eq (tgt := 16) hx hb dX3_octet_4 (by decide) (by omega) (fun c => absurd c (by decide)) (fun c_2 => ?_)
    refine lv_aload_n hx hb dX3_octet_7 rfl (lv_at hl 0 rfl) ?_
    refine zr_iconst hx hb dX3_octet_8 ?_
    refine lv_iload_n hx hb dX3_octet_9 rfl (lv_at hl 1 rfl) ?_
    refine zc_Vi (As := [.int (zi_n 1), .int (zi_n p0)]) (rest := []) (wr := []) (wf := fun (_ : Unit) => [(x, .inr (4, [.ref q, .ref q2, .ref hh, .int (zi_n (zh_apR n rd 1)), .int (zi_n br)])), (q, .inr (3, [.ref a, .int (zi_n (zh_apN n 1))])), (q2, .inr (3, [.ref a2, .int (zi_n k)])), (hh, .inr (2, [.ref q])), (a, .inl (cA, 600, .inl (zi_F (zh_apF F n 1 p0)))), (a2, .inl (cB, 600, .inl (zi_F G)))]) ⟨hx, hb, hml, hown, hts⟩ (c_Z_append l D x q q2 hh a a2 cA cB F G n k rd br hF (by omega) hG (by omega) (by omega) (by omega) _ 1 p0 (by omega) (by omega)) (cwV 2 hts gX3_octet_X3_append rfl rfl rfl (by decide +kernel) ⟨(Nat.le_of_ble_eq_true rfl), (Nat.le_of_ble_eq_true rfl)⟩) hP hD hK hS hA [0, 1, 2, 3, 4, 5] [] [0, 1] [0, 1, 2, 3, 4, 5] rfl rfl (by decide) rfl (by decide) (by decide) rfl (fun _ => rfl) (fun _ => rfl) (by decide) (ci := 4) rfl rfl rfl rfl hl.1 rfl (Nat.le_of_ble_eq_true rfl) dX3_octet_10 ⟨Nat.zero_le _, Nat.zero_le _⟩ (fun r _ hr1 H locs hP hD hS => ?_)
    have hF_3 : zi_By (zh_apF F n 1 p0) := zh_apF_By hF _ _ (by omega)
    have hP : va_P D vwCl [(x, .inr (4, [.ref q, .ref q2, .ref hh, .int (zi_n (zh_apR n rd 1)), .int (zi_n br)])), (q, .inr (3, [.ref a, .int (zi_n (zh_apN n 1))])), (q2, .inr (3, [.ref a2, .int (zi_n k)])), (hh, .inr (2, [.ref q])), (a, .inl (cA, 600, .inl (zi_F (zh_apF F n 1 p0)))), (a2, .inl (cB, 600, .inl (zi_F G)))] H := hP
    have hD : va_D A [(x, .inr (4, [.ref q, .ref q2, .ref hh, .int (zi_n (zh_apR n rd 1)), .int (zi_n br)])), (q, .inr (3, [.ref a, .int (zi_n (zh_apN n 1))])), (q2, .inr (3, [.ref a2, .int (zi_n k)])), (hh, .inr (2, [.ref q])), (a, .inl (cA, 600, .inl (zi_F (zh_apF F n 1 p0)))), (a2, .inl (cB, 600, .inl (zi_F G)))] := hD
    obtain ⟨rfl, b_4⟩ := hr1
    refine lv_goto (tgt := 18) hx hb dX3_octet_13 (by decide) ?_
    have e_n_5_0 : zh_fiR n rd 1 p0 = zh_apR n rd 1 := by unfold zh_fiR; first | rw [if_pos (by omega)] | rw [if_neg (by omega)]
    have e_n_5_1 : zh_fiN n 1 p0 = zh_apN n 1 := by unfold zh_fiN; first | rw [if_pos (by omega)] | rw [if_neg (by omega)]
    have e_n_5_2 : zh_fiF F n 1 p0 = zh_apF F n 1 p0 := by unfold zh_fiF; first | rw [if_pos (by omega)] | rw [if_neg (by omega)]
    have hP9 : va_P D vwCl [(x, .inr (4, [.ref q, .ref q2, .ref hh, .int (zi_n (zh_fiR n rd 1 p0)), .int (zi_n br)])), (q, .inr (3, [.ref a, .int (zi_n (zh_fiN n 1 p0))])), (q2, .inr (3, [.ref a2, .int (zi_n k)])), (hh, .inr (2, [.ref q])), (a, .inl (cA, 600, .inl (zi_F (zh_fiF F n 1 p0)))), (a2, .inl (cB, 600, .inl (zi_F G)))] H := by rw [e_n_5_0, e_n_5_1, e_n_5_2]; exact hP
    have hD9 : va_D A [(x, .inr (4, [.ref q, .ref q2, .ref hh, .int (zi_n (zh_fiR n rd 1 p0)), .int (zi_n br)])), (q, .inr (3, [.ref a, .int (zi_n (zh_fiN n 1 p0))])), (q2, .inr (3, [.ref a2, .int (zi_n k)])), (hh, .inr (2, [.ref q])), (a, .inl (cA, 600, .inl (zi_F (zh_fiF F n 1 p0)))), (a2, .inl (cB, 600, .inl (zi_F G)))] := by rw [e_n_5_0, e_n_5_1, e_n_5_2]; exact hD
    exact W.iret (v := zi_n (zh_apE n 1)) hx hb hr (fun t ht hW => ⟨⟨zi_n (zh_apE n 1), (), rfl, zl_r (by unfold zh_fiE; (repeat' split) <;> omega) (by omega), by rw [ht]; exact hP9, va_K.moved hW.alike hK, hD9⟩, hS.F ht⟩) hS.2.2 dX3_octet_18
  · refine zr_if_eq (tgt := 16) hx hb dX3_octet_4 (by decide) (by omega) (fun c_6 => ?_) (fun c => absurd c (by decide))
    refine zr_bipush hx hb dX3_octet_16 (by decide) ?_
    have e_n_7_0 : zh_fiR n rd 1 p0 = rd := by unfold zh_fiR; first | rw [if_pos (by omega)] | rw [if_neg (by omega)]
    have e_n_7_1 : zh_fiN n 1 p0 = n := by unfold zh_fiN; first | rw [if_pos (by omega)] | rw [if_neg (by omega)]
    have e_n_7_2 : zh_fiF F n 1 p0 = F := by unfold zh_fiF; first | rw [if_pos (by omega)] | rw [if_neg (by omega)]
    have hP9 : va_P D vwCl [(x, .inr (4, [.ref q, .ref q2, .ref hh, .int (zi_n (zh_fiR n rd 1 p0)), .int (zi_n br)])), (q, .inr (3, [.ref a, .int (zi_n (zh_fiN n 1 p0))])), (q2, .inr (3, [.ref a2, .int (zi_n k)])), (hh, .inr (2, [.ref q])), (a, .inl (cA, 600, .inl (zi_F (zh_fiF F n 1 p0)))), (a2, .inl (cB, 600, .inl (zi_F G)))] s.heap := by rw [e_n_7_0, e_n_7_1, e_n_7_2]; exact hP
    have hD9 : va_D A [(x, .inr (4, [.ref q, .ref q2, .ref hh, .int (zi_n (zh_fiR n rd 1 p0)), .int (zi_n br)])), (q, .inr (3, [.ref a, .int (zi_n (zh_fiN n 1 p0))])), (q2, .inr (3, [.ref a2, .int (zi_n k)])), (hh, .inr (2, [.ref q])), (a, .inl (cA, 600, .inl (zi_F (zh_fiF F n 1 p0)))), (a2, .inl (cB, 600, .inl (zi_F G)))] := by rw [e_n_7_0, e_n_7_1, e_n_7_2]; exact hD
    exact W.iret (v := zi_n (-12)) hx hb hr (fun t ht hW => ⟨⟨zi_n (-12), (), rfl, zl_r (by unfold zh_fiE; (repeat' split) <;> omega) (by omega), by rw [ht]; exact hP9, va_K.moved hW.alike hK, hD9⟩, hS.F ht⟩) hS.2.2 dX3_octet_18

set_option maxHeartbeats 4000000 in
set_option maxRecDepth 100000 in
theorem c_Z_fill (l : Launch) (D : va_G) (x q q2 hh a a2 : Nat) (cA cB : ClassId) (F G : Nat → Int) (n k rd br : Int) (hF : zi_By F) (hn : 0 ≤ n ∧ n ≤ 600) (hG : zi_By G) (hk : 0 ≤ k ∧ k ≤ 600) (hrd : rd = 0 ∨ rd = 1) (hbr : 0 ≤ br ∧ br ≤ 15) (sz : Nat) (p0 : Int) (p1 : Int) (rp0 : zi_R p0) (rp1 : zi_R p1) : Met l yX3_fill wsX3_fill ({ frames := 2, cells := 0, slots := 0, locals := 44 }) (va_Pc [.ref x, .int (zi_n p0), .int (zi_n p1)] (zp_P D vwCl sz [(x, .inr (4, [.ref q, .ref q2, .ref hh, .int (zi_n rd), .int (zi_n br)])), (q, .inr (3, [.ref a, .int (zi_n n)])), (q2, .inr (3, [.ref a2, .int (zi_n k)])), (hh, .inr (2, [.ref q])), (a, .inl (cA, 600, .inl (zi_F F))), (a2, .inl (cB, 600, .inl (zi_F G)))] [(cA, .int), (cB, .int)])) (va_Qi (fun (r : Int32) (_ : Unit) => r = zi_n (zh_fiE n p0 p1) ∧ -14 ≤ (zh_fiE n p0 p1) ∧ (zh_fiE n p0 p1) ≤ 600) (fun (_ : Unit) => zp_B D vwCl [(cA, .int), (cB, .int)] (va_A [(x, .inr (4, [.ref q, .ref q2, .ref hh, .int (zi_n rd), .int (zi_n br)])), (q, .inr (3, [.ref a, .int (zi_n n)])), (q2, .inr (3, [.ref a2, .int (zi_n k)])), (hh, .inr (2, [.ref q])), (a, .inl (cA, 600, .inl (zi_F F))), (a2, .inl (cB, 600, .inl (zi_F G)))] sz) [(x, .inr (4, [.ref q, .ref q2, .ref hh, .int (zi_n (zh_fiR n rd p0 p1)), .int (zi_n br)])), (q, .inr (3, [.ref a, .int (zi_n (zh_fiN n p0 p1))])), (q2, .inr (3, [.ref a2, .int (zi_n k)])), (hh, .inr (2, [.ref q])), (a, .inl (cA, 600, .inl (zi_F (zh_fiF F n p0 p1)))), (a2, .inl (cB, 600, .inl (zi_F G)))]) (va_A [(x, .inr (4, [.ref q, .ref q2, .ref hh, .int (zi_n rd), .int (zi_n br)])), (q, .inr (3, [.ref a, .int (zi_n n)])), (q2, .inr (3, [.ref a2, .int (zi_n k)])), (hh, .inr (2, [.ref q])), (a, .inl (cA, 600, .inl (zi_F F))), (a2, .inl (cB, 600, .inl (zi_F G)))] sz)) 0 0 (va_A [(x, .inr (4, [.ref q, .ref q2, .ref hh, .int (zi_n rd), .int (zi_n br)])), (q, .inr (3, [.ref a, .int (zi_n n)])), (q2, .inr (3, [.ref a2, .int (zi_n k)])), (hh, .inr (2, [.ref q])), (a, .inl (cA, 600, .inl (zi_F F))), (a2, .inl (cB, 600, .inl (zi_F G)))] sz) := by
  refine Met.ofW (cc := cX3_fill) (maxL := 3) (ret := (some .int)) (by decide) rfl ?_
  intro p e s m args below meth c s₁ B hml hv
  obtain ⟨rfl, hsz, hP, hK, hD0⟩ := hv
  have hx := B.exec
  have hb := B.bytes
  have hr := B.returns
  have hts := atoms_spec (ws := wsX3_fill) B.pre
  have hown : s.vm.findClass RX3 = some m.cls := findClass_of_methodNamed B.named
  have hlocks := B.notSynchronized
  subst hsz
  have hD := hD0.self (sz := s.heap.size)
  generalize hAe : va_A [(x, .inr (4, [.ref q, .ref q2, .ref hh, .int (zi_n rd), .int (zi_n br)])), (q, .inr (3, [.ref a, .int (zi_n n)])), (q2, .inr (3, [.ref a2, .int (zi_n k)])), (hh, .inr (2, [.ref q])), (a, .inl (cA, 600, .inl (zi_F F))), (a2, .inl (cB, 600, .inl (zi_F G)))] s.heap.size = A at hD ⊢
  have hA : ∀ q : Nat, s.heap.size ≤ q → A q := fun q h => by rw [← hAe]; exact Or.inr h
  have hS : va_S A s.heap s.heap [] := va_S.rf
  have hP : va_P D vwCl [(x, .inr (4, [.ref q, .ref q2, .ref hh, .int (zi_n rd), .int (zi_n br)])), (q, .inr (3, [.ref a, .int (zi_n n)])), (q2, .inr (3, [.ref a2, .int (zi_n k)])), (hh, .inr (2, [.ref q])), (a, .inl (cA, 600, .inl (zi_F F))), (a2, .inl (cB, 600, .inl (zi_F G)))] s.heap := hP
  have hl := lv_entry ([.ref x, .int (zi_n p0), .int (zi_n p1)]) (n := 3) (Nat.le_of_ble_eq_true rfl)
  rw [lg_entry_eq]
  generalize (lg_sl ([.ref x, .int (zi_n p0), .int (zi_n p1)]) ++ List.replicate (3 - (lg_sl ([.ref x, .int (zi_n p0), .int (zi_n p1)])).length) Slot.unset).toArray = ls at hl ⊢
  have hl : lv_has ls 3 [(0, .ref x), (1, .int (zi_n p0)), (2, .int (zi_n p1))] := hl
  refine lv_iload_n hx hb dX3_fill_0 rfl (lv_at hl 1 rfl) ?_
  refine zr_iconst hx hb dX3_fill_1 ?_
  refine zr_icmp_lt (tgt := 28) hx hb dX3_fill_2 (by decide) (by omega) (by omega) (fun c_1 => ?_) (fun c_1 => ?_)
  · refine zr_bipush hx hb dX3_fill_28 (by decide) ?_
    have e_n_2_0 : zh_fiR n rd p0 p1 = rd := by unfold zh_fiR; first | rw [if_pos (by omega)] | rw [if_neg (by omega)]
    have e_n_2_1 : zh_fiN n p0 p1 = n := by unfold zh_fiN; first | rw [if_pos (by omega)] | rw [if_neg (by omega)]
    have e_n_2_2 : zh_fiF F n p0 p1 = F := by unfold zh_fiF; first | rw [if_pos (by omega)] | rw [if_neg (by omega)]
    have hP9 : va_P D vwCl [(x, .inr (4, [.ref q, .ref q2, .ref hh, .int (zi_n (zh_fiR n rd p0 p1)), .int (zi_n br)])), (q, .inr (3, [.ref a, .int (zi_n (zh_fiN n p0 p1))])), (q2, .inr (3, [.ref a2, .int (zi_n k)])), (hh, .inr (2, [.ref q])), (a, .inl (cA, 600, .inl (zi_F (zh_fiF F n p0 p1)))), (a2, .inl (cB, 600, .inl (zi_F G)))] s.heap := by rw [e_n_2_0, e_n_2_1, e_n_2_2]; exact hP
    have hD9 : va_D A [(x, .inr (4, [.ref q, .ref q2, .ref hh, .int (zi_n (zh_fiR n rd p0 p1)), .int (zi_n br)])), (q, .inr (3, [.ref a, .int (zi_n (zh_fiN n p0 p1))])), (q2, .inr (3, [.ref a2, .int (zi_n k)])), (hh, .inr (2, [.ref q])), (a, .inl (cA, 600, .inl (zi_F (zh_fiF F n p0 p1)))), (a2, .inl (cB, 600, .inl (zi_F G)))] := by rw [e_n_2_0, e_n_2_1, e_n_2_2]; exact hD
    exact W.iret (v := zi_n (-12)) hx hb hr (fun t ht hW => ⟨⟨zi_n (-12), (), rfl, zl_r (by unfold zh_fiE; (repeat' split) <;> omega) (by omega), by rw [ht]; exact hP9, va_K.moved hW.alike hK, hD9⟩, hS.F ht⟩) hS.2.2 dX3_fill_30
  · refine lv_iload_n hx hb dX3_fill_5 rfl (lv_at hl 1 rfl) ?_
    refine zr_sipush hx hb dX3_fill_6 (by decide) ?_
    refine zr_icmp_gt (tgt := 28) hx hb dX3_fill_9 (by decide) (by omega) (by omega) (fun c_3 => ?_) (fun c_3 => ?_)
    · refine zr_bipush hx hb dX3_fill_28 (by decide) ?_
      have e_n_4_0 : zh_fiR n rd p0 p1 = rd := by unfold zh_fiR; first | rw [if_pos (by omega)] | rw [if_neg (by omega)]
      have e_n_4_1 : zh_fiN n p0 p1 = n := by unfold zh_fiN; first | rw [if_pos (by omega)] | rw [if_neg (by omega)]
      have e_n_4_2 : zh_fiF F n p0 p1 = F := by unfold zh_fiF; first | rw [if_pos (by omega)] | rw [if_neg (by omega)]
      have hP9 : va_P D vwCl [(x, .inr (4, [.ref q, .ref q2, .ref hh, .int (zi_n (zh_fiR n rd p0 p1)), .int (zi_n br)])), (q, .inr (3, [.ref a, .int (zi_n (zh_fiN n p0 p1))])), (q2, .inr (3, [.ref a2, .int (zi_n k)])), (hh, .inr (2, [.ref q])), (a, .inl (cA, 600, .inl (zi_F (zh_fiF F n p0 p1)))), (a2, .inl (cB, 600, .inl (zi_F G)))] s.heap := by rw [e_n_4_0, e_n_4_1, e_n_4_2]; exact hP
      have hD9 : va_D A [(x, .inr (4, [.ref q, .ref q2, .ref hh, .int (zi_n (zh_fiR n rd p0 p1)), .int (zi_n br)])), (q, .inr (3, [.ref a, .int (zi_n (zh_fiN n p0 p1))])), (q2, .inr (3, [.ref a2, .int (zi_n k)])), (hh, .inr (2, [.ref q])), (a, .inl (cA, 600, .inl (zi_F (zh_fiF F n p0 p1)))), (a2, .inl (cB, 600, .inl (zi_F G)))] := by rw [e_n_4_0, e_n_4_1, e_n_4_2]; exact hD
      exact W.iret (v := zi_n (-12)) hx hb hr (fun t ht hW => ⟨⟨zi_n (-12), (), rfl, zl_r (by unfold zh_fiE; (repeat' split) <;> omega) (by omega), by rw [ht]; exact hP9, va_K.moved hW.alike hK, hD9⟩, hS.F ht⟩) hS.2.2 dX3_fill_30
    · refine lv_iload_n hx hb dX3_fill_12 rfl (lv_at hl 2 rfl) ?_
      refine zc_S (As := [.int (zi_n p1)]) (rest := []) ⟨hx, hb, hml, hown, hts⟩ (c_Z_isByte l p1 (by omega)) (va_cwS 1 hts gX3_fill_X3_isByte rfl rfl rfl (by decide +kernel) ⟨(Nat.le_of_ble_eq_true rfl), (Nat.le_of_ble_eq_true rfl)⟩) rfl hl.1 rfl (Nat.le_of_ble_eq_true rfl) dX3_fill_13 ⟨Nat.zero_le _, Nat.zero_le _⟩ (fun r hr1 => ?_)
      rcases hr1 with ⟨rfl, c_5⟩ | ⟨rfl, c_5⟩
      · refine zr_if_eq (tgt := 28) hx hb dX3_fill_16 (by decide) (by omega) (fun c => absurd c (by decide)) (fun c_6 => ?_)
        refine lv_aload_n hx hb dX3_fill_19 rfl (lv_at hl 0 rfl) ?_
        refine lv_iload_n hx hb dX3_fill_20 rfl (lv_at hl 1 rfl) ?_
        refine lv_iload_n hx hb dX3_fill_21 rfl (lv_at hl 2 rfl) ?_
        refine zc_Vi (As := [.int (zi_n p0), .int (zi_n p1)]) (rest := []) (wr := []) (wf := fun (_ : Unit) => [(x, .inr (4, [.ref q, .ref q2, .ref hh, .int (zi_n (zh_apR n rd p0)), .int (zi_n br)])), (q, .inr (3, [.ref a, .int (zi_n (zh_apN n p0))])), (q2, .inr (3, [.ref a2, .int (zi_n k)])), (hh, .inr (2, [.ref q])), (a, .inl (cA, 600, .inl (zi_F (zh_apF F n p0 p1)))), (a2, .inl (cB, 600, .inl (zi_F G)))]) ⟨hx, hb, hml, hown, hts⟩ (c_Z_append l D x q q2 hh a a2 cA cB F G n k rd br hF (by omega) hG (by omega) (by omega) (by omega) _ p0 p1 (by omega) (by omega)) (cwV 2 hts gX3_fill_X3_append rfl rfl rfl (by decide +kernel) ⟨(Nat.le_of_ble_eq_true rfl), (Nat.le_of_ble_eq_true rfl)⟩) hP hD hK hS hA [0, 1, 2, 3, 4, 5] [] [0, 1] [0, 1, 2, 3, 4, 5] rfl rfl (by decide) rfl (by decide) (by decide) rfl (fun _ => rfl) (fun _ => rfl) (by decide) (ci := 4) rfl rfl rfl rfl hl.1 rfl (Nat.le_of_ble_eq_true rfl) dX3_fill_22 ⟨Nat.zero_le _, Nat.zero_le _⟩ (fun r _ hr1 H locs hP hD hS => ?_)
        have hF_7 : zi_By (zh_apF F n p0 p1) := zh_apF_By hF _ _ (by omega)
        have hP : va_P D vwCl [(x, .inr (4, [.ref q, .ref q2, .ref hh, .int (zi_n (zh_apR n rd p0)), .int (zi_n br)])), (q, .inr (3, [.ref a, .int (zi_n (zh_apN n p0))])), (q2, .inr (3, [.ref a2, .int (zi_n k)])), (hh, .inr (2, [.ref q])), (a, .inl (cA, 600, .inl (zi_F (zh_apF F n p0 p1)))), (a2, .inl (cB, 600, .inl (zi_F G)))] H := hP
        have hD : va_D A [(x, .inr (4, [.ref q, .ref q2, .ref hh, .int (zi_n (zh_apR n rd p0)), .int (zi_n br)])), (q, .inr (3, [.ref a, .int (zi_n (zh_apN n p0))])), (q2, .inr (3, [.ref a2, .int (zi_n k)])), (hh, .inr (2, [.ref q])), (a, .inl (cA, 600, .inl (zi_F (zh_apF F n p0 p1)))), (a2, .inl (cB, 600, .inl (zi_F G)))] := hD
        obtain ⟨rfl, b_8⟩ := hr1
        refine lv_goto (tgt := 30) hx hb dX3_fill_25 (by decide) ?_
        have e_n_9_0 : zh_fiR n rd p0 p1 = zh_apR n rd p0 := by unfold zh_fiR; first | rw [if_pos (by omega)] | rw [if_neg (by omega)]
        have e_n_9_1 : zh_fiN n p0 p1 = zh_apN n p0 := by unfold zh_fiN; first | rw [if_pos (by omega)] | rw [if_neg (by omega)]
        have e_n_9_2 : zh_fiF F n p0 p1 = zh_apF F n p0 p1 := by unfold zh_fiF; first | rw [if_pos (by omega)] | rw [if_neg (by omega)]
        have hP9 : va_P D vwCl [(x, .inr (4, [.ref q, .ref q2, .ref hh, .int (zi_n (zh_fiR n rd p0 p1)), .int (zi_n br)])), (q, .inr (3, [.ref a, .int (zi_n (zh_fiN n p0 p1))])), (q2, .inr (3, [.ref a2, .int (zi_n k)])), (hh, .inr (2, [.ref q])), (a, .inl (cA, 600, .inl (zi_F (zh_fiF F n p0 p1)))), (a2, .inl (cB, 600, .inl (zi_F G)))] H := by rw [e_n_9_0, e_n_9_1, e_n_9_2]; exact hP
        have hD9 : va_D A [(x, .inr (4, [.ref q, .ref q2, .ref hh, .int (zi_n (zh_fiR n rd p0 p1)), .int (zi_n br)])), (q, .inr (3, [.ref a, .int (zi_n (zh_fiN n p0 p1))])), (q2, .inr (3, [.ref a2, .int (zi_n k)])), (hh, .inr (2, [.ref q])), (a, .inl (cA, 600, .inl (zi_F (zh_fiF F n p0 p1)))), (a2, .inl (cB, 600, .inl (zi_F G)))] := by rw [e_n_9_0, e_n_9_1, e_n_9_2]; exact hD
        exact W.iret (v := zi_n (zh_apE n p0)) hx hb hr (fun t ht hW => ⟨⟨zi_n (zh_apE n p0), (), rfl, zl_r (by unfold zh_fiE; (repeat' split) <;> omega) (by omega), by rw [ht]; exact hP9, va_K.moved hW.alike hK, hD9⟩, hS.F ht⟩) hS.2.2 dX3_fill_30
      · refine zr_if_eq (tgt := 28) hx hb dX3_fill_16 (by decide) (by omega) (fun c_10 => ?_) (fun c => absurd c (by decide))
        refine zr_bipush hx hb dX3_fill_28 (by decide) ?_
        have e_n_11_0 : zh_fiR n rd p0 p1 = rd := by unfold zh_fiR; first | rw [if_pos (by omega)] | rw [if_neg (by omega)]
        have e_n_11_1 : zh_fiN n p0 p1 = n := by unfold zh_fiN; first | rw [if_pos (by omega)] | rw [if_neg (by omega)]
        have e_n_11_2 : zh_fiF F n p0 p1 = F := by unfold zh_fiF; first | rw [if_pos (by omega)] | rw [if_neg (by omega)]
        have hP9 : va_P D vwCl [(x, .inr (4, [.ref q, .ref q2, .ref hh, .int (zi_n (zh_fiR n rd p0 p1)), .int (zi_n br)])), (q, .inr (3, [.ref a, .int (zi_n (zh_fiN n p0 p1))])), (q2, .inr (3, [.ref a2, .int (zi_n k)])), (hh, .inr (2, [.ref q])), (a, .inl (cA, 600, .inl (zi_F (zh_fiF F n p0 p1)))), (a2, .inl (cB, 600, .inl (zi_F G)))] s.heap := by rw [e_n_11_0, e_n_11_1, e_n_11_2]; exact hP
        have hD9 : va_D A [(x, .inr (4, [.ref q, .ref q2, .ref hh, .int (zi_n (zh_fiR n rd p0 p1)), .int (zi_n br)])), (q, .inr (3, [.ref a, .int (zi_n (zh_fiN n p0 p1))])), (q2, .inr (3, [.ref a2, .int (zi_n k)])), (hh, .inr (2, [.ref q])), (a, .inl (cA, 600, .inl (zi_F (zh_fiF F n p0 p1)))), (a2, .inl (cB, 600, .inl (zi_F G)))] := by rw [e_n_11_0, e_n_11_1, e_n_11_2]; exact hD
        exact W.iret (v := zi_n (-12)) hx hb hr (fun t ht hW => ⟨⟨zi_n (-12), (), rfl, zl_r (by unfold zh_fiE; (repeat' split) <;> omega) (by omega), by rw [ht]; exact hP9, va_K.moved hW.alike hK, hD9⟩, hS.F ht⟩) hS.2.2 dX3_fill_30

theorem in_X3_feed_X3 : ∀ w ∈ u_ws RX3 TX3 5, w ∈ wsX3_feed := by decide +kernel
set_option maxHeartbeats 4000000 in
set_option maxRecDepth 100000 in
theorem c_Z_feed (l : Launch) (D : va_G) (x q q2 hh a a2 : Nat) (cA cB : ClassId) (F G : Nat → Int) (n k rd br : Int) (hF : zi_By F) (hn : 0 ≤ n ∧ n ≤ 600) (hG : zi_By G) (hk : 0 ≤ k ∧ k ≤ 600) (hrd : rd = 0 ∨ rd = 1) (hbr : 0 ≤ br ∧ br ≤ 15) (sz : Nat) (w : Int64) (p0 : Int) (rp0 : zi_R p0) : Met l yX3_feed wsX3_feed ({ frames := 1, cells := 0, slots := 0, locals := 21 }) (va_Pc [.ref x, .long w, .int (zi_n p0)] (zp_P D vwCl sz [(x, .inr (4, [.ref q, .ref q2, .ref hh, .int (zi_n rd), .int (zi_n br)])), (q, .inr (3, [.ref a, .int (zi_n n)])), (q2, .inr (3, [.ref a2, .int (zi_n k)])), (hh, .inr (2, [.ref q])), (a, .inl (cA, 600, .inl (zi_F F))), (a2, .inl (cB, 600, .inl (zi_F G)))] [(cA, .int), (cB, .int)])) (va_Qi (fun (r : Int32) (_ : Unit) => r = zi_n (zh_feE n p0) ∧ -14 ≤ (zh_feE n p0) ∧ (zh_feE n p0) ≤ 600) (fun (_ : Unit) => zp_B D vwCl [(cA, .int), (cB, .int)] (va_A [(x, .inr (4, [.ref q, .ref q2, .ref hh, .int (zi_n rd), .int (zi_n br)])), (q, .inr (3, [.ref a, .int (zi_n n)])), (q2, .inr (3, [.ref a2, .int (zi_n k)])), (hh, .inr (2, [.ref q])), (a, .inl (cA, 600, .inl (zi_F F))), (a2, .inl (cB, 600, .inl (zi_F G)))] sz) [(x, .inr (4, [.ref q, .ref q2, .ref hh, .int (zi_n (zh_feR n rd p0)), .int (zi_n br)])), (q, .inr (3, [.ref a, .int (zi_n (zh_feN n p0))])), (q2, .inr (3, [.ref a2, .int (zi_n k)])), (hh, .inr (2, [.ref q])), (a, .inl (cA, 600, .inl (zi_F (zh_feF F n w p0)))), (a2, .inl (cB, 600, .inl (zi_F G)))]) (va_A [(x, .inr (4, [.ref q, .ref q2, .ref hh, .int (zi_n rd), .int (zi_n br)])), (q, .inr (3, [.ref a, .int (zi_n n)])), (q2, .inr (3, [.ref a2, .int (zi_n k)])), (hh, .inr (2, [.ref q])), (a, .inl (cA, 600, .inl (zi_F F))), (a2, .inl (cB, 600, .inl (zi_F G)))] sz)) 0 0 (va_A [(x, .inr (4, [.ref q, .ref q2, .ref hh, .int (zi_n rd), .int (zi_n br)])), (q, .inr (3, [.ref a, .int (zi_n n)])), (q2, .inr (3, [.ref a2, .int (zi_n k)])), (hh, .inr (2, [.ref q])), (a, .inl (cA, 600, .inl (zi_F F))), (a2, .inl (cB, 600, .inl (zi_F G)))] sz) := by
  refine Met.ofW (cc := cX3_feed) (maxL := 5) (ret := (some .int)) (by decide) rfl ?_
  intro p e s m args below meth c s₁ B hml hv
  obtain ⟨rfl, hsz, hP, hK, hD0⟩ := hv
  have hx := B.exec
  have hb := B.bytes
  have hr := B.returns
  have hts := atoms_spec (ws := wsX3_feed) B.pre
  have hown : s.vm.findClass RX3 = some m.cls := findClass_of_methodNamed B.named
  have hlocks := B.notSynchronized
  subst hsz
  have hD := hD0.self (sz := s.heap.size)
  generalize hAe : va_A [(x, .inr (4, [.ref q, .ref q2, .ref hh, .int (zi_n rd), .int (zi_n br)])), (q, .inr (3, [.ref a, .int (zi_n n)])), (q2, .inr (3, [.ref a2, .int (zi_n k)])), (hh, .inr (2, [.ref q])), (a, .inl (cA, 600, .inl (zi_F F))), (a2, .inl (cB, 600, .inl (zi_F G)))] s.heap.size = A at hD ⊢
  have hA : ∀ q : Nat, s.heap.size ≤ q → A q := fun q h => by rw [← hAe]; exact Or.inr h
  have hS : va_S A s.heap s.heap [] := va_S.rf
  have hP : va_P D vwCl [(x, .inr (4, [.ref q, .ref q2, .ref hh, .int (zi_n rd), .int (zi_n br)])), (q, .inr (3, [.ref a, .int (zi_n n)])), (q2, .inr (3, [.ref a2, .int (zi_n k)])), (hh, .inr (2, [.ref q])), (a, .inl (cA, 600, .inl (zi_F F))), (a2, .inl (cB, 600, .inl (zi_F G)))] s.heap := hP
  have hl := lv_entry ([.ref x, .long w, .int (zi_n p0)]) (n := 5) (Nat.le_of_ble_eq_true rfl)
  rw [lg_entry_eq]
  generalize (lg_sl ([.ref x, .long w, .int (zi_n p0)]) ++ List.replicate (5 - (lg_sl ([.ref x, .long w, .int (zi_n p0)])).length) Slot.unset).toArray = ls at hl ⊢
  have hl : lv_has ls 5 [(0, .ref x), (1, .long w), (3, .int (zi_n p0))] := hl
  refine lv_iload_n hx hb dX3_feed_0 rfl (lv_at hl 2 rfl) ?_
  refine zr_iconst hx hb dX3_feed_1 ?_
  refine zr_icmp_lt (tgt := 11) hx hb dX3_feed_2 (by decide) (by omega) (by omega) (fun c_1 => ?_) (fun c_1 => ?_)
  · refine zr_bipush hx hb dX3_feed_11 (by decide) ?_
    have e_n_2_0 : zh_feR n rd p0 = rd := by unfold zh_feR zh_apR; (repeat' split) <;> omega
    have e_n_2_1 : zh_feN n p0 = n := by unfold zh_feN zh_apN; (repeat' split) <;> omega
    have e_n_2_2 : zh_feF F n w p0 = F := by unfold zh_feF; first | (rw [if_pos (by omega), show p0 - 1 - kk = p0 by omega]; done) | (rw [if_neg (by omega)]; done)
    have hP9 : va_P D vwCl [(x, .inr (4, [.ref q, .ref q2, .ref hh, .int (zi_n (zh_feR n rd p0)), .int (zi_n br)])), (q, .inr (3, [.ref a, .int (zi_n (zh_feN n p0))])), (q2, .inr (3, [.ref a2, .int (zi_n k)])), (hh, .inr (2, [.ref q])), (a, .inl (cA, 600, .inl (zi_F (zh_feF F n w p0)))), (a2, .inl (cB, 600, .inl (zi_F G)))] s.heap := by rw [e_n_2_0, e_n_2_1, e_n_2_2]; exact hP
    have hD9 : va_D A [(x, .inr (4, [.ref q, .ref q2, .ref hh, .int (zi_n (zh_feR n rd p0)), .int (zi_n br)])), (q, .inr (3, [.ref a, .int (zi_n (zh_feN n p0))])), (q2, .inr (3, [.ref a2, .int (zi_n k)])), (hh, .inr (2, [.ref q])), (a, .inl (cA, 600, .inl (zi_F (zh_feF F n w p0)))), (a2, .inl (cB, 600, .inl (zi_F G)))] := by rw [e_n_2_0, e_n_2_1, e_n_2_2]; exact hD
    exact W.iret (v := zi_n (-12)) hx hb hr (fun t ht hW => ⟨⟨zi_n (-12), (), rfl, zl_r (by unfold zh_feE zh_apE; (repeat' split) <;> omega) (by omega), by rw [ht]; exact hP9, va_K.moved hW.alike hK, hD9⟩, hS.F ht⟩) hS.2.2 dX3_feed_13
  · refine lv_iload_n hx hb dX3_feed_5 rfl (lv_at hl 2 rfl) ?_
    refine zr_bipush hx hb dX3_feed_6 (by decide) ?_
    refine zr_icmp_le (tgt := 14) hx hb dX3_feed_8 (by decide) (by omega) (by omega) (fun c_3 => ?_) (fun c_3 => ?_)
    · refine lv_iload_n hx hb dX3_feed_14 rfl (lv_at hl 2 rfl) ?_
      refine lv_aload_n hx hb dX3_feed_15 rfl (lv_at hl 0 rfl) ?_
      refine va_get (D := D) (ci := 4) (v := .ref q) (C := RX3) (T := TX3) (N := 5) hx hb hts in_X3_feed_X3 hown hK hP 0 rfl rfl 0 (by decide) (hts (.fieldLink RX3 10 "ZHeads" "file" "LZHeads$Row;") (by decide +kernel)) (fun _ h9 => h9) rfl dX3_feed_16 ?_
      refine zc_V (As := []) (rest := [.int (zi_n p0)]) ⟨hx, hb, hml, hown, hts⟩ (c_Row_room l D q a cA F n hF (by omega)) (cwV 0 hts gX3_feed_X2_room rfl rfl rfl (by decide +kernel) ⟨(Nat.le_of_ble_eq_true rfl), (Nat.le_of_ble_eq_true rfl)⟩) hP hK [1, 4] [0] rfl rfl (ci := 3) rfl rfl rfl rfl hl.1 rfl (Nat.le_of_ble_eq_true rfl) dX3_feed_19 ⟨Nat.zero_le _, Nat.zero_le _⟩ (fun r hr1 => ?_)
      obtain ⟨rfl, b_4⟩ := hr1
      refine zr_icmp_le (tgt := 28) hx hb dX3_feed_22 (by decide) (by omega) (by omega) (fun c_5 => ?_) (fun c_5 => ?_)
      · refine lv_iload_n hx hb dX3_feed_28 rfl (lv_at hl 2 rfl) ?_
        refine zr_iconst hx hb dX3_feed_29 ?_
        refine zr_isub hx hb dX3_feed_30 ?_
        refine lv_istore (lv' := [(4, .int (zi_n (p0 - 1))), (0, .ref x), (1, .long w), (3, .int (zi_n p0))]) hx hb dX3_feed_31 hl (by decide) rfl (fun ls hl => ?_)
        have key : ∀ (N : Nat) (kk : Int), (-1 ≤ kk) → (kk ≤ p0 - 1) → kk + 1 < N → ∀ (H : Heap) (locs : List Loc), va_P D vwCl [(x, .inr (4, [.ref q, .ref q2, .ref hh, .int (zi_n rd), .int (zi_n br)])), (q, .inr (3, [.ref a, .int (zi_n (n + (p0 - 1 - kk)))])), (q2, .inr (3, [.ref a2, .int (zi_n k)])), (hh, .inr (2, [.ref q])), (a, .inl (cA, 600, .inl (zi_F (zh_fd F n w p0 (p0 - 1 - kk))))), (a2, .inl (cB, 600, .inl (zi_F G)))] H → va_D A [(x, .inr (4, [.ref q, .ref q2, .ref hh, .int (zi_n rd), .int (zi_n br)])), (q, .inr (3, [.ref a, .int (zi_n (n + (p0 - 1 - kk)))])), (q2, .inr (3, [.ref a2, .int (zi_n k)])), (hh, .inr (2, [.ref q])), (a, .inl (cA, 600, .inl (zi_F (zh_fd F n w p0 (p0 - 1 - kk))))), (a2, .inl (cB, 600, .inl (zi_F G)))] → va_S A s.heap H locs → ∀ ls : Array Slot, lv_has ls 5 [(4, .int (zi_n kk)), (0, .ref x), (1, .long w), (3, .int (zi_n p0))] → W p l e (headSpec wsX3_feed ({ frames := 1, cells := 0, slots := 0, locals := 21 })).room s m ([.ref x, .long w, .int (zi_n p0)] : List Value).toArray below meth c H locs 0 0 (MQ below (va_Qi (fun (r : Int32) (_ : Unit) => r = zi_n (zh_feE n p0) ∧ -14 ≤ (zh_feE n p0) ∧ (zh_feE n p0) ≤ 600) (fun (_ : Unit) => zp_B D vwCl [(cA, .int), (cB, .int)] A [(x, .inr (4, [.ref q, .ref q2, .ref hh, .int (zi_n (zh_feR n rd p0)), .int (zi_n br)])), (q, .inr (3, [.ref a, .int (zi_n (zh_feN n p0))])), (q2, .inr (3, [.ref a2, .int (zi_n k)])), (hh, .inr (2, [.ref q])), (a, .inl (cA, 600, .inl (zi_F (zh_feF F n w p0)))), (a2, .inl (cB, 600, .inl (zi_F G)))]) A) ([.ref x, .long w, .int (zi_n p0)] : List Value).toArray s 0 0 A) (F0 m 33 ls []) := by
          intro N
          induction N with
          | zero => intro kk  h1 h2 hm H locs hP hD hS ls hl; exfalso; omega
          | succ N ih =>
            intro kk  h1 h2 hm H locs hP hD hS ls hl
            have hFi : zi_By (zh_fd F n w p0 (p0 - 1 - kk)) := zh_fd_By hF _ _ _ _
            refine lv_iload hx hb dX3_feed_33 (lv_at hl 0 rfl) ?_
            refine zr_if_lt (tgt := 63) hx hb dX3_feed_35 (by decide) (by omega) (fun c_6 => ?_) (fun c_6 => ?_)
            · refine lv_aload_n hx hb dX3_feed_63 rfl (lv_at hl 1 rfl) ?_
              refine zr_iconst hx hb dX3_feed_64 ?_
              refine va_put (D := D) (ci := 4) (v := .int (zi_n 0)) (ty := .boolean) (C := RX3) (T := TX3) (N := 5) hx hb hts in_X3_feed_X3 tyX3 tyX3_ok nmX3 hown hK hP hD hS 0 rfl rfl 3 (by decide) (hts (.fieldLink RX3 28 "ZHeads" "isRead" "Z") (by decide +kernel)) (fun _ h9 => h9) rfl (by decide +kernel) (by decide) rfl (Nat.le_of_ble_eq_true rfl) dX3_feed_65 (fun H locs hP hD hS => ?_)
              have hP : va_P D vwCl [(x, .inr (4, [.ref q, .ref q2, .ref hh, .int (zi_n 0), .int (zi_n br)])), (q, .inr (3, [.ref a, .int (zi_n (n + (p0 - 1 - kk)))])), (q2, .inr (3, [.ref a2, .int (zi_n k)])), (hh, .inr (2, [.ref q])), (a, .inl (cA, 600, .inl (zi_F (zh_fd F n w p0 (p0 - 1 - kk))))), (a2, .inl (cB, 600, .inl (zi_F G)))] H := hP
              have hD : va_D A [(x, .inr (4, [.ref q, .ref q2, .ref hh, .int (zi_n 0), .int (zi_n br)])), (q, .inr (3, [.ref a, .int (zi_n (n + (p0 - 1 - kk)))])), (q2, .inr (3, [.ref a2, .int (zi_n k)])), (hh, .inr (2, [.ref q])), (a, .inl (cA, 600, .inl (zi_F (zh_fd F n w p0 (p0 - 1 - kk))))), (a2, .inl (cB, 600, .inl (zi_F G)))] := hD
              refine lv_aload_n hx hb dX3_feed_68 rfl (lv_at hl 1 rfl) ?_
              refine va_get (D := D) (ci := 4) (v := .ref q) (C := RX3) (T := TX3) (N := 5) hx hb hts in_X3_feed_X3 hown hK hP 0 rfl rfl 0 (by decide) (hts (.fieldLink RX3 10 "ZHeads" "file" "LZHeads$Row;") (by decide +kernel)) (fun _ h9 => h9) rfl dX3_feed_69 ?_
              refine zc_V (As := []) (rest := []) ⟨hx, hb, hml, hown, hts⟩ (c_Row_count l D q a cA (zh_fd F n w p0 (p0 - 1 - kk)) (n + (p0 - 1 - kk)) hFi (by omega)) (cwV 0 hts gX3_feed_X2_count rfl rfl rfl (by decide +kernel) ⟨(Nat.le_of_ble_eq_true rfl), (Nat.le_of_ble_eq_true rfl)⟩) hP hK [1, 4] [0] rfl rfl (ci := 3) rfl rfl rfl rfl hl.1 rfl (Nat.le_of_ble_eq_true rfl) dX3_feed_72 ⟨Nat.zero_le _, Nat.zero_le _⟩ (fun r hr1 => ?_)
              obtain ⟨rfl, b_7⟩ := hr1
              have e_n_8_0 : zh_feR n rd p0 = 0 := by unfold zh_feR zh_apR; (repeat' split) <;> omega
              have e_n_8_1 : zh_feN n p0 = n + (p0 - 1 - kk) := by unfold zh_feN zh_apN; (repeat' split) <;> omega
              have e_n_8_2 : zh_feF F n w p0 = zh_fd F n w p0 (p0 - 1 - kk) := by unfold zh_feF; first | (rw [if_pos (by omega), show p0 - 1 - kk = p0 by omega]; done) | (rw [if_neg (by omega)]; done)
              have hP9 : va_P D vwCl [(x, .inr (4, [.ref q, .ref q2, .ref hh, .int (zi_n (zh_feR n rd p0)), .int (zi_n br)])), (q, .inr (3, [.ref a, .int (zi_n (zh_feN n p0))])), (q2, .inr (3, [.ref a2, .int (zi_n k)])), (hh, .inr (2, [.ref q])), (a, .inl (cA, 600, .inl (zi_F (zh_feF F n w p0)))), (a2, .inl (cB, 600, .inl (zi_F G)))] H := by rw [e_n_8_0, e_n_8_1, e_n_8_2]; exact hP
              have hD9 : va_D A [(x, .inr (4, [.ref q, .ref q2, .ref hh, .int (zi_n (zh_feR n rd p0)), .int (zi_n br)])), (q, .inr (3, [.ref a, .int (zi_n (zh_feN n p0))])), (q2, .inr (3, [.ref a2, .int (zi_n k)])), (hh, .inr (2, [.ref q])), (a, .inl (cA, 600, .inl (zi_F (zh_feF F n w p0)))), (a2, .inl (cB, 600, .inl (zi_F G)))] := by rw [e_n_8_0, e_n_8_1, e_n_8_2]; exact hD
              exact W.iret (v := zi_n ((n + (p0 - 1 - kk)))) hx hb hr (fun t ht hW => ⟨⟨zi_n ((n + (p0 - 1 - kk))), (), rfl, zl_r (by unfold zh_feE zh_apE; (repeat' split) <;> omega) (by omega), by rw [ht]; exact hP9, va_K.moved hW.alike hK, hD9⟩, hS.F ht⟩) hS.2.2 dX3_feed_75
            · refine lv_aload_n hx hb dX3_feed_38 rfl (lv_at hl 1 rfl) ?_
              refine va_get (D := D) (ci := 4) (v := .ref q) (C := RX3) (T := TX3) (N := 5) hx hb hts in_X3_feed_X3 hown hK hP 0 rfl rfl 0 (by decide) (hts (.fieldLink RX3 10 "ZHeads" "file" "LZHeads$Row;") (by decide +kernel)) (fun _ h9 => h9) rfl dX3_feed_39 ?_
              refine lv_lload_n hx hb dX3_feed_42 rfl (lv_at hl 2 rfl) ?_
              refine zr_bipush hx hb dX3_feed_43 (by decide) ?_
              refine lv_iload hx hb dX3_feed_45 (lv_at hl 0 rfl) ?_
              refine zr_imul hx hb dX3_feed_47 ?_
              refine lv_lushr hx hb dX3_feed_48 rfl ?_
              refine lv_ldc2 (v := 255) hx hb hown (hts (.constantLong RX3 48 (255)) (by decide +kernel)) dX3_feed_49 ?_
              refine lv_land hx hb dX3_feed_52 ?_
              refine zr_l2iu (w := w) (k := kk) hx hb dX3_feed_53 ?_
              have b_9 := zh_wb_b w (kk)
              refine zc_Vv (As := [.int (zi_n (zh_wb w kk))]) (rest := []) (wr := [(x, .inr (4, [.ref q, .ref q2, .ref hh, .int (zi_n rd), .int (zi_n br)])), (q2, .inr (3, [.ref a2, .int (zi_n k)])), (hh, .inr (2, [.ref q])), (a2, .inl (cB, 600, .inl (zi_F G)))]) (wf := fun (_ : Unit) => [(x, .inr (4, [.ref q, .ref q2, .ref hh, .int (zi_n rd), .int (zi_n br)])), (q, .inr (3, [.ref a, .int (zi_n ((n + (p0 - 1 - kk)) + 1))])), (q2, .inr (3, [.ref a2, .int (zi_n k)])), (hh, .inr (2, [.ref q])), (a, .inl (cA, 600, .inl (zi_F (zi_up (zh_fd F n w p0 (p0 - 1 - kk)) (n + (p0 - 1 - kk)).toNat (zh_wb w kk))))), (a2, .inl (cB, 600, .inl (zi_F G)))]) ⟨hx, hb, hml, hown, hts⟩ (c_Row_add l D q a cA (zh_fd F n w p0 (p0 - 1 - kk)) (n + (p0 - 1 - kk)) hFi (by omega) _ (zh_wb w kk) (by omega) (by omega)) (cwV 1 hts gX3_feed_X2_add rfl rfl rfl (by decide +kernel) ⟨(Nat.le_of_ble_eq_true rfl), (Nat.le_of_ble_eq_true rfl)⟩) hP hD hK hS hA [1, 4] [0, 2, 3, 5] [0] [0, 4, 1, 2, 5, 3] rfl rfl (by decide) rfl (by decide) (by decide) rfl (fun _ => rfl) (fun _ => rfl) (by decide) (ci := 3) rfl rfl rfl rfl hl.1 rfl (Nat.le_of_ble_eq_true rfl) dX3_feed_54 ⟨Nat.zero_le _, Nat.zero_le _⟩ (fun _ hr1 H locs hP hD hS => ?_)
              have hF_10 : zi_By (zi_up (zh_fd F n w p0 (p0 - 1 - kk)) (n + (p0 - 1 - kk)).toNat (zh_wb w kk)) := zi_up_By hFi _ (by omega)
              have hP : va_P D vwCl [(x, .inr (4, [.ref q, .ref q2, .ref hh, .int (zi_n rd), .int (zi_n br)])), (q, .inr (3, [.ref a, .int (zi_n ((n + (p0 - 1 - kk)) + 1))])), (q2, .inr (3, [.ref a2, .int (zi_n k)])), (hh, .inr (2, [.ref q])), (a, .inl (cA, 600, .inl (zi_F (zi_up (zh_fd F n w p0 (p0 - 1 - kk)) (n + (p0 - 1 - kk)).toNat (zh_wb w kk))))), (a2, .inl (cB, 600, .inl (zi_F G)))] H := hP
              have hD : va_D A [(x, .inr (4, [.ref q, .ref q2, .ref hh, .int (zi_n rd), .int (zi_n br)])), (q, .inr (3, [.ref a, .int (zi_n ((n + (p0 - 1 - kk)) + 1))])), (q2, .inr (3, [.ref a2, .int (zi_n k)])), (hh, .inr (2, [.ref q])), (a, .inl (cA, 600, .inl (zi_F (zi_up (zh_fd F n w p0 (p0 - 1 - kk)) (n + (p0 - 1 - kk)).toNat (zh_wb w kk))))), (a2, .inl (cB, 600, .inl (zi_F G)))] := hD
              refine zr_iinc (lv' := [(4, .int (zi_n (kk + (-1)))), (0, .ref x), (1, .long w), (3, .int (zi_n p0))]) hx hb dX3_feed_57 hl (k := 0) rfl (by decide) rfl (fun ls hl => ?_)
              refine lv_goto (tgt := 33) hx hb dX3_feed_60 (by decide) ?_
              have e1 : zi_up (zh_fd F n w p0 (p0 - 1 - kk)) (n + (p0 - 1 - kk)).toNat (zh_wb w kk) = zh_fd F n w p0 (p0 - 1 - (kk + -1)) := by have h9 := zh_fd_s (F := F) (n := n) (w := w) (c := p0) (i := p0 - 1 - kk) (by omega) (by omega); rw [show p0 - 1 - (p0 - 1 - kk) = kk by omega, show p0 - 1 - kk + 1 = p0 - 1 - (kk + -1) by omega] at h9; exact h9
              have e2 : n + (p0 - 1 - kk) + 1 = n + (p0 - 1 - (kk + -1)) := by omega
              rw [e1] at hP hD; rw [e2] at hP hD
              exact ih (kk + (-1)) (by omega) (by omega) (by omega) H locs hP hD hS _ (lv_sub hl [0, 1, 2, 3] rfl)
        have e0 : zh_fd F n w p0 (p0 - 1 - (p0 - 1)) = F := by rw [show p0 - 1 - (p0 - 1) = 0 by omega]; exact zh_fd_0 F n w p0
        have e00 : n + (p0 - 1 - (p0 - 1)) = n := by omega
        exact key 10 (p0 - 1) (by omega) (by omega) (by omega) _ _ (by rw [e0]; rw [e00]; exact hP) (by rw [e0]; rw [e00]; exact hD) hS _ hl
      · refine zr_bipush hx hb dX3_feed_25 (by decide) ?_
        have e_n_11_0 : zh_feR n rd p0 = rd := by unfold zh_feR zh_apR; (repeat' split) <;> omega
        have e_n_11_1 : zh_feN n p0 = n := by unfold zh_feN zh_apN; (repeat' split) <;> omega
        have e_n_11_2 : zh_feF F n w p0 = F := by unfold zh_feF; first | (rw [if_pos (by omega), show p0 - 1 - kk = p0 by omega]; done) | (rw [if_neg (by omega)]; done)
        have hP9 : va_P D vwCl [(x, .inr (4, [.ref q, .ref q2, .ref hh, .int (zi_n (zh_feR n rd p0)), .int (zi_n br)])), (q, .inr (3, [.ref a, .int (zi_n (zh_feN n p0))])), (q2, .inr (3, [.ref a2, .int (zi_n k)])), (hh, .inr (2, [.ref q])), (a, .inl (cA, 600, .inl (zi_F (zh_feF F n w p0)))), (a2, .inl (cB, 600, .inl (zi_F G)))] s.heap := by rw [e_n_11_0, e_n_11_1, e_n_11_2]; exact hP
        have hD9 : va_D A [(x, .inr (4, [.ref q, .ref q2, .ref hh, .int (zi_n (zh_feR n rd p0)), .int (zi_n br)])), (q, .inr (3, [.ref a, .int (zi_n (zh_feN n p0))])), (q2, .inr (3, [.ref a2, .int (zi_n k)])), (hh, .inr (2, [.ref q])), (a, .inl (cA, 600, .inl (zi_F (zh_feF F n w p0)))), (a2, .inl (cB, 600, .inl (zi_F G)))] := by rw [e_n_11_0, e_n_11_1, e_n_11_2]; exact hD
        exact W.iret (v := zi_n (-14)) hx hb hr (fun t ht hW => ⟨⟨zi_n (-14), (), rfl, zl_r (by unfold zh_feE zh_apE; (repeat' split) <;> omega) (by omega), by rw [ht]; exact hP9, va_K.moved hW.alike hK, hD9⟩, hS.F ht⟩) hS.2.2 dX3_feed_27
    · refine zr_bipush hx hb dX3_feed_11 (by decide) ?_
      have e_n_12_0 : zh_feR n rd p0 = rd := by unfold zh_feR zh_apR; (repeat' split) <;> omega
      have e_n_12_1 : zh_feN n p0 = n := by unfold zh_feN zh_apN; (repeat' split) <;> omega
      have e_n_12_2 : zh_feF F n w p0 = F := by unfold zh_feF; first | (rw [if_pos (by omega), show p0 - 1 - kk = p0 by omega]; done) | (rw [if_neg (by omega)]; done)
      have hP9 : va_P D vwCl [(x, .inr (4, [.ref q, .ref q2, .ref hh, .int (zi_n (zh_feR n rd p0)), .int (zi_n br)])), (q, .inr (3, [.ref a, .int (zi_n (zh_feN n p0))])), (q2, .inr (3, [.ref a2, .int (zi_n k)])), (hh, .inr (2, [.ref q])), (a, .inl (cA, 600, .inl (zi_F (zh_feF F n w p0)))), (a2, .inl (cB, 600, .inl (zi_F G)))] s.heap := by rw [e_n_12_0, e_n_12_1, e_n_12_2]; exact hP
      have hD9 : va_D A [(x, .inr (4, [.ref q, .ref q2, .ref hh, .int (zi_n (zh_feR n rd p0)), .int (zi_n br)])), (q, .inr (3, [.ref a, .int (zi_n (zh_feN n p0))])), (q2, .inr (3, [.ref a2, .int (zi_n k)])), (hh, .inr (2, [.ref q])), (a, .inl (cA, 600, .inl (zi_F (zh_feF F n w p0)))), (a2, .inl (cB, 600, .inl (zi_F G)))] := by rw [e_n_12_0, e_n_12_1, e_n_12_2]; exact hD
      exact W.iret (v := zi_n (-12)) hx hb hr (fun t ht hW => ⟨⟨zi_n (-12), (), rfl, zl_r (by unfold zh_feE zh_apE; (repeat' split) <;> omega) (by omega), by rw [ht]; exact hP9, va_K.moved hW.alike hK, hD9⟩, hS.F ht⟩) hS.2.2 dX3_feed_13

theorem in_X3_poke_X3 : ∀ w ∈ u_ws RX3 TX3 5, w ∈ wsX3_poke := by decide +kernel
set_option maxHeartbeats 4000000 in
set_option maxRecDepth 100000 in
theorem c_Z_poke (l : Launch) (D : va_G) (x q q2 hh a a2 : Nat) (cA cB : ClassId) (F G : Nat → Int) (n k rd br : Int) (hF : zi_By F) (hn : 0 ≤ n ∧ n ≤ 600) (hG : zi_By G) (hk : 0 ≤ k ∧ k ≤ 600) (hrd : rd = 0 ∨ rd = 1) (hbr : 0 ≤ br ∧ br ≤ 15) (sz : Nat) (p0 : Int) (p1 : Int) (rp0 : zi_R p0) (rp1 : zi_R p1) : Met l yX3_poke wsX3_poke ({ frames := 2, cells := 0, slots := 0, locals := 43 }) (va_Pc [.ref x, .int (zi_n p0), .int (zi_n p1)] (zp_P D vwCl sz [(x, .inr (4, [.ref q, .ref q2, .ref hh, .int (zi_n rd), .int (zi_n br)])), (q, .inr (3, [.ref a, .int (zi_n n)])), (q2, .inr (3, [.ref a2, .int (zi_n k)])), (hh, .inr (2, [.ref q])), (a, .inl (cA, 600, .inl (zi_F F))), (a2, .inl (cB, 600, .inl (zi_F G)))] [(cA, .int), (cB, .int)])) (va_Qi (fun (r : Int32) (_ : Unit) => r = zi_n (zh_poE F n p0 p1) ∧ -12 ≤ (zh_poE F n p0 p1) ∧ (zh_poE F n p0 p1) ≤ 255) (fun (_ : Unit) => zp_B D vwCl [(cA, .int), (cB, .int)] (va_A [(x, .inr (4, [.ref q, .ref q2, .ref hh, .int (zi_n rd), .int (zi_n br)])), (q, .inr (3, [.ref a, .int (zi_n n)])), (q2, .inr (3, [.ref a2, .int (zi_n k)])), (hh, .inr (2, [.ref q])), (a, .inl (cA, 600, .inl (zi_F F))), (a2, .inl (cB, 600, .inl (zi_F G)))] sz) [(x, .inr (4, [.ref q, .ref q2, .ref hh, .int (zi_n (zh_poR n rd p0 p1)), .int (zi_n br)])), (q, .inr (3, [.ref a, .int (zi_n n)])), (q2, .inr (3, [.ref a2, .int (zi_n k)])), (hh, .inr (2, [.ref q])), (a, .inl (cA, 600, .inl (zi_F (zh_poF F n p0 p1)))), (a2, .inl (cB, 600, .inl (zi_F G)))]) (va_A [(x, .inr (4, [.ref q, .ref q2, .ref hh, .int (zi_n rd), .int (zi_n br)])), (q, .inr (3, [.ref a, .int (zi_n n)])), (q2, .inr (3, [.ref a2, .int (zi_n k)])), (hh, .inr (2, [.ref q])), (a, .inl (cA, 600, .inl (zi_F F))), (a2, .inl (cB, 600, .inl (zi_F G)))] sz)) 0 0 (va_A [(x, .inr (4, [.ref q, .ref q2, .ref hh, .int (zi_n rd), .int (zi_n br)])), (q, .inr (3, [.ref a, .int (zi_n n)])), (q2, .inr (3, [.ref a2, .int (zi_n k)])), (hh, .inr (2, [.ref q])), (a, .inl (cA, 600, .inl (zi_F F))), (a2, .inl (cB, 600, .inl (zi_F G)))] sz) := by
  refine Met.ofW (cc := cX3_poke) (maxL := 4) (ret := (some .int)) (by decide) rfl ?_
  intro p e s m args below meth c s₁ B hml hv
  obtain ⟨rfl, hsz, hP, hK, hD0⟩ := hv
  have hx := B.exec
  have hb := B.bytes
  have hr := B.returns
  have hts := atoms_spec (ws := wsX3_poke) B.pre
  have hown : s.vm.findClass RX3 = some m.cls := findClass_of_methodNamed B.named
  have hlocks := B.notSynchronized
  subst hsz
  have hD := hD0.self (sz := s.heap.size)
  generalize hAe : va_A [(x, .inr (4, [.ref q, .ref q2, .ref hh, .int (zi_n rd), .int (zi_n br)])), (q, .inr (3, [.ref a, .int (zi_n n)])), (q2, .inr (3, [.ref a2, .int (zi_n k)])), (hh, .inr (2, [.ref q])), (a, .inl (cA, 600, .inl (zi_F F))), (a2, .inl (cB, 600, .inl (zi_F G)))] s.heap.size = A at hD ⊢
  have hA : ∀ q : Nat, s.heap.size ≤ q → A q := fun q h => by rw [← hAe]; exact Or.inr h
  have hS : va_S A s.heap s.heap [] := va_S.rf
  have hP : va_P D vwCl [(x, .inr (4, [.ref q, .ref q2, .ref hh, .int (zi_n rd), .int (zi_n br)])), (q, .inr (3, [.ref a, .int (zi_n n)])), (q2, .inr (3, [.ref a2, .int (zi_n k)])), (hh, .inr (2, [.ref q])), (a, .inl (cA, 600, .inl (zi_F F))), (a2, .inl (cB, 600, .inl (zi_F G)))] s.heap := hP
  have hl := lv_entry ([.ref x, .int (zi_n p0), .int (zi_n p1)]) (n := 4) (Nat.le_of_ble_eq_true rfl)
  rw [lg_entry_eq]
  generalize (lg_sl ([.ref x, .int (zi_n p0), .int (zi_n p1)]) ++ List.replicate (4 - (lg_sl ([.ref x, .int (zi_n p0), .int (zi_n p1)])).length) Slot.unset).toArray = ls at hl ⊢
  have hl : lv_has ls 4 [(0, .ref x), (1, .int (zi_n p0)), (2, .int (zi_n p1))] := hl
  refine lv_aload_n hx hb dX3_poke_0 rfl (lv_at hl 0 rfl) ?_
  refine va_get (D := D) (ci := 4) (v := .ref q) (C := RX3) (T := TX3) (N := 5) hx hb hts in_X3_poke_X3 hown hK hP 0 rfl rfl 0 (by decide) (hts (.fieldLink RX3 10 "ZHeads" "file" "LZHeads$Row;") (by decide +kernel)) (fun _ h9 => h9) rfl dX3_poke_1 ?_
  refine lv_iload_n hx hb dX3_poke_4 rfl (lv_at hl 1 rfl) ?_
  refine zc_V (As := [.int (zi_n p0)]) (rest := []) ⟨hx, hb, hml, hown, hts⟩ (c_Row_has l D q a cA F n hF (by omega) p0 (by omega)) (cwV 1 hts gX3_poke_X2_has rfl rfl rfl (by decide +kernel) ⟨(Nat.le_of_ble_eq_true rfl), (Nat.le_of_ble_eq_true rfl)⟩) hP hK [1, 4] [0] rfl rfl (ci := 3) rfl rfl rfl rfl hl.1 rfl (Nat.le_of_ble_eq_true rfl) dX3_poke_5 ⟨Nat.zero_le _, Nat.zero_le _⟩ (fun r hr1 => ?_)
  rcases hr1 with ⟨rfl, c_1⟩ | ⟨rfl, c_1⟩
  · refine zr_if_eq (tgt := 18) hx hb dX3_poke_8 (by decide) (by omega) (fun c => absurd c (by decide)) (fun c_2 => ?_)
    refine lv_iload_n hx hb dX3_poke_11 rfl (lv_at hl 2 rfl) ?_
    refine zc_S (As := [.int (zi_n p1)]) (rest := []) ⟨hx, hb, hml, hown, hts⟩ (c_Z_isByte l p1 (by omega)) (va_cwS 1 hts gX3_poke_X3_isByte rfl rfl rfl (by decide +kernel) ⟨(Nat.le_of_ble_eq_true rfl), (Nat.le_of_ble_eq_true rfl)⟩) rfl hl.1 rfl (Nat.le_of_ble_eq_true rfl) dX3_poke_12 ⟨Nat.zero_le _, Nat.zero_le _⟩ (fun r hr1 => ?_)
    rcases hr1 with ⟨rfl, c_3⟩ | ⟨rfl, c_3⟩
    · refine zr_if_ne (tgt := 21) hx hb dX3_poke_15 (by decide) (by omega) (fun c_4 => ?_) (fun c => absurd c (by decide))
      refine lv_aload_n hx hb dX3_poke_21 rfl (lv_at hl 0 rfl) ?_
      refine va_get (D := D) (ci := 4) (v := .ref q) (C := RX3) (T := TX3) (N := 5) hx hb hts in_X3_poke_X3 hown hK hP 0 rfl rfl 0 (by decide) (hts (.fieldLink RX3 10 "ZHeads" "file" "LZHeads$Row;") (by decide +kernel)) (fun _ h9 => h9) rfl dX3_poke_22 ?_
      refine lv_iload_n hx hb dX3_poke_25 rfl (lv_at hl 1 rfl) ?_
      refine zc_V (As := [.int (zi_n p0)]) (rest := []) ⟨hx, hb, hml, hown, hts⟩ (c_Row_at l D q a cA F n hF (by omega) p0 (by omega)) (cwV 1 hts gX3_poke_X2_at rfl rfl rfl (by decide +kernel) ⟨(Nat.le_of_ble_eq_true rfl), (Nat.le_of_ble_eq_true rfl)⟩) hP hK [1, 4] [0] rfl rfl (ci := 3) rfl rfl rfl rfl hl.1 rfl (Nat.le_of_ble_eq_true rfl) dX3_poke_26 ⟨Nat.zero_le _, Nat.zero_le _⟩ (fun r hr1 => ?_)
      obtain ⟨rfl, b_5⟩ := hr1
      refine lv_istore_n (lv' := [(3, .int (zi_n (zh_at F n p0))), (0, .ref x), (1, .int (zi_n p0)), (2, .int (zi_n p1))]) hx hb dX3_poke_29 rfl hl (by decide) rfl (fun ls hl => ?_)
      refine lv_aload_n hx hb dX3_poke_30 rfl (lv_at hl 1 rfl) ?_
      refine va_get (D := D) (ci := 4) (v := .ref q) (C := RX3) (T := TX3) (N := 5) hx hb hts in_X3_poke_X3 hown hK hP 0 rfl rfl 0 (by decide) (hts (.fieldLink RX3 10 "ZHeads" "file" "LZHeads$Row;") (by decide +kernel)) (fun _ h9 => h9) rfl dX3_poke_31 ?_
      refine lv_iload_n hx hb dX3_poke_34 rfl (lv_at hl 2 rfl) ?_
      refine lv_iload_n hx hb dX3_poke_35 rfl (lv_at hl 3 rfl) ?_
      refine zc_Vv (As := [.int (zi_n p0), .int (zi_n p1)]) (rest := []) (wr := [(x, .inr (4, [.ref q, .ref q2, .ref hh, .int (zi_n rd), .int (zi_n br)])), (q2, .inr (3, [.ref a2, .int (zi_n k)])), (hh, .inr (2, [.ref q])), (a2, .inl (cB, 600, .inl (zi_F G)))]) (wf := fun (_ : Unit) => [(x, .inr (4, [.ref q, .ref q2, .ref hh, .int (zi_n rd), .int (zi_n br)])), (q, .inr (3, [.ref a, .int (zi_n n)])), (q2, .inr (3, [.ref a2, .int (zi_n k)])), (hh, .inr (2, [.ref q])), (a, .inl (cA, 600, .inl (zi_F (zh_put F n p0 p1)))), (a2, .inl (cB, 600, .inl (zi_F G)))]) ⟨hx, hb, hml, hown, hts⟩ (c_Row_put l D q a cA F n hF (by omega) _ p0 p1 (by omega) (by omega)) (cwV 2 hts gX3_poke_X2_put rfl rfl rfl (by decide +kernel) ⟨(Nat.le_of_ble_eq_true rfl), (Nat.le_of_ble_eq_true rfl)⟩) hP hD hK hS hA [1, 4] [0, 2, 3, 5] [0] [0, 4, 1, 2, 5, 3] rfl rfl (by decide) rfl (by decide) (by decide) rfl (fun _ => rfl) (fun _ => rfl) (by decide) (ci := 3) rfl rfl rfl rfl hl.1 rfl (Nat.le_of_ble_eq_true rfl) dX3_poke_36 ⟨Nat.zero_le _, Nat.zero_le _⟩ (fun _ hr1 H locs hP hD hS => ?_)
      have hF_6 : zi_By (zh_put F n p0 p1) := zh_put_By hF _ _ _
      have hP : va_P D vwCl [(x, .inr (4, [.ref q, .ref q2, .ref hh, .int (zi_n rd), .int (zi_n br)])), (q, .inr (3, [.ref a, .int (zi_n n)])), (q2, .inr (3, [.ref a2, .int (zi_n k)])), (hh, .inr (2, [.ref q])), (a, .inl (cA, 600, .inl (zi_F (zh_put F n p0 p1)))), (a2, .inl (cB, 600, .inl (zi_F G)))] H := hP
      have hD : va_D A [(x, .inr (4, [.ref q, .ref q2, .ref hh, .int (zi_n rd), .int (zi_n br)])), (q, .inr (3, [.ref a, .int (zi_n n)])), (q2, .inr (3, [.ref a2, .int (zi_n k)])), (hh, .inr (2, [.ref q])), (a, .inl (cA, 600, .inl (zi_F (zh_put F n p0 p1)))), (a2, .inl (cB, 600, .inl (zi_F G)))] := hD
      refine lv_aload_n hx hb dX3_poke_39 rfl (lv_at hl 1 rfl) ?_
      refine zr_iconst hx hb dX3_poke_40 ?_
      refine va_put (D := D) (ci := 4) (v := .int (zi_n 0)) (ty := .boolean) (C := RX3) (T := TX3) (N := 5) hx hb hts in_X3_poke_X3 tyX3 tyX3_ok nmX3 hown hK hP hD hS 0 rfl rfl 3 (by decide) (hts (.fieldLink RX3 28 "ZHeads" "isRead" "Z") (by decide +kernel)) (fun _ h9 => h9) rfl (by decide +kernel) (by decide) rfl (Nat.le_of_ble_eq_true rfl) dX3_poke_41 (fun H locs hP hD hS => ?_)
      have hP : va_P D vwCl [(x, .inr (4, [.ref q, .ref q2, .ref hh, .int (zi_n 0), .int (zi_n br)])), (q, .inr (3, [.ref a, .int (zi_n n)])), (q2, .inr (3, [.ref a2, .int (zi_n k)])), (hh, .inr (2, [.ref q])), (a, .inl (cA, 600, .inl (zi_F (zh_put F n p0 p1)))), (a2, .inl (cB, 600, .inl (zi_F G)))] H := hP
      have hD : va_D A [(x, .inr (4, [.ref q, .ref q2, .ref hh, .int (zi_n 0), .int (zi_n br)])), (q, .inr (3, [.ref a, .int (zi_n n)])), (q2, .inr (3, [.ref a2, .int (zi_n k)])), (hh, .inr (2, [.ref q])), (a, .inl (cA, 600, .inl (zi_F (zh_put F n p0 p1)))), (a2, .inl (cB, 600, .inl (zi_F G)))] := hD
      refine lv_iload_n hx hb dX3_poke_44 rfl (lv_at hl 0 rfl) ?_
      have e_n_7_0 : zh_poR n rd p0 p1 = 0 := by unfold zh_poR; first | rw [if_pos (by omega)] | rw [if_neg (by omega)]
      have e_n_7_1 : zh_poF F n p0 p1 = zh_put F n p0 p1 := by unfold zh_poF; first | (rw [if_neg (by omega)]; done) | (rw [if_pos (by omega)]; unfold zh_put; rw [if_pos (by omega), show p1 % 256 = p1 by omega])
      have hP9 : va_P D vwCl [(x, .inr (4, [.ref q, .ref q2, .ref hh, .int (zi_n (zh_poR n rd p0 p1)), .int (zi_n br)])), (q, .inr (3, [.ref a, .int (zi_n n)])), (q2, .inr (3, [.ref a2, .int (zi_n k)])), (hh, .inr (2, [.ref q])), (a, .inl (cA, 600, .inl (zi_F (zh_poF F n p0 p1)))), (a2, .inl (cB, 600, .inl (zi_F G)))] H := by rw [e_n_7_0, e_n_7_1]; exact hP
      have hD9 : va_D A [(x, .inr (4, [.ref q, .ref q2, .ref hh, .int (zi_n (zh_poR n rd p0 p1)), .int (zi_n br)])), (q, .inr (3, [.ref a, .int (zi_n n)])), (q2, .inr (3, [.ref a2, .int (zi_n k)])), (hh, .inr (2, [.ref q])), (a, .inl (cA, 600, .inl (zi_F (zh_poF F n p0 p1)))), (a2, .inl (cB, 600, .inl (zi_F G)))] := by rw [e_n_7_0, e_n_7_1]; exact hD
      exact W.iret (v := zi_n (zh_at F n p0)) hx hb hr (fun t ht hW => ⟨⟨zi_n (zh_at F n p0), (), rfl, zl_r (by unfold zh_poE; first | (rw [if_neg (by omega)]; done) | (rw [if_pos (by omega), zh_at_in (by omega)])) (by omega), by rw [ht]; exact hP9, va_K.moved hW.alike hK, hD9⟩, hS.F ht⟩) hS.2.2 dX3_poke_45
    · refine zr_if_ne (tgt := 21) hx hb dX3_poke_15 (by decide) (by omega) (fun c => absurd c (by decide)) (fun c_8 => ?_)
      refine zr_bipush hx hb dX3_poke_18 (by decide) ?_
      have e_n_9_0 : zh_poR n rd p0 p1 = rd := by unfold zh_poR; first | rw [if_pos (by omega)] | rw [if_neg (by omega)]
      have e_n_9_1 : zh_poF F n p0 p1 = F := by unfold zh_poF; first | (rw [if_neg (by omega)]; done) | (rw [if_pos (by omega)]; unfold zh_put; rw [if_pos (by omega), show p1 % 256 = p1 by omega])
      have hP9 : va_P D vwCl [(x, .inr (4, [.ref q, .ref q2, .ref hh, .int (zi_n (zh_poR n rd p0 p1)), .int (zi_n br)])), (q, .inr (3, [.ref a, .int (zi_n n)])), (q2, .inr (3, [.ref a2, .int (zi_n k)])), (hh, .inr (2, [.ref q])), (a, .inl (cA, 600, .inl (zi_F (zh_poF F n p0 p1)))), (a2, .inl (cB, 600, .inl (zi_F G)))] s.heap := by rw [e_n_9_0, e_n_9_1]; exact hP
      have hD9 : va_D A [(x, .inr (4, [.ref q, .ref q2, .ref hh, .int (zi_n (zh_poR n rd p0 p1)), .int (zi_n br)])), (q, .inr (3, [.ref a, .int (zi_n n)])), (q2, .inr (3, [.ref a2, .int (zi_n k)])), (hh, .inr (2, [.ref q])), (a, .inl (cA, 600, .inl (zi_F (zh_poF F n p0 p1)))), (a2, .inl (cB, 600, .inl (zi_F G)))] := by rw [e_n_9_0, e_n_9_1]; exact hD
      exact W.iret (v := zi_n (-12)) hx hb hr (fun t ht hW => ⟨⟨zi_n (-12), (), rfl, zl_r (by unfold zh_poE; first | (rw [if_neg (by omega)]; done) | (rw [if_pos (by omega), zh_at_in (by omega)])) (by omega), by rw [ht]; exact hP9, va_K.moved hW.alike hK, hD9⟩, hS.F ht⟩) hS.2.2 dX3_poke_20
  · refine zr_if_eq (tgt := 18) hx hb dX3_poke_8 (by decide) (by omega) (fun c_10 => ?_) (fun c => absurd c (by decide))
    refine zr_bipush hx hb dX3_poke_18 (by decide) ?_
    have e_n_11_0 : zh_poR n rd p0 p1 = rd := by unfold zh_poR; first | rw [if_pos (by omega)] | rw [if_neg (by omega)]
    have e_n_11_1 : zh_poF F n p0 p1 = F := by unfold zh_poF; first | (rw [if_neg (by omega)]; done) | (rw [if_pos (by omega)]; unfold zh_put; rw [if_pos (by omega), show p1 % 256 = p1 by omega])
    have hP9 : va_P D vwCl [(x, .inr (4, [.ref q, .ref q2, .ref hh, .int (zi_n (zh_poR n rd p0 p1)), .int (zi_n br)])), (q, .inr (3, [.ref a, .int (zi_n n)])), (q2, .inr (3, [.ref a2, .int (zi_n k)])), (hh, .inr (2, [.ref q])), (a, .inl (cA, 600, .inl (zi_F (zh_poF F n p0 p1)))), (a2, .inl (cB, 600, .inl (zi_F G)))] s.heap := by rw [e_n_11_0, e_n_11_1]; exact hP
    have hD9 : va_D A [(x, .inr (4, [.ref q, .ref q2, .ref hh, .int (zi_n (zh_poR n rd p0 p1)), .int (zi_n br)])), (q, .inr (3, [.ref a, .int (zi_n n)])), (q2, .inr (3, [.ref a2, .int (zi_n k)])), (hh, .inr (2, [.ref q])), (a, .inl (cA, 600, .inl (zi_F (zh_poF F n p0 p1)))), (a2, .inl (cB, 600, .inl (zi_F G)))] := by rw [e_n_11_0, e_n_11_1]; exact hD
    exact W.iret (v := zi_n (-12)) hx hb hr (fun t ht hW => ⟨⟨zi_n (-12), (), rfl, zl_r (by unfold zh_poE; first | (rw [if_neg (by omega)]; done) | (rw [if_pos (by omega), zh_at_in (by omega)])) (by omega), by rw [ht]; exact hP9, va_K.moved hW.alike hK, hD9⟩, hS.F ht⟩) hS.2.2 dX3_poke_20

theorem in_X3_clear_X3 : ∀ w ∈ u_ws RX3 TX3 5, w ∈ wsX3_clear := by decide +kernel
set_option maxHeartbeats 4000000 in
set_option maxRecDepth 100000 in
theorem c_Z_clear (l : Launch) (D : va_G) (x q q2 hh a a2 : Nat) (cA cB : ClassId) (F G : Nat → Int) (n k rd br : Int) (hF : zi_By F) (hn : 0 ≤ n ∧ n ≤ 600) (hG : zi_By G) (hk : 0 ≤ k ∧ k ≤ 600) (hrd : rd = 0 ∨ rd = 1) (hbr : 0 ≤ br ∧ br ≤ 15) (sz : Nat) : Met l yX3_clear wsX3_clear ({ frames := 1, cells := 0, slots := 0, locals := 20 }) (va_Pc [.ref x] (zp_P D vwCl sz [(x, .inr (4, [.ref q, .ref q2, .ref hh, .int (zi_n rd), .int (zi_n br)])), (q, .inr (3, [.ref a, .int (zi_n n)])), (q2, .inr (3, [.ref a2, .int (zi_n k)])), (hh, .inr (2, [.ref q])), (a, .inl (cA, 600, .inl (zi_F F))), (a2, .inl (cB, 600, .inl (zi_F G)))] [(cA, .int), (cB, .int)])) (va_Qi (fun (r : Int32) (_ : Unit) => r = zi_n n ∧ 0 ≤ n ∧ n ≤ 600) (fun (_ : Unit) => zp_B D vwCl [(cA, .int), (cB, .int)] (va_A [(x, .inr (4, [.ref q, .ref q2, .ref hh, .int (zi_n rd), .int (zi_n br)])), (q, .inr (3, [.ref a, .int (zi_n n)])), (q2, .inr (3, [.ref a2, .int (zi_n k)])), (hh, .inr (2, [.ref q])), (a, .inl (cA, 600, .inl (zi_F F))), (a2, .inl (cB, 600, .inl (zi_F G)))] sz) [(x, .inr (4, [.ref q, .ref q2, .ref hh, .int (zi_n 0), .int (zi_n 0)])), (q, .inr (3, [.ref a, .int (zi_n 0)])), (q2, .inr (3, [.ref a2, .int (zi_n k)])), (hh, .inr (2, [.ref q])), (a, .inl (cA, 600, .inl (zi_F F))), (a2, .inl (cB, 600, .inl (zi_F G)))]) (va_A [(x, .inr (4, [.ref q, .ref q2, .ref hh, .int (zi_n rd), .int (zi_n br)])), (q, .inr (3, [.ref a, .int (zi_n n)])), (q2, .inr (3, [.ref a2, .int (zi_n k)])), (hh, .inr (2, [.ref q])), (a, .inl (cA, 600, .inl (zi_F F))), (a2, .inl (cB, 600, .inl (zi_F G)))] sz)) 0 0 (va_A [(x, .inr (4, [.ref q, .ref q2, .ref hh, .int (zi_n rd), .int (zi_n br)])), (q, .inr (3, [.ref a, .int (zi_n n)])), (q2, .inr (3, [.ref a2, .int (zi_n k)])), (hh, .inr (2, [.ref q])), (a, .inl (cA, 600, .inl (zi_F F))), (a2, .inl (cB, 600, .inl (zi_F G)))] sz) := by
  refine Met.ofW (cc := cX3_clear) (maxL := 2) (ret := (some .int)) (by decide) rfl ?_
  intro p e s m args below meth c s₁ B hml hv
  obtain ⟨rfl, hsz, hP, hK, hD0⟩ := hv
  have hx := B.exec
  have hb := B.bytes
  have hr := B.returns
  have hts := atoms_spec (ws := wsX3_clear) B.pre
  have hown : s.vm.findClass RX3 = some m.cls := findClass_of_methodNamed B.named
  have hlocks := B.notSynchronized
  subst hsz
  have hD := hD0.self (sz := s.heap.size)
  generalize hAe : va_A [(x, .inr (4, [.ref q, .ref q2, .ref hh, .int (zi_n rd), .int (zi_n br)])), (q, .inr (3, [.ref a, .int (zi_n n)])), (q2, .inr (3, [.ref a2, .int (zi_n k)])), (hh, .inr (2, [.ref q])), (a, .inl (cA, 600, .inl (zi_F F))), (a2, .inl (cB, 600, .inl (zi_F G)))] s.heap.size = A at hD ⊢
  have hA : ∀ q : Nat, s.heap.size ≤ q → A q := fun q h => by rw [← hAe]; exact Or.inr h
  have hS : va_S A s.heap s.heap [] := va_S.rf
  have hP : va_P D vwCl [(x, .inr (4, [.ref q, .ref q2, .ref hh, .int (zi_n rd), .int (zi_n br)])), (q, .inr (3, [.ref a, .int (zi_n n)])), (q2, .inr (3, [.ref a2, .int (zi_n k)])), (hh, .inr (2, [.ref q])), (a, .inl (cA, 600, .inl (zi_F F))), (a2, .inl (cB, 600, .inl (zi_F G)))] s.heap := hP
  have hl := lv_entry ([.ref x]) (n := 2) (Nat.le_of_ble_eq_true rfl)
  rw [lg_entry_eq]
  generalize (lg_sl ([.ref x]) ++ List.replicate (2 - (lg_sl ([.ref x])).length) Slot.unset).toArray = ls at hl ⊢
  have hl : lv_has ls 2 [(0, .ref x)] := hl
  refine lv_aload_n hx hb dX3_clear_0 rfl (lv_at hl 0 rfl) ?_
  refine va_get (D := D) (ci := 4) (v := .ref q) (C := RX3) (T := TX3) (N := 5) hx hb hts in_X3_clear_X3 hown hK hP 0 rfl rfl 0 (by decide) (hts (.fieldLink RX3 10 "ZHeads" "file" "LZHeads$Row;") (by decide +kernel)) (fun _ h9 => h9) rfl dX3_clear_1 ?_
  refine zc_V (As := []) (rest := []) ⟨hx, hb, hml, hown, hts⟩ (c_Row_count l D q a cA F n hF (by omega)) (cwV 0 hts gX3_clear_X2_count rfl rfl rfl (by decide +kernel) ⟨(Nat.le_of_ble_eq_true rfl), (Nat.le_of_ble_eq_true rfl)⟩) hP hK [1, 4] [0] rfl rfl (ci := 3) rfl rfl rfl rfl hl.1 rfl (Nat.le_of_ble_eq_true rfl) dX3_clear_4 ⟨Nat.zero_le _, Nat.zero_le _⟩ (fun r hr1 => ?_)
  obtain ⟨rfl, b_1⟩ := hr1
  refine lv_istore_n (lv' := [(1, .int (zi_n n)), (0, .ref x)]) hx hb dX3_clear_7 rfl hl (by decide) rfl (fun ls hl => ?_)
  refine lv_aload_n hx hb dX3_clear_8 rfl (lv_at hl 1 rfl) ?_
  refine va_get (D := D) (ci := 4) (v := .ref q) (C := RX3) (T := TX3) (N := 5) hx hb hts in_X3_clear_X3 hown hK hP 0 rfl rfl 0 (by decide) (hts (.fieldLink RX3 10 "ZHeads" "file" "LZHeads$Row;") (by decide +kernel)) (fun _ h9 => h9) rfl dX3_clear_9 ?_
  refine zc_Vv (As := []) (rest := []) (wr := [(x, .inr (4, [.ref q, .ref q2, .ref hh, .int (zi_n rd), .int (zi_n br)])), (q2, .inr (3, [.ref a2, .int (zi_n k)])), (hh, .inr (2, [.ref q])), (a2, .inl (cB, 600, .inl (zi_F G)))]) (wf := fun (_ : Unit) => [(x, .inr (4, [.ref q, .ref q2, .ref hh, .int (zi_n rd), .int (zi_n br)])), (q, .inr (3, [.ref a, .int (zi_n 0)])), (q2, .inr (3, [.ref a2, .int (zi_n k)])), (hh, .inr (2, [.ref q])), (a, .inl (cA, 600, .inl (zi_F F))), (a2, .inl (cB, 600, .inl (zi_F G)))]) ⟨hx, hb, hml, hown, hts⟩ (c_Row_empty l D q a cA F n hF (by omega) _) (cwV 0 hts gX3_clear_X2_empty rfl rfl rfl (by decide +kernel) ⟨(Nat.le_of_ble_eq_true rfl), (Nat.le_of_ble_eq_true rfl)⟩) hP hD hK hS hA [1, 4] [0, 2, 3, 5] [0] [0, 4, 1, 2, 5, 3] rfl rfl (by decide) rfl (by decide) (by decide) rfl (fun _ => rfl) (fun _ => rfl) (by decide) (ci := 3) rfl rfl rfl rfl hl.1 rfl (Nat.le_of_ble_eq_true rfl) dX3_clear_12 ⟨Nat.zero_le _, Nat.zero_le _⟩ (fun _ hr1 H locs hP hD hS => ?_)
  have hP : va_P D vwCl [(x, .inr (4, [.ref q, .ref q2, .ref hh, .int (zi_n rd), .int (zi_n br)])), (q, .inr (3, [.ref a, .int (zi_n 0)])), (q2, .inr (3, [.ref a2, .int (zi_n k)])), (hh, .inr (2, [.ref q])), (a, .inl (cA, 600, .inl (zi_F F))), (a2, .inl (cB, 600, .inl (zi_F G)))] H := hP
  have hD : va_D A [(x, .inr (4, [.ref q, .ref q2, .ref hh, .int (zi_n rd), .int (zi_n br)])), (q, .inr (3, [.ref a, .int (zi_n 0)])), (q2, .inr (3, [.ref a2, .int (zi_n k)])), (hh, .inr (2, [.ref q])), (a, .inl (cA, 600, .inl (zi_F F))), (a2, .inl (cB, 600, .inl (zi_F G)))] := hD
  refine lv_aload_n hx hb dX3_clear_15 rfl (lv_at hl 1 rfl) ?_
  refine zr_iconst hx hb dX3_clear_16 ?_
  refine va_put (D := D) (ci := 4) (v := .int (zi_n 0)) (ty := .boolean) (C := RX3) (T := TX3) (N := 5) hx hb hts in_X3_clear_X3 tyX3 tyX3_ok nmX3 hown hK hP hD hS 0 rfl rfl 3 (by decide) (hts (.fieldLink RX3 28 "ZHeads" "isRead" "Z") (by decide +kernel)) (fun _ h9 => h9) rfl (by decide +kernel) (by decide) rfl (Nat.le_of_ble_eq_true rfl) dX3_clear_17 (fun H locs hP hD hS => ?_)
  have hP : va_P D vwCl [(x, .inr (4, [.ref q, .ref q2, .ref hh, .int (zi_n 0), .int (zi_n br)])), (q, .inr (3, [.ref a, .int (zi_n 0)])), (q2, .inr (3, [.ref a2, .int (zi_n k)])), (hh, .inr (2, [.ref q])), (a, .inl (cA, 600, .inl (zi_F F))), (a2, .inl (cB, 600, .inl (zi_F G)))] H := hP
  have hD : va_D A [(x, .inr (4, [.ref q, .ref q2, .ref hh, .int (zi_n 0), .int (zi_n br)])), (q, .inr (3, [.ref a, .int (zi_n 0)])), (q2, .inr (3, [.ref a2, .int (zi_n k)])), (hh, .inr (2, [.ref q])), (a, .inl (cA, 600, .inl (zi_F F))), (a2, .inl (cB, 600, .inl (zi_F G)))] := hD
  refine lv_aload_n hx hb dX3_clear_20 rfl (lv_at hl 1 rfl) ?_
  refine zr_iconst hx hb dX3_clear_21 ?_
  refine va_put (D := D) (ci := 4) (v := .int (zi_n 0)) (ty := .int) (C := RX3) (T := TX3) (N := 5) hx hb hts in_X3_clear_X3 tyX3 tyX3_ok nmX3 hown hK hP hD hS 0 rfl rfl 4 (by decide) (hts (.fieldLink RX3 32 "ZHeads" "brokenRule" "I") (by decide +kernel)) (fun _ h9 => h9) rfl (by decide +kernel) rfl rfl (Nat.le_of_ble_eq_true rfl) dX3_clear_22 (fun H locs hP hD hS => ?_)
  have hP : va_P D vwCl [(x, .inr (4, [.ref q, .ref q2, .ref hh, .int (zi_n 0), .int (zi_n 0)])), (q, .inr (3, [.ref a, .int (zi_n 0)])), (q2, .inr (3, [.ref a2, .int (zi_n k)])), (hh, .inr (2, [.ref q])), (a, .inl (cA, 600, .inl (zi_F F))), (a2, .inl (cB, 600, .inl (zi_F G)))] H := hP
  have hD : va_D A [(x, .inr (4, [.ref q, .ref q2, .ref hh, .int (zi_n 0), .int (zi_n 0)])), (q, .inr (3, [.ref a, .int (zi_n 0)])), (q2, .inr (3, [.ref a2, .int (zi_n k)])), (hh, .inr (2, [.ref q])), (a, .inl (cA, 600, .inl (zi_F F))), (a2, .inl (cB, 600, .inl (zi_F G)))] := hD
  refine lv_iload_n hx hb dX3_clear_25 rfl (lv_at hl 0 rfl) ?_
  have hP9 : va_P D vwCl [(x, .inr (4, [.ref q, .ref q2, .ref hh, .int (zi_n 0), .int (zi_n 0)])), (q, .inr (3, [.ref a, .int (zi_n 0)])), (q2, .inr (3, [.ref a2, .int (zi_n k)])), (hh, .inr (2, [.ref q])), (a, .inl (cA, 600, .inl (zi_F F))), (a2, .inl (cB, 600, .inl (zi_F G)))] H := hP
  have hD9 : va_D A [(x, .inr (4, [.ref q, .ref q2, .ref hh, .int (zi_n 0), .int (zi_n 0)])), (q, .inr (3, [.ref a, .int (zi_n 0)])), (q2, .inr (3, [.ref a2, .int (zi_n k)])), (hh, .inr (2, [.ref q])), (a, .inl (cA, 600, .inl (zi_F F))), (a2, .inl (cB, 600, .inl (zi_F G)))] := hD
  exact W.iret (v := zi_n n) hx hb hr (fun t ht hW => ⟨⟨zi_n n, (), rfl, ⟨rfl, by omega⟩, by rw [ht]; exact hP9, va_K.moved hW.alike hK, hD9⟩, hS.F ht⟩) hS.2.2 dX3_clear_26

theorem in_X3_store_X3 : ∀ w ∈ u_ws RX3 TX3 5, w ∈ wsX3_store := by decide +kernel
set_option maxHeartbeats 4000000 in
set_option maxRecDepth 100000 in
theorem c_Z_store (l : Launch) (D : va_G) (x q q2 hh a a2 : Nat) (cA cB : ClassId) (F G : Nat → Int) (n k rd br : Int) (hF : zi_By F) (hn : 0 ≤ n ∧ n ≤ 600) (hG : zi_By G) (hk : 0 ≤ k ∧ k ≤ 600) (hrd : rd = 0 ∨ rd = 1) (hbr : 0 ≤ br ∧ br ≤ 15) (sz : Nat) (p0 : Int) (p1 : Int) (hR : rd = 1 → (64 ≤ n ∧ k = n) ∧ (1 ≤ F 0 ∧ F 0 ≤ 8) ∧ (64 ≤ zh_len F n ∧ zh_len F n ≤ n) ∧ (64 ≤ zh_t F 14 ∧ zh_t F 14 ≤ zh_len F n) ∧ (64 ≤ zh_t F 12 ∧ zh_t F 12 + 480 ≤ zh_t F 14) ∧ (64 ≤ zh_t F 8 ∧ 0 ≤ zh_sg F n ∧ 4 ≤ zh_eb F n)) (rp0 : zi_R p0) (rp1 : zi_R p1) : Met l yX3_store wsX3_store ({ frames := 2, cells := 0, slots := 0, locals := 43 }) (va_Pc [.ref x, .int (zi_n p0), .int (zi_n p1)] (zp_P D vwCl sz [(x, .inr (4, [.ref q, .ref q2, .ref hh, .int (zi_n rd), .int (zi_n br)])), (q, .inr (3, [.ref a, .int (zi_n n)])), (q2, .inr (3, [.ref a2, .int (zi_n k)])), (hh, .inr (2, [.ref q])), (a, .inl (cA, 600, .inl (zi_F F))), (a2, .inl (cB, 600, .inl (zi_F G)))] [(cA, .int), (cB, .int)])) (va_Qi (fun (r : Int32) (_ : Unit) => r = zi_n (zh_stE F G k rd p0) ∧ -13 ≤ (zh_stE F G k rd p0) ∧ (zh_stE F G k rd p0) ≤ 255) (fun (_ : Unit) => zp_B D vwCl [(cA, .int), (cB, .int)] (va_A [(x, .inr (4, [.ref q, .ref q2, .ref hh, .int (zi_n rd), .int (zi_n br)])), (q, .inr (3, [.ref a, .int (zi_n n)])), (q2, .inr (3, [.ref a2, .int (zi_n k)])), (hh, .inr (2, [.ref q])), (a, .inl (cA, 600, .inl (zi_F F))), (a2, .inl (cB, 600, .inl (zi_F G)))] sz) [(x, .inr (4, [.ref q, .ref q2, .ref hh, .int (zi_n rd), .int (zi_n br)])), (q, .inr (3, [.ref a, .int (zi_n n)])), (q2, .inr (3, [.ref a2, .int (zi_n k)])), (hh, .inr (2, [.ref q])), (a, .inl (cA, 600, .inl (zi_F F))), (a2, .inl (cB, 600, .inl (zi_F (zh_stG F G k rd p0 p1))))]) (va_A [(x, .inr (4, [.ref q, .ref q2, .ref hh, .int (zi_n rd), .int (zi_n br)])), (q, .inr (3, [.ref a, .int (zi_n n)])), (q2, .inr (3, [.ref a2, .int (zi_n k)])), (hh, .inr (2, [.ref q])), (a, .inl (cA, 600, .inl (zi_F F))), (a2, .inl (cB, 600, .inl (zi_F G)))] sz)) 0 0 (va_A [(x, .inr (4, [.ref q, .ref q2, .ref hh, .int (zi_n rd), .int (zi_n br)])), (q, .inr (3, [.ref a, .int (zi_n n)])), (q2, .inr (3, [.ref a2, .int (zi_n k)])), (hh, .inr (2, [.ref q])), (a, .inl (cA, 600, .inl (zi_F F))), (a2, .inl (cB, 600, .inl (zi_F G)))] sz) := by
  refine Met.ofW (cc := cX3_store) (maxL := 4) (ret := (some .int)) (by decide) rfl ?_
  intro p e s m args below meth c s₁ B hml hv
  obtain ⟨rfl, hsz, hP, hK, hD0⟩ := hv
  have hx := B.exec
  have hb := B.bytes
  have hr := B.returns
  have hts := atoms_spec (ws := wsX3_store) B.pre
  have hown : s.vm.findClass RX3 = some m.cls := findClass_of_methodNamed B.named
  have hlocks := B.notSynchronized
  subst hsz
  have hD := hD0.self (sz := s.heap.size)
  generalize hAe : va_A [(x, .inr (4, [.ref q, .ref q2, .ref hh, .int (zi_n rd), .int (zi_n br)])), (q, .inr (3, [.ref a, .int (zi_n n)])), (q2, .inr (3, [.ref a2, .int (zi_n k)])), (hh, .inr (2, [.ref q])), (a, .inl (cA, 600, .inl (zi_F F))), (a2, .inl (cB, 600, .inl (zi_F G)))] s.heap.size = A at hD ⊢
  have hA : ∀ q : Nat, s.heap.size ≤ q → A q := fun q h => by rw [← hAe]; exact Or.inr h
  have hS : va_S A s.heap s.heap [] := va_S.rf
  have hP : va_P D vwCl [(x, .inr (4, [.ref q, .ref q2, .ref hh, .int (zi_n rd), .int (zi_n br)])), (q, .inr (3, [.ref a, .int (zi_n n)])), (q2, .inr (3, [.ref a2, .int (zi_n k)])), (hh, .inr (2, [.ref q])), (a, .inl (cA, 600, .inl (zi_F F))), (a2, .inl (cB, 600, .inl (zi_F G)))] s.heap := hP
  have hl := lv_entry ([.ref x, .int (zi_n p0), .int (zi_n p1)]) (n := 4) (Nat.le_of_ble_eq_true rfl)
  rw [lg_entry_eq]
  generalize (lg_sl ([.ref x, .int (zi_n p0), .int (zi_n p1)]) ++ List.replicate (4 - (lg_sl ([.ref x, .int (zi_n p0), .int (zi_n p1)])).length) Slot.unset).toArray = ls at hl ⊢
  have hl : lv_has ls 4 [(0, .ref x), (1, .int (zi_n p0)), (2, .int (zi_n p1))] := hl
  refine lv_aload_n hx hb dX3_store_0 rfl (lv_at hl 0 rfl) ?_
  refine va_get (D := D) (ci := 4) (v := .int (zi_n rd)) (C := RX3) (T := TX3) (N := 5) hx hb hts in_X3_store_X3 hown hK hP 0 rfl rfl 3 (by decide) (hts (.fieldLink RX3 28 "ZHeads" "isRead" "Z") (by decide +kernel)) (fun _ h9 => h9) rfl dX3_store_1 ?_
  refine zr_if_ne (tgt := 10) hx hb dX3_store_4 (by decide) (by omega) (fun c_1 => ?_) (fun c_1 => ?_)
  · have hR1 := hR (by omega)
    refine lv_iload_n hx hb dX3_store_10 rfl (lv_at hl 1 rfl) ?_
    refine zr_bipush hx hb dX3_store_11 (by decide) ?_
    refine zr_icmp_lt (tgt := 27) hx hb dX3_store_13 (by decide) (by omega) (by omega) (fun c_2 => ?_) (fun c_2 => ?_)
    · refine zr_bipush hx hb dX3_store_27 (by decide) ?_
      have e_n_3_0 : zh_stG F G k rd p0 p1 = G := by unfold zh_stG; first | (rw [if_pos (by omega)]; done) | (rw [if_neg (by omega)]; done)
      have hP9 : va_P D vwCl [(x, .inr (4, [.ref q, .ref q2, .ref hh, .int (zi_n rd), .int (zi_n br)])), (q, .inr (3, [.ref a, .int (zi_n n)])), (q2, .inr (3, [.ref a2, .int (zi_n k)])), (hh, .inr (2, [.ref q])), (a, .inl (cA, 600, .inl (zi_F F))), (a2, .inl (cB, 600, .inl (zi_F (zh_stG F G k rd p0 p1))))] s.heap := by rw [e_n_3_0]; exact hP
      have hD9 : va_D A [(x, .inr (4, [.ref q, .ref q2, .ref hh, .int (zi_n rd), .int (zi_n br)])), (q, .inr (3, [.ref a, .int (zi_n n)])), (q2, .inr (3, [.ref a2, .int (zi_n k)])), (hh, .inr (2, [.ref q])), (a, .inl (cA, 600, .inl (zi_F F))), (a2, .inl (cB, 600, .inl (zi_F (zh_stG F G k rd p0 p1))))] := by rw [e_n_3_0]; exact hD
      exact W.iret (v := zi_n (-13)) hx hb hr (fun t ht hW => ⟨⟨zi_n (-13), (), rfl, zl_r (by unfold zh_stE; (repeat' split) <;> omega) (by omega), by rw [ht]; exact hP9, va_K.moved hW.alike hK, hD9⟩, hS.F ht⟩) hS.2.2 dX3_store_29
    · refine lv_iload_n hx hb dX3_store_16 rfl (lv_at hl 1 rfl) ?_
      refine lv_aload_n hx hb dX3_store_17 rfl (lv_at hl 0 rfl) ?_
      refine va_get (D := D) (ci := 4) (v := .ref hh) (C := RX3) (T := TX3) (N := 5) hx hb hts in_X3_store_X3 hown hK hP 0 rfl rfl 2 (by decide) (hts (.fieldLink RX3 24 "ZHeads" "head" "LZHeads$Head;") (by decide +kernel)) (fun _ h9 => h9) rfl dX3_store_18 ?_
      refine zc_V (As := []) (rest := [.int (zi_n p0)]) ⟨hx, hb, hml, hown, hts⟩ (c_Hd_staticFrom l D hh q a cA F n hF (by omega) (by omega)) (cwV 0 hts gX3_store_X0_staticFrom rfl rfl rfl (by decide +kernel) ⟨(Nat.le_of_ble_eq_true rfl), (Nat.le_of_ble_eq_true rfl)⟩) hP hK [3, 1, 4] [0] rfl rfl (ci := 2) rfl rfl rfl rfl hl.1 rfl (Nat.le_of_ble_eq_true rfl) dX3_store_21 ⟨Nat.zero_le _, Nat.zero_le _⟩ (fun r hr1 => ?_)
      obtain ⟨rfl, b_4⟩ := hr1
      refine zr_icmp_lt (tgt := 30) hx hb dX3_store_24 (by decide) (by omega) (by omega) (fun c_5 => ?_) (fun c_5 => ?_)
      · refine lv_aload_n hx hb dX3_store_30 rfl (lv_at hl 0 rfl) ?_
        refine va_get (D := D) (ci := 4) (v := .ref q2) (C := RX3) (T := TX3) (N := 5) hx hb hts in_X3_store_X3 hown hK hP 0 rfl rfl 1 (by decide) (hts (.fieldLink RX3 16 "ZHeads" "memory" "LZHeads$Row;") (by decide +kernel)) (fun _ h9 => h9) rfl dX3_store_31 ?_
        refine lv_iload_n hx hb dX3_store_34 rfl (lv_at hl 1 rfl) ?_
        refine zc_V (As := [.int (zi_n p0)]) (rest := []) ⟨hx, hb, hml, hown, hts⟩ (c_Row_at l D q2 a2 cB G k hG (by omega) p0 (by omega)) (cwV 1 hts gX3_store_X2_at rfl rfl rfl (by decide +kernel) ⟨(Nat.le_of_ble_eq_true rfl), (Nat.le_of_ble_eq_true rfl)⟩) hP hK [2, 5] [1] rfl rfl (ci := 3) rfl rfl rfl rfl hl.1 rfl (Nat.le_of_ble_eq_true rfl) dX3_store_35 ⟨Nat.zero_le _, Nat.zero_le _⟩ (fun r hr1 => ?_)
        obtain ⟨rfl, b_6⟩ := hr1
        refine lv_istore_n (lv' := [(3, .int (zi_n (zh_at G k p0))), (0, .ref x), (1, .int (zi_n p0)), (2, .int (zi_n p1))]) hx hb dX3_store_38 rfl hl (by decide) rfl (fun ls hl => ?_)
        refine lv_aload_n hx hb dX3_store_39 rfl (lv_at hl 1 rfl) ?_
        refine va_get (D := D) (ci := 4) (v := .ref q2) (C := RX3) (T := TX3) (N := 5) hx hb hts in_X3_store_X3 hown hK hP 0 rfl rfl 1 (by decide) (hts (.fieldLink RX3 16 "ZHeads" "memory" "LZHeads$Row;") (by decide +kernel)) (fun _ h9 => h9) rfl dX3_store_40 ?_
        refine lv_iload_n hx hb dX3_store_43 rfl (lv_at hl 2 rfl) ?_
        refine lv_iload_n hx hb dX3_store_44 rfl (lv_at hl 3 rfl) ?_
        refine zc_Vv (As := [.int (zi_n p0), .int (zi_n p1)]) (rest := []) (wr := [(x, .inr (4, [.ref q, .ref q2, .ref hh, .int (zi_n rd), .int (zi_n br)])), (q, .inr (3, [.ref a, .int (zi_n n)])), (hh, .inr (2, [.ref q])), (a, .inl (cA, 600, .inl (zi_F F)))]) (wf := fun (_ : Unit) => [(x, .inr (4, [.ref q, .ref q2, .ref hh, .int (zi_n rd), .int (zi_n br)])), (q, .inr (3, [.ref a, .int (zi_n n)])), (q2, .inr (3, [.ref a2, .int (zi_n k)])), (hh, .inr (2, [.ref q])), (a, .inl (cA, 600, .inl (zi_F F))), (a2, .inl (cB, 600, .inl (zi_F (zh_put G k p0 p1))))]) ⟨hx, hb, hml, hown, hts⟩ (c_Row_put l D q2 a2 cB G k hG (by omega) _ p0 p1 (by omega) (by omega)) (cwV 2 hts gX3_store_X2_put rfl rfl rfl (by decide +kernel) ⟨(Nat.le_of_ble_eq_true rfl), (Nat.le_of_ble_eq_true rfl)⟩) hP hD hK hS hA [2, 5] [0, 1, 3, 4] [1] [0, 1, 4, 2, 3, 5] rfl rfl (by decide) rfl (by decide) (by decide) rfl (fun _ => rfl) (fun _ => rfl) (by decide) (ci := 3) rfl rfl rfl rfl hl.1 rfl (Nat.le_of_ble_eq_true rfl) dX3_store_45 ⟨Nat.zero_le _, Nat.zero_le _⟩ (fun _ hr1 H locs hP hD hS => ?_)
        have hF_7 : zi_By (zh_put G k p0 p1) := zh_put_By hG _ _ _
        have hP : va_P D vwCl [(x, .inr (4, [.ref q, .ref q2, .ref hh, .int (zi_n rd), .int (zi_n br)])), (q, .inr (3, [.ref a, .int (zi_n n)])), (q2, .inr (3, [.ref a2, .int (zi_n k)])), (hh, .inr (2, [.ref q])), (a, .inl (cA, 600, .inl (zi_F F))), (a2, .inl (cB, 600, .inl (zi_F (zh_put G k p0 p1))))] H := hP
        have hD : va_D A [(x, .inr (4, [.ref q, .ref q2, .ref hh, .int (zi_n rd), .int (zi_n br)])), (q, .inr (3, [.ref a, .int (zi_n n)])), (q2, .inr (3, [.ref a2, .int (zi_n k)])), (hh, .inr (2, [.ref q])), (a, .inl (cA, 600, .inl (zi_F F))), (a2, .inl (cB, 600, .inl (zi_F (zh_put G k p0 p1))))] := hD
        refine lv_iload_n hx hb dX3_store_48 rfl (lv_at hl 0 rfl) ?_
        have e_n_8_0 : zh_stG F G k rd p0 p1 = zh_put G k p0 p1 := by unfold zh_stG; first | (rw [if_pos (by omega)]; done) | (rw [if_neg (by omega)]; done)
        have hP9 : va_P D vwCl [(x, .inr (4, [.ref q, .ref q2, .ref hh, .int (zi_n rd), .int (zi_n br)])), (q, .inr (3, [.ref a, .int (zi_n n)])), (q2, .inr (3, [.ref a2, .int (zi_n k)])), (hh, .inr (2, [.ref q])), (a, .inl (cA, 600, .inl (zi_F F))), (a2, .inl (cB, 600, .inl (zi_F (zh_stG F G k rd p0 p1))))] H := by rw [e_n_8_0]; exact hP
        have hD9 : va_D A [(x, .inr (4, [.ref q, .ref q2, .ref hh, .int (zi_n rd), .int (zi_n br)])), (q, .inr (3, [.ref a, .int (zi_n n)])), (q2, .inr (3, [.ref a2, .int (zi_n k)])), (hh, .inr (2, [.ref q])), (a, .inl (cA, 600, .inl (zi_F F))), (a2, .inl (cB, 600, .inl (zi_F (zh_stG F G k rd p0 p1))))] := by rw [e_n_8_0]; exact hD
        exact W.iret (v := zi_n (zh_at G k p0)) hx hb hr (fun t ht hW => ⟨⟨zi_n (zh_at G k p0), (), rfl, zl_r (by unfold zh_stE; (repeat' split) <;> omega) (by omega), by rw [ht]; exact hP9, va_K.moved hW.alike hK, hD9⟩, hS.F ht⟩) hS.2.2 dX3_store_49
      · refine zr_bipush hx hb dX3_store_27 (by decide) ?_
        have e_n_9_0 : zh_stG F G k rd p0 p1 = G := by unfold zh_stG; first | (rw [if_pos (by omega)]; done) | (rw [if_neg (by omega)]; done)
        have hP9 : va_P D vwCl [(x, .inr (4, [.ref q, .ref q2, .ref hh, .int (zi_n rd), .int (zi_n br)])), (q, .inr (3, [.ref a, .int (zi_n n)])), (q2, .inr (3, [.ref a2, .int (zi_n k)])), (hh, .inr (2, [.ref q])), (a, .inl (cA, 600, .inl (zi_F F))), (a2, .inl (cB, 600, .inl (zi_F (zh_stG F G k rd p0 p1))))] s.heap := by rw [e_n_9_0]; exact hP
        have hD9 : va_D A [(x, .inr (4, [.ref q, .ref q2, .ref hh, .int (zi_n rd), .int (zi_n br)])), (q, .inr (3, [.ref a, .int (zi_n n)])), (q2, .inr (3, [.ref a2, .int (zi_n k)])), (hh, .inr (2, [.ref q])), (a, .inl (cA, 600, .inl (zi_F F))), (a2, .inl (cB, 600, .inl (zi_F (zh_stG F G k rd p0 p1))))] := by rw [e_n_9_0]; exact hD
        exact W.iret (v := zi_n (-13)) hx hb hr (fun t ht hW => ⟨⟨zi_n (-13), (), rfl, zl_r (by unfold zh_stE; (repeat' split) <;> omega) (by omega), by rw [ht]; exact hP9, va_K.moved hW.alike hK, hD9⟩, hS.F ht⟩) hS.2.2 dX3_store_29
  · refine zr_bipush hx hb dX3_store_7 (by decide) ?_
    have e_n_10_0 : zh_stG F G k rd p0 p1 = G := by unfold zh_stG; first | (rw [if_pos (by omega)]; done) | (rw [if_neg (by omega)]; done)
    have hP9 : va_P D vwCl [(x, .inr (4, [.ref q, .ref q2, .ref hh, .int (zi_n rd), .int (zi_n br)])), (q, .inr (3, [.ref a, .int (zi_n n)])), (q2, .inr (3, [.ref a2, .int (zi_n k)])), (hh, .inr (2, [.ref q])), (a, .inl (cA, 600, .inl (zi_F F))), (a2, .inl (cB, 600, .inl (zi_F (zh_stG F G k rd p0 p1))))] s.heap := by rw [e_n_10_0]; exact hP
    have hD9 : va_D A [(x, .inr (4, [.ref q, .ref q2, .ref hh, .int (zi_n rd), .int (zi_n br)])), (q, .inr (3, [.ref a, .int (zi_n n)])), (q2, .inr (3, [.ref a2, .int (zi_n k)])), (hh, .inr (2, [.ref q])), (a, .inl (cA, 600, .inl (zi_F F))), (a2, .inl (cB, 600, .inl (zi_F (zh_stG F G k rd p0 p1))))] := by rw [e_n_10_0]; exact hD
    exact W.iret (v := zi_n (-11)) hx hb hr (fun t ht hW => ⟨⟨zi_n (-11), (), rfl, zl_r (by unfold zh_stE; (repeat' split) <;> omega) (by omega), by rw [ht]; exact hP9, va_K.moved hW.alike hK, hD9⟩, hS.F ht⟩) hS.2.2 dX3_store_9

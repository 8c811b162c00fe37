theorem in_X4_serial_X4 : ∀ w ∈ u_ws RX4 TX4 9, w ∈ wsX4_serial := by decide +kernel
set_option maxHeartbeats 4000000 in
set_option maxRecDepth 100000 in
theorem c_M_serial (l : Launch) (D : va_G) (x a a2 a3 : Nat) (cA cB cC : ClassId) (F P G : Nat → Int) (n rd br v ln ft : Int) (hF : zi_By F) (hn : 0 ≤ n ∧ n ≤ 600) (hP0 : zi_By P) (hG : zi_By G) (hrd : rd = 0 ∨ rd = 1) (hbr : 0 ≤ br ∧ br ≤ 15) (hv0 : 0 ≤ v ∧ v ≤ 255) (hln : 0 ≤ ln ∧ ln ≤ 524280) (hft : 0 ≤ ft ∧ ft ≤ 1) (sz : Nat) (p0 : Int) (hR : rd = 1 → 64 ≤ n ∧ v = F 0 ∧ ln = zh_len F n ∧ (1 ≤ F 0 ∧ F 0 ≤ 8) ∧ (64 ≤ ln ∧ ln ≤ n) ∧ (64 ≤ zh_t F 14 ∧ zh_t F 14 ≤ ln) ∧ (64 ≤ zh_t F 12 ∧ zh_t F 12 + 480 ≤ zh_t F 14) ∧ (64 ≤ zh_t F 8 ∧ zh_t F 8 + F (zh_t F 8).toNat + 3 < n)) (rp0 : zi_R p0) : Met l yX4_serial wsX4_serial ({ frames := 1, cells := 0, slots := 0, locals := 22 }) (va_Pc [.ref x, .int (zi_n p0)] (zp_P D vwCl sz [(x, .inr (5, [.int (zi_n ft), .ref a, .int (zi_n n), .int (zi_n rd), .int (zi_n br), .ref a2, .ref a3, .int (zi_n v), .int (zi_n ln)])), (a, .inl (cA, 600, .inl (zi_F F))), (a2, .inl (cB, 600, .inl (zi_F P))), (a3, .inl (cC, 600, .inl (zi_F G)))] [(cA, .int), (cB, .int), (cC, .int)])) (va_Qi (fun (r : Int32) (_ : Unit) => r = zi_n (zh_qser P rd p0) ∧ -11 ≤ (zh_qser P rd p0) ∧ (zh_qser P rd p0) ≤ 255) (fun (_ : Unit) => zp_B D vwCl [(cA, .int), (cB, .int), (cC, .int)] (va_A [(x, .inr (5, [.int (zi_n ft), .ref a, .int (zi_n n), .int (zi_n rd), .int (zi_n br), .ref a2, .ref a3, .int (zi_n v), .int (zi_n ln)])), (a, .inl (cA, 600, .inl (zi_F F))), (a2, .inl (cB, 600, .inl (zi_F P))), (a3, .inl (cC, 600, .inl (zi_F G)))] sz) [(x, .inr (5, [.int (zi_n (zh_qserT rd p0)), .ref a, .int (zi_n n), .int (zi_n rd), .int (zi_n br), .ref a2, .ref a3, .int (zi_n v), .int (zi_n ln)])), (a, .inl (cA, 600, .inl (zi_F F))), (a2, .inl (cB, 600, .inl (zi_F P))), (a3, .inl (cC, 600, .inl (zi_F G)))]) (va_A [(x, .inr (5, [.int (zi_n ft), .ref a, .int (zi_n n), .int (zi_n rd), .int (zi_n br), .ref a2, .ref a3, .int (zi_n v), .int (zi_n ln)])), (a, .inl (cA, 600, .inl (zi_F F))), (a2, .inl (cB, 600, .inl (zi_F P))), (a3, .inl (cC, 600, .inl (zi_F G)))] sz)) 0 0 (va_A [(x, .inr (5, [.int (zi_n ft), .ref a, .int (zi_n n), .int (zi_n rd), .int (zi_n br), .ref a2, .ref a3, .int (zi_n v), .int (zi_n ln)])), (a, .inl (cA, 600, .inl (zi_F F))), (a2, .inl (cB, 600, .inl (zi_F P))), (a3, .inl (cC, 600, .inl (zi_F G)))] sz) := by
  refine Met.ofW (cc := cX4_serial) (maxL := 2) (ret := (some .int)) (by decide) rfl ?_
  intro p e s m args below meth c s₁ B hml hv
  obtain ⟨rfl, hsz, hP, hK, hD0⟩ := hv
  have hx := B.exec
  have hb := B.bytes
  have hr := B.returns
  have hts := atoms_spec (ws := wsX4_serial) B.pre
  have hown : s.vm.findClass RX4 = some m.cls := findClass_of_methodNamed B.named
  have hlocks := B.notSynchronized
  subst hsz
  have hD := hD0.self (sz := s.heap.size)
  generalize hAe : va_A [(x, .inr (5, [.int (zi_n ft), .ref a, .int (zi_n n), .int (zi_n rd), .int (zi_n br), .ref a2, .ref a3, .int (zi_n v), .int (zi_n ln)])), (a, .inl (cA, 600, .inl (zi_F F))), (a2, .inl (cB, 600, .inl (zi_F P))), (a3, .inl (cC, 600, .inl (zi_F G)))] s.heap.size = A at hD ⊢
  have hA : ∀ q : Nat, s.heap.size ≤ q → A q := fun q h => by rw [← hAe]; exact Or.inr h
  have hS : va_S A s.heap s.heap [] := va_S.rf
  have hP : va_P D vwCl [(x, .inr (5, [.int (zi_n ft), .ref a, .int (zi_n n), .int (zi_n rd), .int (zi_n br), .ref a2, .ref a3, .int (zi_n v), .int (zi_n ln)])), (a, .inl (cA, 600, .inl (zi_F F))), (a2, .inl (cB, 600, .inl (zi_F P))), (a3, .inl (cC, 600, .inl (zi_F G)))] s.heap := hP
  have hl := lv_entry ([.ref x, .int (zi_n p0)]) (n := 2) (Nat.le_of_ble_eq_true rfl)
  rw [lg_entry_eq]
  generalize (lg_sl ([.ref x, .int (zi_n p0)]) ++ List.replicate (2 - (lg_sl ([.ref x, .int (zi_n p0)])).length) Slot.unset).toArray = ls at hl ⊢
  have hl : lv_has ls 2 [(0, .ref x), (1, .int (zi_n p0))] := hl
  refine lv_aload_n hx hb dX4_serial_0 rfl (lv_at hl 0 rfl) ?_
  refine zr_iconst hx hb dX4_serial_1 ?_
  refine va_put (D := D) (ci := 5) (v := .int (zi_n 0)) (ty := .int) (C := RX4) (T := TX4) (N := 9) hx hb hts in_X4_serial_X4 tyX4 tyX4_ok nmX4 hown hK hP hD hS 0 rfl rfl 0 (by decide) (hts (.fieldLink RX4 19 "ZHeadsModel" "fault" "I") (by decide +kernel)) (fun _ h9 => h9) rfl (by decide +kernel) rfl rfl (Nat.le_of_ble_eq_true rfl) dX4_serial_2 (fun H locs hP hD hS => ?_)
  have hP : va_P D vwCl [(x, .inr (5, [.int (zi_n 0), .ref a, .int (zi_n n), .int (zi_n rd), .int (zi_n br), .ref a2, .ref a3, .int (zi_n v), .int (zi_n ln)])), (a, .inl (cA, 600, .inl (zi_F F))), (a2, .inl (cB, 600, .inl (zi_F P))), (a3, .inl (cC, 600, .inl (zi_F G)))] H := hP
  have hD : va_D A [(x, .inr (5, [.int (zi_n 0), .ref a, .int (zi_n n), .int (zi_n rd), .int (zi_n br), .ref a2, .ref a3, .int (zi_n v), .int (zi_n ln)])), (a, .inl (cA, 600, .inl (zi_F F))), (a2, .inl (cB, 600, .inl (zi_F P))), (a3, .inl (cC, 600, .inl (zi_F G)))] := hD
  refine lv_aload_n hx hb dX4_serial_5 rfl (lv_at hl 0 rfl) ?_
  refine va_get (D := D) (ci := 5) (v := .int (zi_n rd)) (C := RX4) (T := TX4) (N := 9) hx hb hts in_X4_serial_X4 hown hK hP 0 rfl rfl 3 (by decide) (hts (.fieldLink RX4 36 "ZHeadsModel" "isRead" "Z") (by decide +kernel)) (fun _ h9 => h9) rfl dX4_serial_6 ?_
  refine zr_if_ne (tgt := 15) hx hb dX4_serial_9 (by decide) (by omega) (fun c_1 => ?_) (fun c_1 => ?_)
  · have hR1 := hR (by omega)
    refine lv_iload_n hx hb dX4_serial_15 rfl (lv_at hl 1 rfl) ?_
    refine zr_iconst hx hb dX4_serial_16 ?_
    refine zr_iconst hx hb dX4_serial_17 ?_
    refine zc_S (As := [.int (zi_n p0), .int (zi_n 0), .int (zi_n 5)]) (rest := []) ⟨hx, hb, hml, hown, hts⟩ (c_M_in l p0 0 5 (by omega) (by omega) (by omega)) (va_cwS 3 hts gX4_serial_X4_in rfl rfl rfl (by decide +kernel) ⟨(Nat.le_of_ble_eq_true rfl), (Nat.le_of_ble_eq_true rfl)⟩) rfl hl.1 rfl (Nat.le_of_ble_eq_true rfl) dX4_serial_18 ⟨Nat.zero_le _, Nat.zero_le _⟩ (fun r hr1 => ?_)
    rcases hr1 with ⟨rfl, c_2⟩ | ⟨rfl, c_2⟩
    · refine zr_if_eq (tgt := 36) hx hb dX4_serial_21 (by decide) (by omega) (fun c => absurd c (by decide)) (fun c_3 => ?_)
      refine lv_aload_n hx hb dX4_serial_24 rfl (lv_at hl 0 rfl) ?_
      refine va_get (D := D) (ci := 5) (v := .ref a2) (C := RX4) (T := TX4) (N := 9) hx hb hts in_X4_serial_X4 hown hK hP 0 rfl rfl 5 (by decide) (hts (.fieldLink RX4 13 "ZHeadsModel" "read" "[I") (by decide +kernel)) (fun _ h9 => h9) rfl dX4_serial_25 ?_
      refine zr_bipush hx hb dX4_serial_28 (by decide) ?_
      refine lv_iload_n hx hb dX4_serial_30 rfl (lv_at hl 1 rfl) ?_
      refine zr_iadd hx hb dX4_serial_31 ?_
      refine zr_iald hx hb hK hP 2 1 rfl rfl (by decide) (by omega) dX4_serial_32 ?_
      have b_4 := hP0 (18 + p0).toNat
      refine lv_goto (tgt := 40) hx hb dX4_serial_33 (by decide) ?_
      have e_n_5_0 : zh_qserT rd p0 = 0 := by unfold zh_qserT; first | (exfalso; omega; done) | (rw [if_pos (by omega)]; done) | (rw [if_neg (by omega)]; done) | (rw [if_neg (by omega), if_pos (by omega)]; done) | (rw [if_neg (by omega), if_neg (by omega)]; done)
      have hP9 : va_P D vwCl [(x, .inr (5, [.int (zi_n (zh_qserT rd p0)), .ref a, .int (zi_n n), .int (zi_n rd), .int (zi_n br), .ref a2, .ref a3, .int (zi_n v), .int (zi_n ln)])), (a, .inl (cA, 600, .inl (zi_F F))), (a2, .inl (cB, 600, .inl (zi_F P))), (a3, .inl (cC, 600, .inl (zi_F G)))] H := by rw [e_n_5_0]; exact hP
      have hD9 : va_D A [(x, .inr (5, [.int (zi_n (zh_qserT rd p0)), .ref a, .int (zi_n n), .int (zi_n rd), .int (zi_n br), .ref a2, .ref a3, .int (zi_n v), .int (zi_n ln)])), (a, .inl (cA, 600, .inl (zi_F F))), (a2, .inl (cB, 600, .inl (zi_F P))), (a3, .inl (cC, 600, .inl (zi_F G)))] := by rw [e_n_5_0]; exact hD
      exact W.iret (v := zi_n (P (18 + p0).toNat)) hx hb hr (fun t ht hW => ⟨⟨zi_n (P (18 + p0).toNat), (), rfl, zl_r (by unfold zh_qser; first | (exfalso; omega; done) | (rw [if_pos (by omega)]; done) | (rw [if_neg (by omega)]; done) | (rw [if_neg (by omega), if_pos (by omega)]; done) | (rw [if_neg (by omega), if_neg (by omega)]; done)) (by omega), by rw [ht]; exact hP9, va_K.moved hW.alike hK, hD9⟩, hS.F ht⟩) hS.2.2 dX4_serial_40
    · refine zr_if_eq (tgt := 36) hx hb dX4_serial_21 (by decide) (by omega) (fun c_6 => ?_) (fun c => absurd c (by decide))
      refine lv_aload_n hx hb dX4_serial_36 rfl (lv_at hl 0 rfl) ?_
      refine zc_Vi (As := []) (rest := []) (wr := []) (wf := fun (_ : Unit) => [(x, .inr (5, [.int (zi_n 1), .ref a, .int (zi_n n), .int (zi_n rd), .int (zi_n br), .ref a2, .ref a3, .int (zi_n v), .int (zi_n ln)])), (a, .inl (cA, 600, .inl (zi_F F))), (a2, .inl (cB, 600, .inl (zi_F P))), (a3, .inl (cC, 600, .inl (zi_F G)))]) ⟨hx, hb, hml, hown, hts⟩ (c_M_thrownAt l D x a a2 a3 cA cB cC F P G n rd br v ln 0 hF (by omega) hP0 hG (by omega) (by omega) (by omega) (by omega) (by omega) _) (cwV 0 hts gX4_serial_X4_thrownAt rfl rfl rfl (by decide +kernel) ⟨(Nat.le_of_ble_eq_true rfl), (Nat.le_of_ble_eq_true rfl)⟩) hP hD hK hS hA [0, 1, 2, 3] [] [0, 1, 2] [0, 1, 2, 3] rfl rfl (by decide) rfl (by decide) (by decide) rfl (fun _ => rfl) (fun _ => rfl) (by decide) (ci := 5) rfl rfl rfl rfl hl.1 rfl (Nat.le_of_ble_eq_true rfl) dX4_serial_37 ⟨Nat.zero_le _, Nat.zero_le _⟩ (fun r _ hr1 H locs hP hD hS => ?_)
      have hP : va_P D vwCl [(x, .inr (5, [.int (zi_n 1), .ref a, .int (zi_n n), .int (zi_n rd), .int (zi_n br), .ref a2, .ref a3, .int (zi_n v), .int (zi_n ln)])), (a, .inl (cA, 600, .inl (zi_F F))), (a2, .inl (cB, 600, .inl (zi_F P))), (a3, .inl (cC, 600, .inl (zi_F G)))] H := hP
      have hD : va_D A [(x, .inr (5, [.int (zi_n 1), .ref a, .int (zi_n n), .int (zi_n rd), .int (zi_n br), .ref a2, .ref a3, .int (zi_n v), .int (zi_n ln)])), (a, .inl (cA, 600, .inl (zi_F F))), (a2, .inl (cB, 600, .inl (zi_F P))), (a3, .inl (cC, 600, .inl (zi_F G)))] := hD
      obtain ⟨rfl, b_7⟩ := hr1
      have e_n_8_0 : zh_qserT rd p0 = 1 := by unfold zh_qserT; first | (exfalso; omega; done) | (rw [if_pos (by omega)]; done) | (rw [if_neg (by omega)]; done) | (rw [if_neg (by omega), if_pos (by omega)]; done) | (rw [if_neg (by omega), if_neg (by omega)]; done)
      have hP9 : va_P D vwCl [(x, .inr (5, [.int (zi_n (zh_qserT rd p0)), .ref a, .int (zi_n n), .int (zi_n rd), .int (zi_n br), .ref a2, .ref a3, .int (zi_n v), .int (zi_n ln)])), (a, .inl (cA, 600, .inl (zi_F F))), (a2, .inl (cB, 600, .inl (zi_F P))), (a3, .inl (cC, 600, .inl (zi_F G)))] H := by rw [e_n_8_0]; exact hP
      have hD9 : va_D A [(x, .inr (5, [.int (zi_n (zh_qserT rd p0)), .ref a, .int (zi_n n), .int (zi_n rd), .int (zi_n br), .ref a2, .ref a3, .int (zi_n v), .int (zi_n ln)])), (a, .inl (cA, 600, .inl (zi_F F))), (a2, .inl (cB, 600, .inl (zi_F P))), (a3, .inl (cC, 600, .inl (zi_F G)))] := by rw [e_n_8_0]; exact hD
      exact W.iret (v := zi_n 0) hx hb hr (fun t ht hW => ⟨⟨zi_n 0, (), rfl, zl_r (by unfold zh_qser; first | (exfalso; omega; done) | (rw [if_pos (by omega)]; done) | (rw [if_neg (by omega)]; done) | (rw [if_neg (by omega), if_pos (by omega)]; done) | (rw [if_neg (by omega), if_neg (by omega)]; done)) (by omega), by rw [ht]; exact hP9, va_K.moved hW.alike hK, hD9⟩, hS.F ht⟩) hS.2.2 dX4_serial_40
  · refine zr_bipush hx hb dX4_serial_12 (by decide) ?_
    have e_n_9_0 : zh_qserT rd p0 = 0 := by unfold zh_qserT; first | (exfalso; omega; done) | (rw [if_pos (by omega)]; done) | (rw [if_neg (by omega)]; done) | (rw [if_neg (by omega), if_pos (by omega)]; done) | (rw [if_neg (by omega), if_neg (by omega)]; done)
    have hP9 : va_P D vwCl [(x, .inr (5, [.int (zi_n (zh_qserT rd p0)), .ref a, .int (zi_n n), .int (zi_n rd), .int (zi_n br), .ref a2, .ref a3, .int (zi_n v), .int (zi_n ln)])), (a, .inl (cA, 600, .inl (zi_F F))), (a2, .inl (cB, 600, .inl (zi_F P))), (a3, .inl (cC, 600, .inl (zi_F G)))] H := by rw [e_n_9_0]; exact hP
    have hD9 : va_D A [(x, .inr (5, [.int (zi_n (zh_qserT rd p0)), .ref a, .int (zi_n n), .int (zi_n rd), .int (zi_n br), .ref a2, .ref a3, .int (zi_n v), .int (zi_n ln)])), (a, .inl (cA, 600, .inl (zi_F F))), (a2, .inl (cB, 600, .inl (zi_F P))), (a3, .inl (cC, 600, .inl (zi_F G)))] := by rw [e_n_9_0]; exact hD
    exact W.iret (v := zi_n (-11)) hx hb hr (fun t ht hW => ⟨⟨zi_n (-11), (), rfl, zl_r (by unfold zh_qser; first | (exfalso; omega; done) | (rw [if_pos (by omega)]; done) | (rw [if_neg (by omega)]; done) | (rw [if_neg (by omega), if_pos (by omega)]; done) | (rw [if_neg (by omega), if_neg (by omega)]; done)) (by omega), by rw [ht]; exact hP9, va_K.moved hW.alike hK, hD9⟩, hS.F ht⟩) hS.2.2 dX4_serial_14

theorem in_X4_global_X4 : ∀ w ∈ u_ws RX4 TX4 9, w ∈ wsX4_global := by decide +kernel
set_option maxHeartbeats 4000000 in
set_option maxRecDepth 100000 in
theorem c_M_global (l : Launch) (D : va_G) (x a a2 a3 : Nat) (cA cB cC : ClassId) (F P G : Nat → Int) (n rd br v ln ft : Int) (hF : zi_By F) (hn : 0 ≤ n ∧ n ≤ 600) (hP0 : zi_By P) (hG : zi_By G) (hrd : rd = 0 ∨ rd = 1) (hbr : 0 ≤ br ∧ br ≤ 15) (hv0 : 0 ≤ v ∧ v ≤ 255) (hln : 0 ≤ ln ∧ ln ≤ 524280) (hft : 0 ≤ ft ∧ ft ≤ 1) (sz : Nat) (p0 : Int) (hR : rd = 1 → 64 ≤ n ∧ v = F 0 ∧ ln = zh_len F n ∧ (1 ≤ F 0 ∧ F 0 ≤ 8) ∧ (64 ≤ ln ∧ ln ≤ n) ∧ (64 ≤ zh_t F 14 ∧ zh_t F 14 ≤ ln) ∧ (64 ≤ zh_t F 12 ∧ zh_t F 12 + 480 ≤ zh_t F 14) ∧ (64 ≤ zh_t F 8 ∧ zh_t F 8 + F (zh_t F 8).toNat + 3 < n)) (rp0 : zi_R p0) : Met l yX4_global wsX4_global ({ frames := 1, cells := 0, slots := 0, locals := 22 }) (va_Pc [.ref x, .int (zi_n p0)] (zp_P D vwCl sz [(x, .inr (5, [.int (zi_n ft), .ref a, .int (zi_n n), .int (zi_n rd), .int (zi_n br), .ref a2, .ref a3, .int (zi_n v), .int (zi_n ln)])), (a, .inl (cA, 600, .inl (zi_F F))), (a2, .inl (cB, 600, .inl (zi_F P))), (a3, .inl (cC, 600, .inl (zi_F G)))] [(cA, .int), (cB, .int), (cC, .int)])) (va_Qi (fun (r : Int32) (_ : Unit) => r = zi_n (zh_qglo F G rd p0) ∧ -32768 ≤ (zh_qglo F G rd p0) ∧ (zh_qglo F G rd p0) ≤ 32767) (fun (_ : Unit) => zp_B D vwCl [(cA, .int), (cB, .int), (cC, .int)] (va_A [(x, .inr (5, [.int (zi_n ft), .ref a, .int (zi_n n), .int (zi_n rd), .int (zi_n br), .ref a2, .ref a3, .int (zi_n v), .int (zi_n ln)])), (a, .inl (cA, 600, .inl (zi_F F))), (a2, .inl (cB, 600, .inl (zi_F P))), (a3, .inl (cC, 600, .inl (zi_F G)))] sz) [(x, .inr (5, [.int (zi_n (zh_qgloT rd p0)), .ref a, .int (zi_n n), .int (zi_n rd), .int (zi_n br), .ref a2, .ref a3, .int (zi_n v), .int (zi_n ln)])), (a, .inl (cA, 600, .inl (zi_F F))), (a2, .inl (cB, 600, .inl (zi_F P))), (a3, .inl (cC, 600, .inl (zi_F G)))]) (va_A [(x, .inr (5, [.int (zi_n ft), .ref a, .int (zi_n n), .int (zi_n rd), .int (zi_n br), .ref a2, .ref a3, .int (zi_n v), .int (zi_n ln)])), (a, .inl (cA, 600, .inl (zi_F F))), (a2, .inl (cB, 600, .inl (zi_F P))), (a3, .inl (cC, 600, .inl (zi_F G)))] sz)) 0 0 (va_A [(x, .inr (5, [.int (zi_n ft), .ref a, .int (zi_n n), .int (zi_n rd), .int (zi_n br), .ref a2, .ref a3, .int (zi_n v), .int (zi_n ln)])), (a, .inl (cA, 600, .inl (zi_F F))), (a2, .inl (cB, 600, .inl (zi_F P))), (a3, .inl (cC, 600, .inl (zi_F G)))] sz) := by
  refine Met.ofW (cc := cX4_global) (maxL := 3) (ret := (some .int)) (by decide) rfl ?_
  intro p e s m args below meth c s₁ B hml hv
  obtain ⟨rfl, hsz, hP, hK, hD0⟩ := hv
  have hx := B.exec
  have hb := B.bytes
  have hr := B.returns
  have hts := atoms_spec (ws := wsX4_global) B.pre
  have hown : s.vm.findClass RX4 = some m.cls := findClass_of_methodNamed B.named
  have hlocks := B.notSynchronized
  subst hsz
  have hD := hD0.self (sz := s.heap.size)
  generalize hAe : va_A [(x, .inr (5, [.int (zi_n ft), .ref a, .int (zi_n n), .int (zi_n rd), .int (zi_n br), .ref a2, .ref a3, .int (zi_n v), .int (zi_n ln)])), (a, .inl (cA, 600, .inl (zi_F F))), (a2, .inl (cB, 600, .inl (zi_F P))), (a3, .inl (cC, 600, .inl (zi_F G)))] s.heap.size = A at hD ⊢
  have hA : ∀ q : Nat, s.heap.size ≤ q → A q := fun q h => by rw [← hAe]; exact Or.inr h
  have hS : va_S A s.heap s.heap [] := va_S.rf
  have hP : va_P D vwCl [(x, .inr (5, [.int (zi_n ft), .ref a, .int (zi_n n), .int (zi_n rd), .int (zi_n br), .ref a2, .ref a3, .int (zi_n v), .int (zi_n ln)])), (a, .inl (cA, 600, .inl (zi_F F))), (a2, .inl (cB, 600, .inl (zi_F P))), (a3, .inl (cC, 600, .inl (zi_F G)))] s.heap := hP
  have hl := lv_entry ([.ref x, .int (zi_n p0)]) (n := 3) (Nat.le_of_ble_eq_true rfl)
  rw [lg_entry_eq]
  generalize (lg_sl ([.ref x, .int (zi_n p0)]) ++ List.replicate (3 - (lg_sl ([.ref x, .int (zi_n p0)])).length) Slot.unset).toArray = ls at hl ⊢
  have hl : lv_has ls 3 [(0, .ref x), (1, .int (zi_n p0))] := hl
  refine lv_aload_n hx hb dX4_global_0 rfl (lv_at hl 0 rfl) ?_
  refine zr_iconst hx hb dX4_global_1 ?_
  refine va_put (D := D) (ci := 5) (v := .int (zi_n 0)) (ty := .int) (C := RX4) (T := TX4) (N := 9) hx hb hts in_X4_global_X4 tyX4 tyX4_ok nmX4 hown hK hP hD hS 0 rfl rfl 0 (by decide) (hts (.fieldLink RX4 19 "ZHeadsModel" "fault" "I") (by decide +kernel)) (fun _ h9 => h9) rfl (by decide +kernel) rfl rfl (Nat.le_of_ble_eq_true rfl) dX4_global_2 (fun H locs hP hD hS => ?_)
  have hP : va_P D vwCl [(x, .inr (5, [.int (zi_n 0), .ref a, .int (zi_n n), .int (zi_n rd), .int (zi_n br), .ref a2, .ref a3, .int (zi_n v), .int (zi_n ln)])), (a, .inl (cA, 600, .inl (zi_F F))), (a2, .inl (cB, 600, .inl (zi_F P))), (a3, .inl (cC, 600, .inl (zi_F G)))] H := hP
  have hD : va_D A [(x, .inr (5, [.int (zi_n 0), .ref a, .int (zi_n n), .int (zi_n rd), .int (zi_n br), .ref a2, .ref a3, .int (zi_n v), .int (zi_n ln)])), (a, .inl (cA, 600, .inl (zi_F F))), (a2, .inl (cB, 600, .inl (zi_F P))), (a3, .inl (cC, 600, .inl (zi_F G)))] := hD
  refine lv_aload_n hx hb dX4_global_5 rfl (lv_at hl 0 rfl) ?_
  refine va_get (D := D) (ci := 5) (v := .int (zi_n rd)) (C := RX4) (T := TX4) (N := 9) hx hb hts in_X4_global_X4 hown hK hP 0 rfl rfl 3 (by decide) (hts (.fieldLink RX4 36 "ZHeadsModel" "isRead" "Z") (by decide +kernel)) (fun _ h9 => h9) rfl dX4_global_6 ?_
  refine zr_if_ne (tgt := 15) hx hb dX4_global_9 (by decide) (by omega) (fun c_1 => ?_) (fun c_1 => ?_)
  · have hR1 := hR (by omega)
    have hs9 := zi_sh_b (256 * G (zh_t F 12 + 2 * p0).toNat + G (zh_t F 12 + 2 * p0 + 1).toNat)
    refine lv_iload_n hx hb dX4_global_15 rfl (lv_at hl 1 rfl) ?_
    refine zr_iconst hx hb dX4_global_16 ?_
    refine zr_sipush hx hb dX4_global_17 (by decide) ?_
    refine zc_S (As := [.int (zi_n p0), .int (zi_n 0), .int (zi_n 239)]) (rest := []) ⟨hx, hb, hml, hown, hts⟩ (c_M_in l p0 0 239 (by omega) (by omega) (by omega)) (va_cwS 3 hts gX4_global_X4_in rfl rfl rfl (by decide +kernel) ⟨(Nat.le_of_ble_eq_true rfl), (Nat.le_of_ble_eq_true rfl)⟩) rfl hl.1 rfl (Nat.le_of_ble_eq_true rfl) dX4_global_20 ⟨Nat.zero_le _, Nat.zero_le _⟩ (fun r hr1 => ?_)
    rcases hr1 with ⟨rfl, c_2⟩ | ⟨rfl, c_2⟩
    · refine zr_if_ne (tgt := 31) hx hb dX4_global_23 (by decide) (by omega) (fun c_3 => ?_) (fun c => absurd c (by decide))
      refine lv_aload_n hx hb dX4_global_31 rfl (lv_at hl 0 rfl) ?_
      refine zr_bipush hx hb dX4_global_32 (by decide) ?_
      refine zc_V (As := [.int (zi_n 12)]) (rest := []) ⟨hx, hb, hml, hown, hts⟩ (c_M_two_k l D x a a2 a3 cA cB cC F P G n rd br v ln 0 hF (by omega) hP0 hG (by omega) (by omega) (by omega) (by omega) (by omega) 12 12 rfl (by omega)) (cwV 1 hts gX4_global_X4_two rfl rfl rfl (by decide +kernel) ⟨(Nat.le_of_ble_eq_true rfl), (Nat.le_of_ble_eq_true rfl)⟩) hP hK [0, 1, 2, 3] [0, 1, 2] rfl rfl (ci := 5) rfl rfl rfl rfl hl.1 rfl (Nat.le_of_ble_eq_true rfl) dX4_global_34 ⟨Nat.zero_le _, Nat.zero_le _⟩ (fun r hr1 => ?_)
      obtain ⟨rfl, b_4⟩ := hr1
      refine zr_iconst hx hb dX4_global_37 ?_
      refine lv_iload_n hx hb dX4_global_38 rfl (lv_at hl 1 rfl) ?_
      refine zr_imul hx hb dX4_global_39 ?_
      refine zr_iadd hx hb dX4_global_40 ?_
      refine lv_istore_n (lv' := [(2, .int (zi_n ((zh_t F 12) + (2 * p0)))), (0, .ref x), (1, .int (zi_n p0))]) hx hb dX4_global_41 rfl hl (by decide) rfl (fun ls hl => ?_)
      refine zr_sipush hx hb dX4_global_42 (by decide) ?_
      refine lv_aload_n hx hb dX4_global_45 rfl (lv_at hl 1 rfl) ?_
      refine va_get (D := D) (ci := 5) (v := .ref a3) (C := RX4) (T := TX4) (N := 9) hx hb hts in_X4_global_X4 hown hK hP 0 rfl rfl 6 (by decide) (hts (.fieldLink RX4 16 "ZHeadsModel" "memory" "[I") (by decide +kernel)) (fun _ h9 => h9) rfl dX4_global_46 ?_
      refine lv_iload_n hx hb dX4_global_49 rfl (lv_at hl 0 rfl) ?_
      refine zr_iald hx hb hK hP 3 2 rfl rfl (by decide) (by omega) dX4_global_50 ?_
      have b_5 := hG ((zh_t F 12) + (2 * p0)).toNat
      refine zr_imul hx hb dX4_global_51 ?_
      refine lv_aload_n hx hb dX4_global_52 rfl (lv_at hl 1 rfl) ?_
      refine va_get (D := D) (ci := 5) (v := .ref a3) (C := RX4) (T := TX4) (N := 9) hx hb hts in_X4_global_X4 hown hK hP 0 rfl rfl 6 (by decide) (hts (.fieldLink RX4 16 "ZHeadsModel" "memory" "[I") (by decide +kernel)) (fun _ h9 => h9) rfl dX4_global_53 ?_
      refine lv_iload_n hx hb dX4_global_56 rfl (lv_at hl 0 rfl) ?_
      refine zr_iconst hx hb dX4_global_57 ?_
      refine zr_iadd hx hb dX4_global_58 ?_
      refine zr_iald hx hb hK hP 3 2 rfl rfl (by decide) (by omega) dX4_global_59 ?_
      have b_6 := hG (((zh_t F 12) + (2 * p0)) + 1).toNat
      refine zr_iadd hx hb dX4_global_60 ?_
      refine zr_i2s hx hb dX4_global_61 (by omega) ?_
      have e_n_7_0 : zh_qgloT rd p0 = 0 := by unfold zh_qgloT; first | (exfalso; omega; done) | (rw [if_pos (by omega)]; done) | (rw [if_neg (by omega)]; done) | (rw [if_neg (by omega), if_pos (by omega)]; done) | (rw [if_neg (by omega), if_neg (by omega)]; done)
      have hP9 : va_P D vwCl [(x, .inr (5, [.int (zi_n (zh_qgloT rd p0)), .ref a, .int (zi_n n), .int (zi_n rd), .int (zi_n br), .ref a2, .ref a3, .int (zi_n v), .int (zi_n ln)])), (a, .inl (cA, 600, .inl (zi_F F))), (a2, .inl (cB, 600, .inl (zi_F P))), (a3, .inl (cC, 600, .inl (zi_F G)))] H := by rw [e_n_7_0]; exact hP
      have hD9 : va_D A [(x, .inr (5, [.int (zi_n (zh_qgloT rd p0)), .ref a, .int (zi_n n), .int (zi_n rd), .int (zi_n br), .ref a2, .ref a3, .int (zi_n v), .int (zi_n ln)])), (a, .inl (cA, 600, .inl (zi_F F))), (a2, .inl (cB, 600, .inl (zi_F P))), (a3, .inl (cC, 600, .inl (zi_F G)))] := by rw [e_n_7_0]; exact hD
      exact W.iret (v := zi_n (zi_sh ((256 * (G ((zh_t F 12) + (2 * p0)).toNat)) + (G (((zh_t F 12) + (2 * p0)) + 1).toNat)))) hx hb hr (fun t ht hW => ⟨⟨zi_n (zi_sh ((256 * (G ((zh_t F 12) + (2 * p0)).toNat)) + (G (((zh_t F 12) + (2 * p0)) + 1).toNat))), (), rfl, zl_r (by unfold zh_qglo zh_T; rw [if_neg (by omega), if_pos (by omega)]) (by omega), by rw [ht]; exact hP9, va_K.moved hW.alike hK, hD9⟩, hS.F ht⟩) hS.2.2 dX4_global_62
    · refine zr_if_ne (tgt := 31) hx hb dX4_global_23 (by decide) (by omega) (fun c => absurd c (by decide)) (fun c_8 => ?_)
      refine lv_aload_n hx hb dX4_global_26 rfl (lv_at hl 0 rfl) ?_
      refine zc_Vi (As := []) (rest := []) (wr := []) (wf := fun (_ : Unit) => [(x, .inr (5, [.int (zi_n 1), .ref a, .int (zi_n n), .int (zi_n rd), .int (zi_n br), .ref a2, .ref a3, .int (zi_n v), .int (zi_n ln)])), (a, .inl (cA, 600, .inl (zi_F F))), (a2, .inl (cB, 600, .inl (zi_F P))), (a3, .inl (cC, 600, .inl (zi_F G)))]) ⟨hx, hb, hml, hown, hts⟩ (c_M_thrownAt l D x a a2 a3 cA cB cC F P G n rd br v ln 0 hF (by omega) hP0 hG (by omega) (by omega) (by omega) (by omega) (by omega) _) (cwV 0 hts gX4_global_X4_thrownAt rfl rfl rfl (by decide +kernel) ⟨(Nat.le_of_ble_eq_true rfl), (Nat.le_of_ble_eq_true rfl)⟩) hP hD hK hS hA [0, 1, 2, 3] [] [0, 1, 2] [0, 1, 2, 3] rfl rfl (by decide) rfl (by decide) (by decide) rfl (fun _ => rfl) (fun _ => rfl) (by decide) (ci := 5) rfl rfl rfl rfl hl.1 rfl (Nat.le_of_ble_eq_true rfl) dX4_global_27 ⟨Nat.zero_le _, Nat.zero_le _⟩ (fun r _ hr1 H locs hP hD hS => ?_)
      have hP : va_P D vwCl [(x, .inr (5, [.int (zi_n 1), .ref a, .int (zi_n n), .int (zi_n rd), .int (zi_n br), .ref a2, .ref a3, .int (zi_n v), .int (zi_n ln)])), (a, .inl (cA, 600, .inl (zi_F F))), (a2, .inl (cB, 600, .inl (zi_F P))), (a3, .inl (cC, 600, .inl (zi_F G)))] H := hP
      have hD : va_D A [(x, .inr (5, [.int (zi_n 1), .ref a, .int (zi_n n), .int (zi_n rd), .int (zi_n br), .ref a2, .ref a3, .int (zi_n v), .int (zi_n ln)])), (a, .inl (cA, 600, .inl (zi_F F))), (a2, .inl (cB, 600, .inl (zi_F P))), (a3, .inl (cC, 600, .inl (zi_F G)))] := hD
      obtain ⟨rfl, b_9⟩ := hr1
      have e_n_10_0 : zh_qgloT rd p0 = 1 := by unfold zh_qgloT; first | (exfalso; omega; done) | (rw [if_pos (by omega)]; done) | (rw [if_neg (by omega)]; done) | (rw [if_neg (by omega), if_pos (by omega)]; done) | (rw [if_neg (by omega), if_neg (by omega)]; done)
      have hP9 : va_P D vwCl [(x, .inr (5, [.int (zi_n (zh_qgloT rd p0)), .ref a, .int (zi_n n), .int (zi_n rd), .int (zi_n br), .ref a2, .ref a3, .int (zi_n v), .int (zi_n ln)])), (a, .inl (cA, 600, .inl (zi_F F))), (a2, .inl (cB, 600, .inl (zi_F P))), (a3, .inl (cC, 600, .inl (zi_F G)))] H := by rw [e_n_10_0]; exact hP
      have hD9 : va_D A [(x, .inr (5, [.int (zi_n (zh_qgloT rd p0)), .ref a, .int (zi_n n), .int (zi_n rd), .int (zi_n br), .ref a2, .ref a3, .int (zi_n v), .int (zi_n ln)])), (a, .inl (cA, 600, .inl (zi_F F))), (a2, .inl (cB, 600, .inl (zi_F P))), (a3, .inl (cC, 600, .inl (zi_F G)))] := by rw [e_n_10_0]; exact hD
      exact W.iret (v := zi_n 0) hx hb hr (fun t ht hW => ⟨⟨zi_n 0, (), rfl, zl_r (by unfold zh_qglo; first | (exfalso; omega; done) | (rw [if_pos (by omega)]; done) | (rw [if_neg (by omega)]; done) | (rw [if_neg (by omega), if_pos (by omega)]; done) | (rw [if_neg (by omega), if_neg (by omega)]; done)) (by omega), by rw [ht]; exact hP9, va_K.moved hW.alike hK, hD9⟩, hS.F ht⟩) hS.2.2 dX4_global_30
  · refine zr_bipush hx hb dX4_global_12 (by decide) ?_
    have e_n_11_0 : zh_qgloT rd p0 = 0 := by unfold zh_qgloT; first | (exfalso; omega; done) | (rw [if_pos (by omega)]; done) | (rw [if_neg (by omega)]; done) | (rw [if_neg (by omega), if_pos (by omega)]; done) | (rw [if_neg (by omega), if_neg (by omega)]; done)
    have hP9 : va_P D vwCl [(x, .inr (5, [.int (zi_n (zh_qgloT rd p0)), .ref a, .int (zi_n n), .int (zi_n rd), .int (zi_n br), .ref a2, .ref a3, .int (zi_n v), .int (zi_n ln)])), (a, .inl (cA, 600, .inl (zi_F F))), (a2, .inl (cB, 600, .inl (zi_F P))), (a3, .inl (cC, 600, .inl (zi_F G)))] H := by rw [e_n_11_0]; exact hP
    have hD9 : va_D A [(x, .inr (5, [.int (zi_n (zh_qgloT rd p0)), .ref a, .int (zi_n n), .int (zi_n rd), .int (zi_n br), .ref a2, .ref a3, .int (zi_n v), .int (zi_n ln)])), (a, .inl (cA, 600, .inl (zi_F F))), (a2, .inl (cB, 600, .inl (zi_F P))), (a3, .inl (cC, 600, .inl (zi_F G)))] := by rw [e_n_11_0]; exact hD
    exact W.iret (v := zi_n (-11)) hx hb hr (fun t ht hW => ⟨⟨zi_n (-11), (), rfl, zl_r (by unfold zh_qglo; first | (exfalso; omega; done) | (rw [if_pos (by omega)]; done) | (rw [if_neg (by omega)]; done) | (rw [if_neg (by omega), if_pos (by omega)]; done) | (rw [if_neg (by omega), if_neg (by omega)]; done)) (by omega), by rw [ht]; exact hP9, va_K.moved hW.alike hK, hD9⟩, hS.F ht⟩) hS.2.2 dX4_global_14

theorem in_X4_load_X4 : ∀ w ∈ u_ws RX4 TX4 9, w ∈ wsX4_load := by decide +kernel
set_option maxHeartbeats 4000000 in
set_option maxRecDepth 100000 in
theorem c_M_load (l : Launch) (D : va_G) (x a a2 a3 : Nat) (cA cB cC : ClassId) (F P G : Nat → Int) (n rd br v ln ft : Int) (hF : zi_By F) (hn : 0 ≤ n ∧ n ≤ 600) (hP0 : zi_By P) (hG : zi_By G) (hrd : rd = 0 ∨ rd = 1) (hbr : 0 ≤ br ∧ br ≤ 15) (hv0 : 0 ≤ v ∧ v ≤ 255) (hln : 0 ≤ ln ∧ ln ≤ 524280) (hft : 0 ≤ ft ∧ ft ≤ 1) (sz : Nat) (p0 : Int) (hR : rd = 1 → 64 ≤ n ∧ v = F 0 ∧ ln = zh_len F n ∧ (1 ≤ F 0 ∧ F 0 ≤ 8) ∧ (64 ≤ ln ∧ ln ≤ n) ∧ (64 ≤ zh_t F 14 ∧ zh_t F 14 ≤ ln) ∧ (64 ≤ zh_t F 12 ∧ zh_t F 12 + 480 ≤ zh_t F 14) ∧ (64 ≤ zh_t F 8 ∧ zh_t F 8 + F (zh_t F 8).toNat + 3 < n)) (rp0 : zi_R p0) : Met l yX4_load wsX4_load ({ frames := 1, cells := 0, slots := 0, locals := 22 }) (va_Pc [.ref x, .int (zi_n p0)] (zp_P D vwCl sz [(x, .inr (5, [.int (zi_n ft), .ref a, .int (zi_n n), .int (zi_n rd), .int (zi_n br), .ref a2, .ref a3, .int (zi_n v), .int (zi_n ln)])), (a, .inl (cA, 600, .inl (zi_F F))), (a2, .inl (cB, 600, .inl (zi_F P))), (a3, .inl (cC, 600, .inl (zi_F G)))] [(cA, .int), (cB, .int), (cC, .int)])) (va_Qi (fun (r : Int32) (_ : Unit) => r = zi_n (zh_qld G n rd p0) ∧ -11 ≤ (zh_qld G n rd p0) ∧ (zh_qld G n rd p0) ≤ 255) (fun (_ : Unit) => zp_B D vwCl [(cA, .int), (cB, .int), (cC, .int)] (va_A [(x, .inr (5, [.int (zi_n ft), .ref a, .int (zi_n n), .int (zi_n rd), .int (zi_n br), .ref a2, .ref a3, .int (zi_n v), .int (zi_n ln)])), (a, .inl (cA, 600, .inl (zi_F F))), (a2, .inl (cB, 600, .inl (zi_F P))), (a3, .inl (cC, 600, .inl (zi_F G)))] sz) [(x, .inr (5, [.int (zi_n (zh_qldT n rd p0)), .ref a, .int (zi_n n), .int (zi_n rd), .int (zi_n br), .ref a2, .ref a3, .int (zi_n v), .int (zi_n ln)])), (a, .inl (cA, 600, .inl (zi_F F))), (a2, .inl (cB, 600, .inl (zi_F P))), (a3, .inl (cC, 600, .inl (zi_F G)))]) (va_A [(x, .inr (5, [.int (zi_n ft), .ref a, .int (zi_n n), .int (zi_n rd), .int (zi_n br), .ref a2, .ref a3, .int (zi_n v), .int (zi_n ln)])), (a, .inl (cA, 600, .inl (zi_F F))), (a2, .inl (cB, 600, .inl (zi_F P))), (a3, .inl (cC, 600, .inl (zi_F G)))] sz)) 0 0 (va_A [(x, .inr (5, [.int (zi_n ft), .ref a, .int (zi_n n), .int (zi_n rd), .int (zi_n br), .ref a2, .ref a3, .int (zi_n v), .int (zi_n ln)])), (a, .inl (cA, 600, .inl (zi_F F))), (a2, .inl (cB, 600, .inl (zi_F P))), (a3, .inl (cC, 600, .inl (zi_F G)))] sz) := by
  refine Met.ofW (cc := cX4_load) (maxL := 2) (ret := (some .int)) (by decide) rfl ?_
  intro p e s m args below meth c s₁ B hml hv
  obtain ⟨rfl, hsz, hP, hK, hD0⟩ := hv
  have hx := B.exec
  have hb := B.bytes
  have hr := B.returns
  have hts := atoms_spec (ws := wsX4_load) B.pre
  have hown : s.vm.findClass RX4 = some m.cls := findClass_of_methodNamed B.named
  have hlocks := B.notSynchronized
  subst hsz
  have hD := hD0.self (sz := s.heap.size)
  generalize hAe : va_A [(x, .inr (5, [.int (zi_n ft), .ref a, .int (zi_n n), .int (zi_n rd), .int (zi_n br), .ref a2, .ref a3, .int (zi_n v), .int (zi_n ln)])), (a, .inl (cA, 600, .inl (zi_F F))), (a2, .inl (cB, 600, .inl (zi_F P))), (a3, .inl (cC, 600, .inl (zi_F G)))] s.heap.size = A at hD ⊢
  have hA : ∀ q : Nat, s.heap.size ≤ q → A q := fun q h => by rw [← hAe]; exact Or.inr h
  have hS : va_S A s.heap s.heap [] := va_S.rf
  have hP : va_P D vwCl [(x, .inr (5, [.int (zi_n ft), .ref a, .int (zi_n n), .int (zi_n rd), .int (zi_n br), .ref a2, .ref a3, .int (zi_n v), .int (zi_n ln)])), (a, .inl (cA, 600, .inl (zi_F F))), (a2, .inl (cB, 600, .inl (zi_F P))), (a3, .inl (cC, 600, .inl (zi_F G)))] s.heap := hP
  have hl := lv_entry ([.ref x, .int (zi_n p0)]) (n := 2) (Nat.le_of_ble_eq_true rfl)
  rw [lg_entry_eq]
  generalize (lg_sl ([.ref x, .int (zi_n p0)]) ++ List.replicate (2 - (lg_sl ([.ref x, .int (zi_n p0)])).length) Slot.unset).toArray = ls at hl ⊢
  have hl : lv_has ls 2 [(0, .ref x), (1, .int (zi_n p0))] := hl
  refine lv_aload_n hx hb dX4_load_0 rfl (lv_at hl 0 rfl) ?_
  refine zr_iconst hx hb dX4_load_1 ?_
  refine va_put (D := D) (ci := 5) (v := .int (zi_n 0)) (ty := .int) (C := RX4) (T := TX4) (N := 9) hx hb hts in_X4_load_X4 tyX4 tyX4_ok nmX4 hown hK hP hD hS 0 rfl rfl 0 (by decide) (hts (.fieldLink RX4 19 "ZHeadsModel" "fault" "I") (by decide +kernel)) (fun _ h9 => h9) rfl (by decide +kernel) rfl rfl (Nat.le_of_ble_eq_true rfl) dX4_load_2 (fun H locs hP hD hS => ?_)
  have hP : va_P D vwCl [(x, .inr (5, [.int (zi_n 0), .ref a, .int (zi_n n), .int (zi_n rd), .int (zi_n br), .ref a2, .ref a3, .int (zi_n v), .int (zi_n ln)])), (a, .inl (cA, 600, .inl (zi_F F))), (a2, .inl (cB, 600, .inl (zi_F P))), (a3, .inl (cC, 600, .inl (zi_F G)))] H := hP
  have hD : va_D A [(x, .inr (5, [.int (zi_n 0), .ref a, .int (zi_n n), .int (zi_n rd), .int (zi_n br), .ref a2, .ref a3, .int (zi_n v), .int (zi_n ln)])), (a, .inl (cA, 600, .inl (zi_F F))), (a2, .inl (cB, 600, .inl (zi_F P))), (a3, .inl (cC, 600, .inl (zi_F G)))] := hD
  refine lv_aload_n hx hb dX4_load_5 rfl (lv_at hl 0 rfl) ?_
  refine va_get (D := D) (ci := 5) (v := .int (zi_n rd)) (C := RX4) (T := TX4) (N := 9) hx hb hts in_X4_load_X4 hown hK hP 0 rfl rfl 3 (by decide) (hts (.fieldLink RX4 36 "ZHeadsModel" "isRead" "Z") (by decide +kernel)) (fun _ h9 => h9) rfl dX4_load_6 ?_
  refine zr_if_ne (tgt := 15) hx hb dX4_load_9 (by decide) (by omega) (fun c_1 => ?_) (fun c_1 => ?_)
  · have hR1 := hR (by omega)
    refine lv_iload_n hx hb dX4_load_15 rfl (lv_at hl 1 rfl) ?_
    refine zr_iconst hx hb dX4_load_16 ?_
    refine lv_aload_n hx hb dX4_load_17 rfl (lv_at hl 0 rfl) ?_
    refine va_get (D := D) (ci := 5) (v := .int (zi_n n)) (C := RX4) (T := TX4) (N := 9) hx hb hts in_X4_load_X4 hown hK hP 0 rfl rfl 2 (by decide) (hts (.fieldLink RX4 31 "ZHeadsModel" "size" "I") (by decide +kernel)) (fun _ h9 => h9) rfl dX4_load_18 ?_
    refine zr_iconst hx hb dX4_load_21 ?_
    refine zr_isub hx hb dX4_load_22 ?_
    refine zc_S (As := [.int (zi_n p0), .int (zi_n 0), .int (zi_n (n - 1))]) (rest := []) ⟨hx, hb, hml, hown, hts⟩ (c_M_in l p0 0 (n - 1) (by omega) (by omega) (by omega)) (va_cwS 3 hts gX4_load_X4_in rfl rfl rfl (by decide +kernel) ⟨(Nat.le_of_ble_eq_true rfl), (Nat.le_of_ble_eq_true rfl)⟩) rfl hl.1 rfl (Nat.le_of_ble_eq_true rfl) dX4_load_23 ⟨Nat.zero_le _, Nat.zero_le _⟩ (fun r hr1 => ?_)
    rcases hr1 with ⟨rfl, c_2⟩ | ⟨rfl, c_2⟩
    · refine zr_if_eq (tgt := 38) hx hb dX4_load_26 (by decide) (by omega) (fun c => absurd c (by decide)) (fun c_3 => ?_)
      refine lv_aload_n hx hb dX4_load_29 rfl (lv_at hl 0 rfl) ?_
      refine va_get (D := D) (ci := 5) (v := .ref a3) (C := RX4) (T := TX4) (N := 9) hx hb hts in_X4_load_X4 hown hK hP 0 rfl rfl 6 (by decide) (hts (.fieldLink RX4 16 "ZHeadsModel" "memory" "[I") (by decide +kernel)) (fun _ h9 => h9) rfl dX4_load_30 ?_
      refine lv_iload_n hx hb dX4_load_33 rfl (lv_at hl 1 rfl) ?_
      refine zr_iald hx hb hK hP 3 2 rfl rfl (by decide) (by omega) dX4_load_34 ?_
      have b_4 := hG p0.toNat
      refine lv_goto (tgt := 42) hx hb dX4_load_35 (by decide) ?_
      have e_n_5_0 : zh_qldT n rd p0 = 0 := by unfold zh_qldT; first | (exfalso; omega; done) | (rw [if_pos (by omega)]; done) | (rw [if_neg (by omega)]; done) | (rw [if_neg (by omega), if_pos (by omega)]; done) | (rw [if_neg (by omega), if_neg (by omega)]; done)
      have hP9 : va_P D vwCl [(x, .inr (5, [.int (zi_n (zh_qldT n rd p0)), .ref a, .int (zi_n n), .int (zi_n rd), .int (zi_n br), .ref a2, .ref a3, .int (zi_n v), .int (zi_n ln)])), (a, .inl (cA, 600, .inl (zi_F F))), (a2, .inl (cB, 600, .inl (zi_F P))), (a3, .inl (cC, 600, .inl (zi_F G)))] H := by rw [e_n_5_0]; exact hP
      have hD9 : va_D A [(x, .inr (5, [.int (zi_n (zh_qldT n rd p0)), .ref a, .int (zi_n n), .int (zi_n rd), .int (zi_n br), .ref a2, .ref a3, .int (zi_n v), .int (zi_n ln)])), (a, .inl (cA, 600, .inl (zi_F F))), (a2, .inl (cB, 600, .inl (zi_F P))), (a3, .inl (cC, 600, .inl (zi_F G)))] := by rw [e_n_5_0]; exact hD
      exact W.iret (v := zi_n (G p0.toNat)) hx hb hr (fun t ht hW => ⟨⟨zi_n (G p0.toNat), (), rfl, zl_r (by unfold zh_qld; first | (exfalso; omega; done) | (rw [if_pos (by omega)]; done) | (rw [if_neg (by omega)]; done) | (rw [if_neg (by omega), if_pos (by omega)]; done) | (rw [if_neg (by omega), if_neg (by omega)]; done)) (by omega), by rw [ht]; exact hP9, va_K.moved hW.alike hK, hD9⟩, hS.F ht⟩) hS.2.2 dX4_load_42
    · refine zr_if_eq (tgt := 38) hx hb dX4_load_26 (by decide) (by omega) (fun c_6 => ?_) (fun c => absurd c (by decide))
      refine lv_aload_n hx hb dX4_load_38 rfl (lv_at hl 0 rfl) ?_
      refine zc_Vi (As := []) (rest := []) (wr := []) (wf := fun (_ : Unit) => [(x, .inr (5, [.int (zi_n 1), .ref a, .int (zi_n n), .int (zi_n rd), .int (zi_n br), .ref a2, .ref a3, .int (zi_n v), .int (zi_n ln)])), (a, .inl (cA, 600, .inl (zi_F F))), (a2, .inl (cB, 600, .inl (zi_F P))), (a3, .inl (cC, 600, .inl (zi_F G)))]) ⟨hx, hb, hml, hown, hts⟩ (c_M_thrownAt l D x a a2 a3 cA cB cC F P G n rd br v ln 0 hF (by omega) hP0 hG (by omega) (by omega) (by omega) (by omega) (by omega) _) (cwV 0 hts gX4_load_X4_thrownAt rfl rfl rfl (by decide +kernel) ⟨(Nat.le_of_ble_eq_true rfl), (Nat.le_of_ble_eq_true rfl)⟩) hP hD hK hS hA [0, 1, 2, 3] [] [0, 1, 2] [0, 1, 2, 3] rfl rfl (by decide) rfl (by decide) (by decide) rfl (fun _ => rfl) (fun _ => rfl) (by decide) (ci := 5) rfl rfl rfl rfl hl.1 rfl (Nat.le_of_ble_eq_true rfl) dX4_load_39 ⟨Nat.zero_le _, Nat.zero_le _⟩ (fun r _ hr1 H locs hP hD hS => ?_)
      have hP : va_P D vwCl [(x, .inr (5, [.int (zi_n 1), .ref a, .int (zi_n n), .int (zi_n rd), .int (zi_n br), .ref a2, .ref a3, .int (zi_n v), .int (zi_n ln)])), (a, .inl (cA, 600, .inl (zi_F F))), (a2, .inl (cB, 600, .inl (zi_F P))), (a3, .inl (cC, 600, .inl (zi_F G)))] H := hP
      have hD : va_D A [(x, .inr (5, [.int (zi_n 1), .ref a, .int (zi_n n), .int (zi_n rd), .int (zi_n br), .ref a2, .ref a3, .int (zi_n v), .int (zi_n ln)])), (a, .inl (cA, 600, .inl (zi_F F))), (a2, .inl (cB, 600, .inl (zi_F P))), (a3, .inl (cC, 600, .inl (zi_F G)))] := hD
      obtain ⟨rfl, b_7⟩ := hr1
      have e_n_8_0 : zh_qldT n rd p0 = 1 := by unfold zh_qldT; first | (exfalso; omega; done) | (rw [if_pos (by omega)]; done) | (rw [if_neg (by omega)]; done) | (rw [if_neg (by omega), if_pos (by omega)]; done) | (rw [if_neg (by omega), if_neg (by omega)]; done)
      have hP9 : va_P D vwCl [(x, .inr (5, [.int (zi_n (zh_qldT n rd p0)), .ref a, .int (zi_n n), .int (zi_n rd), .int (zi_n br), .ref a2, .ref a3, .int (zi_n v), .int (zi_n ln)])), (a, .inl (cA, 600, .inl (zi_F F))), (a2, .inl (cB, 600, .inl (zi_F P))), (a3, .inl (cC, 600, .inl (zi_F G)))] H := by rw [e_n_8_0]; exact hP
      have hD9 : va_D A [(x, .inr (5, [.int (zi_n (zh_qldT n rd p0)), .ref a, .int (zi_n n), .int (zi_n rd), .int (zi_n br), .ref a2, .ref a3, .int (zi_n v), .int (zi_n ln)])), (a, .inl (cA, 600, .inl (zi_F F))), (a2, .inl (cB, 600, .inl (zi_F P))), (a3, .inl (cC, 600, .inl (zi_F G)))] := by rw [e_n_8_0]; exact hD
      exact W.iret (v := zi_n 0) hx hb hr (fun t ht hW => ⟨⟨zi_n 0, (), rfl, zl_r (by unfold zh_qld; first | (exfalso; omega; done) | (rw [if_pos (by omega)]; done) | (rw [if_neg (by omega)]; done) | (rw [if_neg (by omega), if_pos (by omega)]; done) | (rw [if_neg (by omega), if_neg (by omega)]; done)) (by omega), by rw [ht]; exact hP9, va_K.moved hW.alike hK, hD9⟩, hS.F ht⟩) hS.2.2 dX4_load_42
  · refine zr_bipush hx hb dX4_load_12 (by decide) ?_
    have e_n_9_0 : zh_qldT n rd p0 = 0 := by unfold zh_qldT; first | (exfalso; omega; done) | (rw [if_pos (by omega)]; done) | (rw [if_neg (by omega)]; done) | (rw [if_neg (by omega), if_pos (by omega)]; done) | (rw [if_neg (by omega), if_neg (by omega)]; done)
    have hP9 : va_P D vwCl [(x, .inr (5, [.int (zi_n (zh_qldT n rd p0)), .ref a, .int (zi_n n), .int (zi_n rd), .int (zi_n br), .ref a2, .ref a3, .int (zi_n v), .int (zi_n ln)])), (a, .inl (cA, 600, .inl (zi_F F))), (a2, .inl (cB, 600, .inl (zi_F P))), (a3, .inl (cC, 600, .inl (zi_F G)))] H := by rw [e_n_9_0]; exact hP
    have hD9 : va_D A [(x, .inr (5, [.int (zi_n (zh_qldT n rd p0)), .ref a, .int (zi_n n), .int (zi_n rd), .int (zi_n br), .ref a2, .ref a3, .int (zi_n v), .int (zi_n ln)])), (a, .inl (cA, 600, .inl (zi_F F))), (a2, .inl (cB, 600, .inl (zi_F P))), (a3, .inl (cC, 600, .inl (zi_F G)))] := by rw [e_n_9_0]; exact hD
    exact W.iret (v := zi_n (-11)) hx hb hr (fun t ht hW => ⟨⟨zi_n (-11), (), rfl, zl_r (by unfold zh_qld; first | (exfalso; omega; done) | (rw [if_pos (by omega)]; done) | (rw [if_neg (by omega)]; done) | (rw [if_neg (by omega), if_pos (by omega)]; done) | (rw [if_neg (by omega), if_neg (by omega)]; done)) (by omega), by rw [ht]; exact hP9, va_K.moved hW.alike hK, hD9⟩, hS.F ht⟩) hS.2.2 dX4_load_14

theorem in_X4_store_X4 : ∀ w ∈ u_ws RX4 TX4 9, w ∈ wsX4_store := by decide +kernel
set_option maxHeartbeats 4000000 in
set_option maxRecDepth 100000 in
theorem c_M_store (l : Launch) (D : va_G) (x a a2 a3 : Nat) (cA cB cC : ClassId) (F P G : Nat → Int) (n rd br v ln ft : Int) (hF : zi_By F) (hn : 0 ≤ n ∧ n ≤ 600) (hP0 : zi_By P) (hG : zi_By G) (hrd : rd = 0 ∨ rd = 1) (hbr : 0 ≤ br ∧ br ≤ 15) (hv0 : 0 ≤ v ∧ v ≤ 255) (hln : 0 ≤ ln ∧ ln ≤ 524280) (hft : 0 ≤ ft ∧ ft ≤ 1) (sz : Nat) (p0 : Int) (p1 : Int) (hR : rd = 1 → 64 ≤ n ∧ v = F 0 ∧ ln = zh_len F n ∧ (1 ≤ F 0 ∧ F 0 ≤ 8) ∧ (64 ≤ ln ∧ ln ≤ n) ∧ (64 ≤ zh_t F 14 ∧ zh_t F 14 ≤ ln) ∧ (64 ≤ zh_t F 12 ∧ zh_t F 12 + 480 ≤ zh_t F 14) ∧ (64 ≤ zh_t F 8 ∧ zh_t F 8 + F (zh_t F 8).toNat + 3 < n)) (rp0 : zi_R p0) (rp1 : zi_R p1) : Met l yX4_store wsX4_store ({ frames := 1, cells := 0, slots := 0, locals := 22 }) (va_Pc [.ref x, .int (zi_n p0), .int (zi_n p1)] (zp_P D vwCl sz [(x, .inr (5, [.int (zi_n ft), .ref a, .int (zi_n n), .int (zi_n rd), .int (zi_n br), .ref a2, .ref a3, .int (zi_n v), .int (zi_n ln)])), (a, .inl (cA, 600, .inl (zi_F F))), (a2, .inl (cB, 600, .inl (zi_F P))), (a3, .inl (cC, 600, .inl (zi_F G)))] [(cA, .int), (cB, .int), (cC, .int)])) (va_Qi (fun (r : Int32) (_ : Unit) => r = zi_n (zh_stE F G n rd p0) ∧ -13 ≤ (zh_stE F G n rd p0) ∧ (zh_stE F G n rd p0) ≤ 255) (fun (_ : Unit) => zp_B D vwCl [(cA, .int), (cB, .int), (cC, .int)] (va_A [(x, .inr (5, [.int (zi_n ft), .ref a, .int (zi_n n), .int (zi_n rd), .int (zi_n br), .ref a2, .ref a3, .int (zi_n v), .int (zi_n ln)])), (a, .inl (cA, 600, .inl (zi_F F))), (a2, .inl (cB, 600, .inl (zi_F P))), (a3, .inl (cC, 600, .inl (zi_F G)))] sz) [(x, .inr (5, [.int (zi_n 0), .ref a, .int (zi_n n), .int (zi_n rd), .int (zi_n br), .ref a2, .ref a3, .int (zi_n v), .int (zi_n ln)])), (a, .inl (cA, 600, .inl (zi_F F))), (a2, .inl (cB, 600, .inl (zi_F P))), (a3, .inl (cC, 600, .inl (zi_F (zh_stG F G n rd p0 p1))))]) (va_A [(x, .inr (5, [.int (zi_n ft), .ref a, .int (zi_n n), .int (zi_n rd), .int (zi_n br), .ref a2, .ref a3, .int (zi_n v), .int (zi_n ln)])), (a, .inl (cA, 600, .inl (zi_F F))), (a2, .inl (cB, 600, .inl (zi_F P))), (a3, .inl (cC, 600, .inl (zi_F G)))] sz)) 0 0 (va_A [(x, .inr (5, [.int (zi_n ft), .ref a, .int (zi_n n), .int (zi_n rd), .int (zi_n br), .ref a2, .ref a3, .int (zi_n v), .int (zi_n ln)])), (a, .inl (cA, 600, .inl (zi_F F))), (a2, .inl (cB, 600, .inl (zi_F P))), (a3, .inl (cC, 600, .inl (zi_F G)))] sz) := by
  refine Met.ofW (cc := cX4_store) (maxL := 4) (ret := (some .int)) (by decide) rfl ?_
  intro p e s m args below meth c s₁ B hml hv
  obtain ⟨rfl, hsz, hP, hK, hD0⟩ := hv
  have hx := B.exec
  have hb := B.bytes
  have hr := B.returns
  have hts := atoms_spec (ws := wsX4_store) B.pre
  have hown : s.vm.findClass RX4 = some m.cls := findClass_of_methodNamed B.named
  have hlocks := B.notSynchronized
  subst hsz
  have hD := hD0.self (sz := s.heap.size)
  generalize hAe : va_A [(x, .inr (5, [.int (zi_n ft), .ref a, .int (zi_n n), .int (zi_n rd), .int (zi_n br), .ref a2, .ref a3, .int (zi_n v), .int (zi_n ln)])), (a, .inl (cA, 600, .inl (zi_F F))), (a2, .inl (cB, 600, .inl (zi_F P))), (a3, .inl (cC, 600, .inl (zi_F G)))] s.heap.size = A at hD ⊢
  have hA : ∀ q : Nat, s.heap.size ≤ q → A q := fun q h => by rw [← hAe]; exact Or.inr h
  have hS : va_S A s.heap s.heap [] := va_S.rf
  have hP : va_P D vwCl [(x, .inr (5, [.int (zi_n ft), .ref a, .int (zi_n n), .int (zi_n rd), .int (zi_n br), .ref a2, .ref a3, .int (zi_n v), .int (zi_n ln)])), (a, .inl (cA, 600, .inl (zi_F F))), (a2, .inl (cB, 600, .inl (zi_F P))), (a3, .inl (cC, 600, .inl (zi_F G)))] s.heap := hP
  have hl := lv_entry ([.ref x, .int (zi_n p0), .int (zi_n p1)]) (n := 4) (Nat.le_of_ble_eq_true rfl)
  rw [lg_entry_eq]
  generalize (lg_sl ([.ref x, .int (zi_n p0), .int (zi_n p1)]) ++ List.replicate (4 - (lg_sl ([.ref x, .int (zi_n p0), .int (zi_n p1)])).length) Slot.unset).toArray = ls at hl ⊢
  have hl : lv_has ls 4 [(0, .ref x), (1, .int (zi_n p0)), (2, .int (zi_n p1))] := hl
  refine lv_aload_n hx hb dX4_store_0 rfl (lv_at hl 0 rfl) ?_
  refine zr_iconst hx hb dX4_store_1 ?_
  refine va_put (D := D) (ci := 5) (v := .int (zi_n 0)) (ty := .int) (C := RX4) (T := TX4) (N := 9) hx hb hts in_X4_store_X4 tyX4 tyX4_ok nmX4 hown hK hP hD hS 0 rfl rfl 0 (by decide) (hts (.fieldLink RX4 19 "ZHeadsModel" "fault" "I") (by decide +kernel)) (fun _ h9 => h9) rfl (by decide +kernel) rfl rfl (Nat.le_of_ble_eq_true rfl) dX4_store_2 (fun H locs hP hD hS => ?_)
  have hP : va_P D vwCl [(x, .inr (5, [.int (zi_n 0), .ref a, .int (zi_n n), .int (zi_n rd), .int (zi_n br), .ref a2, .ref a3, .int (zi_n v), .int (zi_n ln)])), (a, .inl (cA, 600, .inl (zi_F F))), (a2, .inl (cB, 600, .inl (zi_F P))), (a3, .inl (cC, 600, .inl (zi_F G)))] H := hP
  have hD : va_D A [(x, .inr (5, [.int (zi_n 0), .ref a, .int (zi_n n), .int (zi_n rd), .int (zi_n br), .ref a2, .ref a3, .int (zi_n v), .int (zi_n ln)])), (a, .inl (cA, 600, .inl (zi_F F))), (a2, .inl (cB, 600, .inl (zi_F P))), (a3, .inl (cC, 600, .inl (zi_F G)))] := hD
  refine lv_aload_n hx hb dX4_store_5 rfl (lv_at hl 0 rfl) ?_
  refine va_get (D := D) (ci := 5) (v := .int (zi_n rd)) (C := RX4) (T := TX4) (N := 9) hx hb hts in_X4_store_X4 hown hK hP 0 rfl rfl 3 (by decide) (hts (.fieldLink RX4 36 "ZHeadsModel" "isRead" "Z") (by decide +kernel)) (fun _ h9 => h9) rfl dX4_store_6 ?_
  refine zr_if_ne (tgt := 15) hx hb dX4_store_9 (by decide) (by omega) (fun c_1 => ?_) (fun c_1 => ?_)
  · have hR1 := hR (by omega)
    refine lv_iload_n hx hb dX4_store_15 rfl (lv_at hl 1 rfl) ?_
    refine zr_bipush hx hb dX4_store_16 (by decide) ?_
    refine lv_aload_n hx hb dX4_store_18 rfl (lv_at hl 0 rfl) ?_
    refine zr_bipush hx hb dX4_store_19 (by decide) ?_
    refine zc_V (As := [.int (zi_n 14)]) (rest := [.int (zi_n 64), .int (zi_n p0)]) ⟨hx, hb, hml, hown, hts⟩ (c_M_two_k l D x a a2 a3 cA cB cC F P G n rd br v ln 0 hF (by omega) hP0 hG (by omega) (by omega) (by omega) (by omega) (by omega) 14 14 rfl (by omega)) (cwV 1 hts gX4_store_X4_two rfl rfl rfl (by decide +kernel) ⟨(Nat.le_of_ble_eq_true rfl), (Nat.le_of_ble_eq_true rfl)⟩) hP hK [0, 1, 2, 3] [0, 1, 2] rfl rfl (ci := 5) rfl rfl rfl rfl hl.1 rfl (Nat.le_of_ble_eq_true rfl) dX4_store_21 ⟨Nat.zero_le _, Nat.zero_le _⟩ (fun r hr1 => ?_)
    obtain ⟨rfl, b_2⟩ := hr1
    refine zr_iconst hx hb dX4_store_24 ?_
    refine zr_isub hx hb dX4_store_25 ?_
    refine zc_S (As := [.int (zi_n p0), .int (zi_n 64), .int (zi_n ((zh_t F 14) - 1))]) (rest := []) ⟨hx, hb, hml, hown, hts⟩ (c_M_in l p0 64 ((zh_t F 14) - 1) (by omega) (by omega) (by omega)) (va_cwS 3 hts gX4_store_X4_in rfl rfl rfl (by decide +kernel) ⟨(Nat.le_of_ble_eq_true rfl), (Nat.le_of_ble_eq_true rfl)⟩) rfl hl.1 rfl (Nat.le_of_ble_eq_true rfl) dX4_store_26 ⟨Nat.zero_le _, Nat.zero_le _⟩ (fun r hr1 => ?_)
    rcases hr1 with ⟨rfl, c_3⟩ | ⟨rfl, c_3⟩
    · refine zr_if_ne (tgt := 35) hx hb dX4_store_29 (by decide) (by omega) (fun c_4 => ?_) (fun c => absurd c (by decide))
      refine lv_aload_n hx hb dX4_store_35 rfl (lv_at hl 0 rfl) ?_
      refine va_get (D := D) (ci := 5) (v := .ref a3) (C := RX4) (T := TX4) (N := 9) hx hb hts in_X4_store_X4 hown hK hP 0 rfl rfl 6 (by decide) (hts (.fieldLink RX4 16 "ZHeadsModel" "memory" "[I") (by decide +kernel)) (fun _ h9 => h9) rfl dX4_store_36 ?_
      refine lv_iload_n hx hb dX4_store_39 rfl (lv_at hl 1 rfl) ?_
      refine zr_iald hx hb hK hP 3 2 rfl rfl (by decide) (by omega) dX4_store_40 ?_
      have b_5 := hG p0.toNat
      refine lv_istore_n (lv' := [(3, .int (zi_n (G p0.toNat))), (0, .ref x), (1, .int (zi_n p0)), (2, .int (zi_n p1))]) hx hb dX4_store_41 rfl hl (by decide) rfl (fun ls hl => ?_)
      refine lv_aload_n hx hb dX4_store_42 rfl (lv_at hl 1 rfl) ?_
      refine va_get (D := D) (ci := 5) (v := .ref a3) (C := RX4) (T := TX4) (N := 9) hx hb hts in_X4_store_X4 hown hK hP 0 rfl rfl 6 (by decide) (hts (.fieldLink RX4 16 "ZHeadsModel" "memory" "[I") (by decide +kernel)) (fun _ h9 => h9) rfl dX4_store_43 ?_
      refine lv_iload_n hx hb dX4_store_46 rfl (lv_at hl 2 rfl) ?_
      refine lv_iload_n hx hb dX4_store_47 rfl (lv_at hl 3 rfl) ?_
      refine zr_sipush hx hb dX4_store_48 (by decide) ?_
      refine zr_iand255 hx hb dX4_store_51 (by omega) ?_
      refine zr_iast (x := p1 % 256) hx hb hK hP hD hS 3 2 rfl rfl (by decide) (by omega) dX4_store_52 (fun H locs hP hD hS => ?_)
      have hF_6 : zi_By (zi_up G p0.toNat (p1 % 256)) := zi_up_By hG _ (by omega)
      have hP : va_P D vwCl [(x, .inr (5, [.int (zi_n 0), .ref a, .int (zi_n n), .int (zi_n rd), .int (zi_n br), .ref a2, .ref a3, .int (zi_n v), .int (zi_n ln)])), (a, .inl (cA, 600, .inl (zi_F F))), (a2, .inl (cB, 600, .inl (zi_F P))), (a3, .inl (cC, 600, .inl (zi_F (zi_up G p0.toNat (p1 % 256)))))] H := hP
      have hD : va_D A [(x, .inr (5, [.int (zi_n 0), .ref a, .int (zi_n n), .int (zi_n rd), .int (zi_n br), .ref a2, .ref a3, .int (zi_n v), .int (zi_n ln)])), (a, .inl (cA, 600, .inl (zi_F F))), (a2, .inl (cB, 600, .inl (zi_F P))), (a3, .inl (cC, 600, .inl (zi_F (zi_up G p0.toNat (p1 % 256)))))] := hD
      refine lv_iload_n hx hb dX4_store_53 rfl (lv_at hl 0 rfl) ?_
      have e_n_7_0 : zh_stG F G n rd p0 p1 = zi_up G p0.toNat (p1 % 256) := by unfold zh_stG; first | (rw [if_pos (by omega)]; done) | (rw [if_neg (by omega)]; unfold zh_put; rw [if_pos (by omega)]; done)
      have hP9 : va_P D vwCl [(x, .inr (5, [.int (zi_n 0), .ref a, .int (zi_n n), .int (zi_n rd), .int (zi_n br), .ref a2, .ref a3, .int (zi_n v), .int (zi_n ln)])), (a, .inl (cA, 600, .inl (zi_F F))), (a2, .inl (cB, 600, .inl (zi_F P))), (a3, .inl (cC, 600, .inl (zi_F (zh_stG F G n rd p0 p1))))] H := by rw [e_n_7_0]; exact hP
      have hD9 : va_D A [(x, .inr (5, [.int (zi_n 0), .ref a, .int (zi_n n), .int (zi_n rd), .int (zi_n br), .ref a2, .ref a3, .int (zi_n v), .int (zi_n ln)])), (a, .inl (cA, 600, .inl (zi_F F))), (a2, .inl (cB, 600, .inl (zi_F P))), (a3, .inl (cC, 600, .inl (zi_F (zh_stG F G n rd p0 p1))))] := by rw [e_n_7_0]; exact hD
      exact W.iret (v := zi_n (G p0.toNat)) hx hb hr (fun t ht hW => ⟨⟨zi_n (G p0.toNat), (), rfl, zl_r (by unfold zh_stE; first | (rw [if_pos (by omega)]; done) | (rw [if_neg (by omega), if_pos (by omega)]; done) | (rw [if_neg (by omega), if_neg (by omega), zh_at_in (by omega)])) (by omega), by rw [ht]; exact hP9, va_K.moved hW.alike hK, hD9⟩, hS.F ht⟩) hS.2.2 dX4_store_54
    · refine zr_if_ne (tgt := 35) hx hb dX4_store_29 (by decide) (by omega) (fun c => absurd c (by decide)) (fun c_8 => ?_)
      refine zr_bipush hx hb dX4_store_32 (by decide) ?_
      have e_n_9_0 : zh_stG F G n rd p0 p1 = G := by unfold zh_stG; first | (rw [if_pos (by omega)]; done) | (rw [if_neg (by omega)]; unfold zh_put; rw [if_pos (by omega)]; done)
      have hP9 : va_P D vwCl [(x, .inr (5, [.int (zi_n 0), .ref a, .int (zi_n n), .int (zi_n rd), .int (zi_n br), .ref a2, .ref a3, .int (zi_n v), .int (zi_n ln)])), (a, .inl (cA, 600, .inl (zi_F F))), (a2, .inl (cB, 600, .inl (zi_F P))), (a3, .inl (cC, 600, .inl (zi_F (zh_stG F G n rd p0 p1))))] H := by rw [e_n_9_0]; exact hP
      have hD9 : va_D A [(x, .inr (5, [.int (zi_n 0), .ref a, .int (zi_n n), .int (zi_n rd), .int (zi_n br), .ref a2, .ref a3, .int (zi_n v), .int (zi_n ln)])), (a, .inl (cA, 600, .inl (zi_F F))), (a2, .inl (cB, 600, .inl (zi_F P))), (a3, .inl (cC, 600, .inl (zi_F (zh_stG F G n rd p0 p1))))] := by rw [e_n_9_0]; exact hD
      exact W.iret (v := zi_n (-13)) hx hb hr (fun t ht hW => ⟨⟨zi_n (-13), (), rfl, zl_r (by unfold zh_stE; first | (rw [if_pos (by omega)]; done) | (rw [if_neg (by omega), if_pos (by omega)]; done) | (rw [if_neg (by omega), if_neg (by omega), zh_at_in (by omega)])) (by omega), by rw [ht]; exact hP9, va_K.moved hW.alike hK, hD9⟩, hS.F ht⟩) hS.2.2 dX4_store_34
  · refine zr_bipush hx hb dX4_store_12 (by decide) ?_
    have e_n_10_0 : zh_stG F G n rd p0 p1 = G := by unfold zh_stG; first | (rw [if_pos (by omega)]; done) | (rw [if_neg (by omega)]; unfold zh_put; rw [if_pos (by omega)]; done)
    have hP9 : va_P D vwCl [(x, .inr (5, [.int (zi_n 0), .ref a, .int (zi_n n), .int (zi_n rd), .int (zi_n br), .ref a2, .ref a3, .int (zi_n v), .int (zi_n ln)])), (a, .inl (cA, 600, .inl (zi_F F))), (a2, .inl (cB, 600, .inl (zi_F P))), (a3, .inl (cC, 600, .inl (zi_F (zh_stG F G n rd p0 p1))))] H := by rw [e_n_10_0]; exact hP
    have hD9 : va_D A [(x, .inr (5, [.int (zi_n 0), .ref a, .int (zi_n n), .int (zi_n rd), .int (zi_n br), .ref a2, .ref a3, .int (zi_n v), .int (zi_n ln)])), (a, .inl (cA, 600, .inl (zi_F F))), (a2, .inl (cB, 600, .inl (zi_F P))), (a3, .inl (cC, 600, .inl (zi_F (zh_stG F G n rd p0 p1))))] := by rw [e_n_10_0]; exact hD
    exact W.iret (v := zi_n (-11)) hx hb hr (fun t ht hW => ⟨⟨zi_n (-11), (), rfl, zl_r (by unfold zh_stE; first | (rw [if_pos (by omega)]; done) | (rw [if_neg (by omega), if_pos (by omega)]; done) | (rw [if_neg (by omega), if_neg (by omega), zh_at_in (by omega)])) (by omega), by rw [ht]; exact hP9, va_K.moved hW.alike hK, hD9⟩, hS.F ht⟩) hS.2.2 dX4_store_14

theorem in_X4_packed_X4 : ∀ w ∈ u_ws RX4 TX4 9, w ∈ wsX4_packed := by decide +kernel
set_option maxHeartbeats 4000000 in
set_option maxRecDepth 100000 in
theorem c_M_packed (l : Launch) (D : va_G) (x a a2 a3 : Nat) (cA cB cC : ClassId) (F P G : Nat → Int) (n rd br v ln ft : Int) (hF : zi_By F) (hn : 0 ≤ n ∧ n ≤ 600) (hP0 : zi_By P) (hG : zi_By G) (hrd : rd = 0 ∨ rd = 1) (hbr : 0 ≤ br ∧ br ≤ 15) (hv0 : 0 ≤ v ∧ v ≤ 255) (hln : 0 ≤ ln ∧ ln ≤ 524280) (hft : 0 ≤ ft ∧ ft ≤ 1) (sz : Nat) (p0 : Int) (p1 : Int) (hR : rd = 1 → 64 ≤ n ∧ v = F 0 ∧ ln = zh_len F n ∧ (1 ≤ F 0 ∧ F 0 ≤ 8) ∧ (64 ≤ ln ∧ ln ≤ n) ∧ (64 ≤ zh_t F 14 ∧ zh_t F 14 ≤ ln) ∧ (64 ≤ zh_t F 12 ∧ zh_t F 12 + 480 ≤ zh_t F 14) ∧ (64 ≤ zh_t F 8 ∧ zh_t F 8 + F (zh_t F 8).toNat + 3 < n)) (rp0 : zi_R p0) (bp1 : p1 = 0 ∨ p1 = 1) : Met l yX4_packed wsX4_packed ({ frames := 2, cells := 0, slots := 0, locals := 44 }) (va_Pc [.ref x, .int (zi_n p0), .int (zi_n p1)] (zp_P D vwCl sz [(x, .inr (5, [.int (zi_n ft), .ref a, .int (zi_n n), .int (zi_n rd), .int (zi_n br), .ref a2, .ref a3, .int (zi_n v), .int (zi_n ln)])), (a, .inl (cA, 600, .inl (zi_F F))), (a2, .inl (cB, 600, .inl (zi_F P))), (a3, .inl (cC, 600, .inl (zi_F G)))] [(cA, .int), (cB, .int), (cC, .int)])) (va_Qi (fun (r : Int32) (_ : Unit) => r = zi_n (zh_pkE F rd p0 p1) ∧ -12 ≤ (zh_pkE F rd p0 p1) ∧ (zh_pkE F rd p0 p1) ≤ 1048560) (fun (_ : Unit) => zp_B D vwCl [(cA, .int), (cB, .int), (cC, .int)] (va_A [(x, .inr (5, [.int (zi_n ft), .ref a, .int (zi_n n), .int (zi_n rd), .int (zi_n br), .ref a2, .ref a3, .int (zi_n v), .int (zi_n ln)])), (a, .inl (cA, 600, .inl (zi_F F))), (a2, .inl (cB, 600, .inl (zi_F P))), (a3, .inl (cC, 600, .inl (zi_F G)))] sz) [(x, .inr (5, [.int (zi_n 0), .ref a, .int (zi_n n), .int (zi_n rd), .int (zi_n br), .ref a2, .ref a3, .int (zi_n v), .int (zi_n ln)])), (a, .inl (cA, 600, .inl (zi_F F))), (a2, .inl (cB, 600, .inl (zi_F P))), (a3, .inl (cC, 600, .inl (zi_F G)))]) (va_A [(x, .inr (5, [.int (zi_n ft), .ref a, .int (zi_n n), .int (zi_n rd), .int (zi_n br), .ref a2, .ref a3, .int (zi_n v), .int (zi_n ln)])), (a, .inl (cA, 600, .inl (zi_F F))), (a2, .inl (cB, 600, .inl (zi_F P))), (a3, .inl (cC, 600, .inl (zi_F G)))] sz)) 0 0 (va_A [(x, .inr (5, [.int (zi_n ft), .ref a, .int (zi_n n), .int (zi_n rd), .int (zi_n br), .ref a2, .ref a3, .int (zi_n v), .int (zi_n ln)])), (a, .inl (cA, 600, .inl (zi_F F))), (a2, .inl (cB, 600, .inl (zi_F P))), (a3, .inl (cC, 600, .inl (zi_F G)))] sz) := by
  refine Met.ofW (cc := cX4_packed) (maxL := 3) (ret := (some .int)) (by decide) rfl ?_
  intro p e s m args below meth c s₁ B hml hv
  obtain ⟨rfl, hsz, hP, hK, hD0⟩ := hv
  have hx := B.exec
  have hb := B.bytes
  have hr := B.returns
  have hts := atoms_spec (ws := wsX4_packed) B.pre
  have hown : s.vm.findClass RX4 = some m.cls := findClass_of_methodNamed B.named
  have hlocks := B.notSynchronized
  subst hsz
  have hD := hD0.self (sz := s.heap.size)
  generalize hAe : va_A [(x, .inr (5, [.int (zi_n ft), .ref a, .int (zi_n n), .int (zi_n rd), .int (zi_n br), .ref a2, .ref a3, .int (zi_n v), .int (zi_n ln)])), (a, .inl (cA, 600, .inl (zi_F F))), (a2, .inl (cB, 600, .inl (zi_F P))), (a3, .inl (cC, 600, .inl (zi_F G)))] s.heap.size = A at hD ⊢
  have hA : ∀ q : Nat, s.heap.size ≤ q → A q := fun q h => by rw [← hAe]; exact Or.inr h
  have hS : va_S A s.heap s.heap [] := va_S.rf
  have hP : va_P D vwCl [(x, .inr (5, [.int (zi_n ft), .ref a, .int (zi_n n), .int (zi_n rd), .int (zi_n br), .ref a2, .ref a3, .int (zi_n v), .int (zi_n ln)])), (a, .inl (cA, 600, .inl (zi_F F))), (a2, .inl (cB, 600, .inl (zi_F P))), (a3, .inl (cC, 600, .inl (zi_F G)))] s.heap := hP
  have hl := lv_entry ([.ref x, .int (zi_n p0), .int (zi_n p1)]) (n := 3) (Nat.le_of_ble_eq_true rfl)
  rw [lg_entry_eq]
  generalize (lg_sl ([.ref x, .int (zi_n p0), .int (zi_n p1)]) ++ List.replicate (3 - (lg_sl ([.ref x, .int (zi_n p0), .int (zi_n p1)])).length) Slot.unset).toArray = ls at hl ⊢
  have hl : lv_has ls 3 [(0, .ref x), (1, .int (zi_n p0)), (2, .int (zi_n p1))] := hl
  refine lv_aload_n hx hb dX4_packed_0 rfl (lv_at hl 0 rfl) ?_
  refine zr_iconst hx hb dX4_packed_1 ?_
  refine va_put (D := D) (ci := 5) (v := .int (zi_n 0)) (ty := .int) (C := RX4) (T := TX4) (N := 9) hx hb hts in_X4_packed_X4 tyX4 tyX4_ok nmX4 hown hK hP hD hS 0 rfl rfl 0 (by decide) (hts (.fieldLink RX4 19 "ZHeadsModel" "fault" "I") (by decide +kernel)) (fun _ h9 => h9) rfl (by decide +kernel) rfl rfl (Nat.le_of_ble_eq_true rfl) dX4_packed_2 (fun H locs hP hD hS => ?_)
  have hP : va_P D vwCl [(x, .inr (5, [.int (zi_n 0), .ref a, .int (zi_n n), .int (zi_n rd), .int (zi_n br), .ref a2, .ref a3, .int (zi_n v), .int (zi_n ln)])), (a, .inl (cA, 600, .inl (zi_F F))), (a2, .inl (cB, 600, .inl (zi_F P))), (a3, .inl (cC, 600, .inl (zi_F G)))] H := hP
  have hD : va_D A [(x, .inr (5, [.int (zi_n 0), .ref a, .int (zi_n n), .int (zi_n rd), .int (zi_n br), .ref a2, .ref a3, .int (zi_n v), .int (zi_n ln)])), (a, .inl (cA, 600, .inl (zi_F F))), (a2, .inl (cB, 600, .inl (zi_F P))), (a3, .inl (cC, 600, .inl (zi_F G)))] := hD
  refine lv_aload_n hx hb dX4_packed_5 rfl (lv_at hl 0 rfl) ?_
  refine va_get (D := D) (ci := 5) (v := .int (zi_n rd)) (C := RX4) (T := TX4) (N := 9) hx hb hts in_X4_packed_X4 hown hK hP 0 rfl rfl 3 (by decide) (hts (.fieldLink RX4 36 "ZHeadsModel" "isRead" "Z") (by decide +kernel)) (fun _ h9 => h9) rfl dX4_packed_6 ?_
  refine zr_if_ne (tgt := 17) hx hb dX4_packed_9 (by decide) (by omega) (fun c_1 => ?_) (fun c_1 => ?_)
  · have hR1 := hR (by omega)
    refine lv_iload_n hx hb dX4_packed_17 rfl (lv_at hl 1 rfl) ?_
    refine zr_iconst hx hb dX4_packed_18 ?_
    refine zr_ldc (n := 65535) hx hb hown (hts (.constant RX4 94 (65535)) (by decide +kernel)) (by decide) dX4_packed_19 ?_
    refine zc_S (As := [.int (zi_n p0), .int (zi_n 0), .int (zi_n 65535)]) (rest := []) ⟨hx, hb, hml, hown, hts⟩ (c_M_in l p0 0 65535 (by omega) (by omega) (by omega)) (va_cwS 3 hts gX4_packed_X4_in rfl rfl rfl (by decide +kernel) ⟨(Nat.le_of_ble_eq_true rfl), (Nat.le_of_ble_eq_true rfl)⟩) rfl hl.1 rfl (Nat.le_of_ble_eq_true rfl) dX4_packed_21 ⟨Nat.zero_le _, Nat.zero_le _⟩ (fun r hr1 => ?_)
    rcases hr1 with ⟨rfl, c_2⟩ | ⟨rfl, c_2⟩
    · refine zr_if_eq (tgt := 36) hx hb dX4_packed_24 (by decide) (by omega) (fun c => absurd c (by decide)) (fun c_3 => ?_)
      refine lv_aload_n hx hb dX4_packed_27 rfl (lv_at hl 0 rfl) ?_
      refine lv_iload_n hx hb dX4_packed_28 rfl (lv_at hl 1 rfl) ?_
      refine lv_iload_n hx hb dX4_packed_29 rfl (lv_at hl 2 rfl) ?_
      refine zc_V (As := [.int (zi_n p0), .int (zi_n p1)]) (rest := []) ⟨hx, hb, hml, hown, hts⟩ (c_M_packedAt l D x a a2 a3 cA cB cC F P G n rd br v ln 0 hF (by omega) hP0 hG (by omega) (by omega) (by omega) (by omega) (by omega) p0 p1 (by omega) (by omega)) (cwV 2 hts gX4_packed_X4_packedAt rfl rfl rfl (by decide +kernel) ⟨(Nat.le_of_ble_eq_true rfl), (Nat.le_of_ble_eq_true rfl)⟩) hP hK [0, 1, 2, 3] [0, 1, 2] rfl rfl (ci := 5) rfl rfl rfl rfl hl.1 rfl (Nat.le_of_ble_eq_true rfl) dX4_packed_30 ⟨Nat.zero_le _, Nat.zero_le _⟩ (fun r hr1 => ?_)
      obtain ⟨rfl, b_4⟩ := hr1
      refine lv_goto (tgt := 38) hx hb dX4_packed_33 (by decide) ?_
      have hP9 : va_P D vwCl [(x, .inr (5, [.int (zi_n 0), .ref a, .int (zi_n n), .int (zi_n rd), .int (zi_n br), .ref a2, .ref a3, .int (zi_n v), .int (zi_n ln)])), (a, .inl (cA, 600, .inl (zi_F F))), (a2, .inl (cB, 600, .inl (zi_F P))), (a3, .inl (cC, 600, .inl (zi_F G)))] H := hP
      have hD9 : va_D A [(x, .inr (5, [.int (zi_n 0), .ref a, .int (zi_n n), .int (zi_n rd), .int (zi_n br), .ref a2, .ref a3, .int (zi_n v), .int (zi_n ln)])), (a, .inl (cA, 600, .inl (zi_F F))), (a2, .inl (cB, 600, .inl (zi_F P))), (a3, .inl (cC, 600, .inl (zi_F G)))] := hD
      exact W.iret (v := zi_n (zh_mpk F v p0 p1)) hx hb hr (fun t ht hW => ⟨⟨zi_n (zh_mpk F v p0 p1), (), rfl, zl_r (by unfold zh_pkE; first | (rw [if_pos (by omega)]; done) | (rw [if_neg (by omega), if_neg (by omega)]; done) | (rw [if_neg (by omega), if_pos (by omega)]; exact (zh_mpk_eq (by omega) (by omega)).symm)) (by omega), by rw [ht]; exact hP9, va_K.moved hW.alike hK, hD9⟩, hS.F ht⟩) hS.2.2 dX4_packed_38
    · refine zr_if_eq (tgt := 36) hx hb dX4_packed_24 (by decide) (by omega) (fun c_6 => ?_) (fun c => absurd c (by decide))
      refine zr_bipush hx hb dX4_packed_36 (by decide) ?_
      have hP9 : va_P D vwCl [(x, .inr (5, [.int (zi_n 0), .ref a, .int (zi_n n), .int (zi_n rd), .int (zi_n br), .ref a2, .ref a3, .int (zi_n v), .int (zi_n ln)])), (a, .inl (cA, 600, .inl (zi_F F))), (a2, .inl (cB, 600, .inl (zi_F P))), (a3, .inl (cC, 600, .inl (zi_F G)))] H := hP
      have hD9 : va_D A [(x, .inr (5, [.int (zi_n 0), .ref a, .int (zi_n n), .int (zi_n rd), .int (zi_n br), .ref a2, .ref a3, .int (zi_n v), .int (zi_n ln)])), (a, .inl (cA, 600, .inl (zi_F F))), (a2, .inl (cB, 600, .inl (zi_F P))), (a3, .inl (cC, 600, .inl (zi_F G)))] := hD
      exact W.iret (v := zi_n (-12)) hx hb hr (fun t ht hW => ⟨⟨zi_n (-12), (), rfl, zl_r (by unfold zh_pkE; first | (rw [if_pos (by omega)]; done) | (rw [if_neg (by omega), if_neg (by omega)]; done) | (rw [if_neg (by omega), if_pos (by omega)]; exact (zh_mpk_eq (by omega) (by omega)).symm)) (by omega), by rw [ht]; exact hP9, va_K.moved hW.alike hK, hD9⟩, hS.F ht⟩) hS.2.2 dX4_packed_38
  · refine zr_bipush hx hb dX4_packed_12 (by decide) ?_
    refine lv_goto (tgt := 38) hx hb dX4_packed_14 (by decide) ?_
    have hP9 : va_P D vwCl [(x, .inr (5, [.int (zi_n 0), .ref a, .int (zi_n n), .int (zi_n rd), .int (zi_n br), .ref a2, .ref a3, .int (zi_n v), .int (zi_n ln)])), (a, .inl (cA, 600, .inl (zi_F F))), (a2, .inl (cB, 600, .inl (zi_F P))), (a3, .inl (cC, 600, .inl (zi_F G)))] H := hP
    have hD9 : va_D A [(x, .inr (5, [.int (zi_n 0), .ref a, .int (zi_n n), .int (zi_n rd), .int (zi_n br), .ref a2, .ref a3, .int (zi_n v), .int (zi_n ln)])), (a, .inl (cA, 600, .inl (zi_F F))), (a2, .inl (cB, 600, .inl (zi_F P))), (a3, .inl (cC, 600, .inl (zi_F G)))] := hD
    exact W.iret (v := zi_n (-11)) hx hb hr (fun t ht hW => ⟨⟨zi_n (-11), (), rfl, zl_r (by unfold zh_pkE; first | (rw [if_pos (by omega)]; done) | (rw [if_neg (by omega), if_neg (by omega)]; done) | (rw [if_neg (by omega), if_pos (by omega)]; exact (zh_mpk_eq (by omega) (by omega)).symm)) (by omega), by rw [ht]; exact hP9, va_K.moved hW.alike hK, hD9⟩, hS.F ht⟩) hS.2.2 dX4_packed_38

theorem in_X4_first_X4 : ∀ w ∈ u_ws RX4 TX4 9, w ∈ wsX4_first := by decide +kernel
set_option maxHeartbeats 4000000 in
set_option maxRecDepth 100000 in
theorem c_M_first (l : Launch) (D : va_G) (x a a2 a3 : Nat) (cA cB cC : ClassId) (F P G : Nat → Int) (n rd br v ln ft : Int) (hF : zi_By F) (hn : 0 ≤ n ∧ n ≤ 600) (hP0 : zi_By P) (hG : zi_By G) (hrd : rd = 0 ∨ rd = 1) (hbr : 0 ≤ br ∧ br ≤ 15) (hv0 : 0 ≤ v ∧ v ≤ 255) (hln : 0 ≤ ln ∧ ln ≤ 524280) (hft : 0 ≤ ft ∧ ft ≤ 1) (sz : Nat) (p0 : Int) (p1 : Int) (hR : rd = 1 → 64 ≤ n ∧ v = F 0 ∧ ln = zh_len F n ∧ (1 ≤ F 0 ∧ F 0 ≤ 8) ∧ (64 ≤ ln ∧ ln ≤ n) ∧ (64 ≤ zh_t F 14 ∧ zh_t F 14 ≤ ln) ∧ (64 ≤ zh_t F 12 ∧ zh_t F 12 + 480 ≤ zh_t F 14) ∧ (64 ≤ zh_t F 8 ∧ zh_t F 8 + F (zh_t F 8).toNat + 3 < n)) (rp0 : zi_R p0) (bp1 : p1 = 0 ∨ p1 = 1) : Met l yX4_first wsX4_first ({ frames := 2, cells := 0, slots := 0, locals := 44 }) (va_Pc [.ref x, .int (zi_n p0), .int (zi_n p1)] (zp_P D vwCl sz [(x, .inr (5, [.int (zi_n ft), .ref a, .int (zi_n n), .int (zi_n rd), .int (zi_n br), .ref a2, .ref a3, .int (zi_n v), .int (zi_n ln)])), (a, .inl (cA, 600, .inl (zi_F F))), (a2, .inl (cB, 600, .inl (zi_F P))), (a3, .inl (cC, 600, .inl (zi_F G)))] [(cA, .int), (cB, .int), (cC, .int)])) (va_Qi (fun (r : Int32) (_ : Unit) => r = zi_n (zh_qfi F G n rd v p0 p1) ∧ -12 ≤ (zh_qfi F G n rd v p0 p1) ∧ (zh_qfi F G n rd v p0 p1) ≤ 255) (fun (_ : Unit) => zp_B D vwCl [(cA, .int), (cB, .int), (cC, .int)] (va_A [(x, .inr (5, [.int (zi_n ft), .ref a, .int (zi_n n), .int (zi_n rd), .int (zi_n br), .ref a2, .ref a3, .int (zi_n v), .int (zi_n ln)])), (a, .inl (cA, 600, .inl (zi_F F))), (a2, .inl (cB, 600, .inl (zi_F P))), (a3, .inl (cC, 600, .inl (zi_F G)))] sz) [(x, .inr (5, [.int (zi_n (zh_qfiT F n rd v p0 p1)), .ref a, .int (zi_n n), .int (zi_n rd), .int (zi_n br), .ref a2, .ref a3, .int (zi_n v), .int (zi_n ln)])), (a, .inl (cA, 600, .inl (zi_F F))), (a2, .inl (cB, 600, .inl (zi_F P))), (a3, .inl (cC, 600, .inl (zi_F G)))]) (va_A [(x, .inr (5, [.int (zi_n ft), .ref a, .int (zi_n n), .int (zi_n rd), .int (zi_n br), .ref a2, .ref a3, .int (zi_n v), .int (zi_n ln)])), (a, .inl (cA, 600, .inl (zi_F F))), (a2, .inl (cB, 600, .inl (zi_F P))), (a3, .inl (cC, 600, .inl (zi_F G)))] sz)) 0 0 (va_A [(x, .inr (5, [.int (zi_n ft), .ref a, .int (zi_n n), .int (zi_n rd), .int (zi_n br), .ref a2, .ref a3, .int (zi_n v), .int (zi_n ln)])), (a, .inl (cA, 600, .inl (zi_F F))), (a2, .inl (cB, 600, .inl (zi_F P))), (a3, .inl (cC, 600, .inl (zi_F G)))] sz) := by
  refine Met.ofW (cc := cX4_first) (maxL := 3) (ret := (some .int)) (by decide) rfl ?_
  intro p e s m args below meth c s₁ B hml hv
  obtain ⟨rfl, hsz, hP, hK, hD0⟩ := hv
  have hx := B.exec
  have hb := B.bytes
  have hr := B.returns
  have hts := atoms_spec (ws := wsX4_first) B.pre
  have hown : s.vm.findClass RX4 = some m.cls := findClass_of_methodNamed B.named
  have hlocks := B.notSynchronized
  subst hsz
  have hD := hD0.self (sz := s.heap.size)
  generalize hAe : va_A [(x, .inr (5, [.int (zi_n ft), .ref a, .int (zi_n n), .int (zi_n rd), .int (zi_n br), .ref a2, .ref a3, .int (zi_n v), .int (zi_n ln)])), (a, .inl (cA, 600, .inl (zi_F F))), (a2, .inl (cB, 600, .inl (zi_F P))), (a3, .inl (cC, 600, .inl (zi_F G)))] s.heap.size = A at hD ⊢
  have hA : ∀ q : Nat, s.heap.size ≤ q → A q := fun q h => by rw [← hAe]; exact Or.inr h
  have hS : va_S A s.heap s.heap [] := va_S.rf
  have hP : va_P D vwCl [(x, .inr (5, [.int (zi_n ft), .ref a, .int (zi_n n), .int (zi_n rd), .int (zi_n br), .ref a2, .ref a3, .int (zi_n v), .int (zi_n ln)])), (a, .inl (cA, 600, .inl (zi_F F))), (a2, .inl (cB, 600, .inl (zi_F P))), (a3, .inl (cC, 600, .inl (zi_F G)))] s.heap := hP
  have hl := lv_entry ([.ref x, .int (zi_n p0), .int (zi_n p1)]) (n := 3) (Nat.le_of_ble_eq_true rfl)
  rw [lg_entry_eq]
  generalize (lg_sl ([.ref x, .int (zi_n p0), .int (zi_n p1)]) ++ List.replicate (3 - (lg_sl ([.ref x, .int (zi_n p0), .int (zi_n p1)])).length) Slot.unset).toArray = ls at hl ⊢
  have hl : lv_has ls 3 [(0, .ref x), (1, .int (zi_n p0)), (2, .int (zi_n p1))] := hl
  refine lv_aload_n hx hb dX4_first_0 rfl (lv_at hl 0 rfl) ?_
  refine zr_iconst hx hb dX4_first_1 ?_
  refine va_put (D := D) (ci := 5) (v := .int (zi_n 0)) (ty := .int) (C := RX4) (T := TX4) (N := 9) hx hb hts in_X4_first_X4 tyX4 tyX4_ok nmX4 hown hK hP hD hS 0 rfl rfl 0 (by decide) (hts (.fieldLink RX4 19 "ZHeadsModel" "fault" "I") (by decide +kernel)) (fun _ h9 => h9) rfl (by decide +kernel) rfl rfl (Nat.le_of_ble_eq_true rfl) dX4_first_2 (fun H locs hP hD hS => ?_)
  have hP : va_P D vwCl [(x, .inr (5, [.int (zi_n 0), .ref a, .int (zi_n n), .int (zi_n rd), .int (zi_n br), .ref a2, .ref a3, .int (zi_n v), .int (zi_n ln)])), (a, .inl (cA, 600, .inl (zi_F F))), (a2, .inl (cB, 600, .inl (zi_F P))), (a3, .inl (cC, 600, .inl (zi_F G)))] H := hP
  have hD : va_D A [(x, .inr (5, [.int (zi_n 0), .ref a, .int (zi_n n), .int (zi_n rd), .int (zi_n br), .ref a2, .ref a3, .int (zi_n v), .int (zi_n ln)])), (a, .inl (cA, 600, .inl (zi_F F))), (a2, .inl (cB, 600, .inl (zi_F P))), (a3, .inl (cC, 600, .inl (zi_F G)))] := hD
  refine lv_aload_n hx hb dX4_first_5 rfl (lv_at hl 0 rfl) ?_
  refine va_get (D := D) (ci := 5) (v := .int (zi_n rd)) (C := RX4) (T := TX4) (N := 9) hx hb hts in_X4_first_X4 hown hK hP 0 rfl rfl 3 (by decide) (hts (.fieldLink RX4 36 "ZHeadsModel" "isRead" "Z") (by decide +kernel)) (fun _ h9 => h9) rfl dX4_first_6 ?_
  refine zr_if_ne (tgt := 15) hx hb dX4_first_9 (by decide) (by omega) (fun c_1 => ?_) (fun c_1 => ?_)
  · have hR1 := hR (by omega)
    refine lv_iload_n hx hb dX4_first_15 rfl (lv_at hl 1 rfl) ?_
    refine zr_iconst hx hb dX4_first_16 ?_
    refine zr_ldc (n := 65535) hx hb hown (hts (.constant RX4 94 (65535)) (by decide +kernel)) (by decide) dX4_first_17 ?_
    refine zc_S (As := [.int (zi_n p0), .int (zi_n 0), .int (zi_n 65535)]) (rest := []) ⟨hx, hb, hml, hown, hts⟩ (c_M_in l p0 0 65535 (by omega) (by omega) (by omega)) (va_cwS 3 hts gX4_first_X4_in rfl rfl rfl (by decide +kernel) ⟨(Nat.le_of_ble_eq_true rfl), (Nat.le_of_ble_eq_true rfl)⟩) rfl hl.1 rfl (Nat.le_of_ble_eq_true rfl) dX4_first_19 ⟨Nat.zero_le _, Nat.zero_le _⟩ (fun r hr1 => ?_)
    rcases hr1 with ⟨rfl, c_2⟩ | ⟨rfl, c_2⟩
    · refine zr_if_eq (tgt := 38) hx hb dX4_first_22 (by decide) (by omega) (fun c => absurd c (by decide)) (fun c_3 => ?_)
      refine lv_aload_n hx hb dX4_first_25 rfl (lv_at hl 0 rfl) ?_
      refine lv_aload_n hx hb dX4_first_26 rfl (lv_at hl 0 rfl) ?_
      refine lv_iload_n hx hb dX4_first_27 rfl (lv_at hl 1 rfl) ?_
      refine lv_iload_n hx hb dX4_first_28 rfl (lv_at hl 2 rfl) ?_
      refine zc_V (As := [.int (zi_n p0), .int (zi_n p1)]) (rest := [.ref x]) ⟨hx, hb, hml, hown, hts⟩ (c_M_packedAt l D x a a2 a3 cA cB cC F P G n rd br v ln 0 hF (by omega) hP0 hG (by omega) (by omega) (by omega) (by omega) (by omega) p0 p1 (by omega) (by omega)) (cwV 2 hts gX4_first_X4_packedAt rfl rfl rfl (by decide +kernel) ⟨(Nat.le_of_ble_eq_true rfl), (Nat.le_of_ble_eq_true rfl)⟩) hP hK [0, 1, 2, 3] [0, 1, 2] rfl rfl (ci := 5) rfl rfl rfl rfl hl.1 rfl (Nat.le_of_ble_eq_true rfl) dX4_first_29 ⟨Nat.zero_le _, Nat.zero_le _⟩ (fun r hr1 => ?_)
      obtain ⟨rfl, b_4⟩ := hr1
      refine zc_Vi (As := [.int (zi_n (zh_mpk F v p0 p1))]) (rest := []) (wr := []) (wf := fun (_ : Unit) => [(x, .inr (5, [.int (zi_n (zh_qldT n rd (zh_mpk F v p0 p1))), .ref a, .int (zi_n n), .int (zi_n rd), .int (zi_n br), .ref a2, .ref a3, .int (zi_n v), .int (zi_n ln)])), (a, .inl (cA, 600, .inl (zi_F F))), (a2, .inl (cB, 600, .inl (zi_F P))), (a3, .inl (cC, 600, .inl (zi_F G)))]) ⟨hx, hb, hml, hown, hts⟩ (c_M_load l D x a a2 a3 cA cB cC F P G n rd br v ln 0 hF (by omega) hP0 hG (by omega) (by omega) (by omega) (by omega) (by omega) _ (zh_mpk F v p0 p1) hR (by omega)) (cwV 1 hts gX4_first_X4_load rfl rfl rfl (by decide +kernel) ⟨(Nat.le_of_ble_eq_true rfl), (Nat.le_of_ble_eq_true rfl)⟩) hP hD hK hS hA [0, 1, 2, 3] [] [0, 1, 2] [0, 1, 2, 3] rfl rfl (by decide) rfl (by decide) (by decide) rfl (fun _ => rfl) (fun _ => rfl) (by decide) (ci := 5) rfl rfl rfl rfl hl.1 rfl (Nat.le_of_ble_eq_true rfl) dX4_first_32 ⟨Nat.zero_le _, Nat.zero_le _⟩ (fun r _ hr1 H locs hP hD hS => ?_)
      have hP : va_P D vwCl [(x, .inr (5, [.int (zi_n (zh_qldT n rd (zh_mpk F v p0 p1))), .ref a, .int (zi_n n), .int (zi_n rd), .int (zi_n br), .ref a2, .ref a3, .int (zi_n v), .int (zi_n ln)])), (a, .inl (cA, 600, .inl (zi_F F))), (a2, .inl (cB, 600, .inl (zi_F P))), (a3, .inl (cC, 600, .inl (zi_F G)))] H := hP
      have hD : va_D A [(x, .inr (5, [.int (zi_n (zh_qldT n rd (zh_mpk F v p0 p1))), .ref a, .int (zi_n n), .int (zi_n rd), .int (zi_n br), .ref a2, .ref a3, .int (zi_n v), .int (zi_n ln)])), (a, .inl (cA, 600, .inl (zi_F F))), (a2, .inl (cB, 600, .inl (zi_F P))), (a3, .inl (cC, 600, .inl (zi_F G)))] := hD
      obtain ⟨rfl, b_5⟩ := hr1
      refine lv_goto (tgt := 40) hx hb dX4_first_35 (by decide) ?_
      have e_n_6_0 : zh_qfiT F n rd v p0 p1 = zh_qldT n rd (zh_mpk F v p0 p1) := by unfold zh_qfiT; first | (rw [if_pos (by omega)]; done) | (rw [if_neg (by omega)]; done) | (unfold zh_qldT; (repeat' split) <;> omega)
      have hP9 : va_P D vwCl [(x, .inr (5, [.int (zi_n (zh_qfiT F n rd v p0 p1)), .ref a, .int (zi_n n), .int (zi_n rd), .int (zi_n br), .ref a2, .ref a3, .int (zi_n v), .int (zi_n ln)])), (a, .inl (cA, 600, .inl (zi_F F))), (a2, .inl (cB, 600, .inl (zi_F P))), (a3, .inl (cC, 600, .inl (zi_F G)))] H := by rw [e_n_6_0]; exact hP
      have hD9 : va_D A [(x, .inr (5, [.int (zi_n (zh_qfiT F n rd v p0 p1)), .ref a, .int (zi_n n), .int (zi_n rd), .int (zi_n br), .ref a2, .ref a3, .int (zi_n v), .int (zi_n ln)])), (a, .inl (cA, 600, .inl (zi_F F))), (a2, .inl (cB, 600, .inl (zi_F P))), (a3, .inl (cC, 600, .inl (zi_F G)))] := by rw [e_n_6_0]; exact hD
      exact W.iret (v := zi_n (zh_qld G n rd (zh_mpk F v p0 p1))) hx hb hr (fun t ht hW => ⟨⟨zi_n (zh_qld G n rd (zh_mpk F v p0 p1)), (), rfl, zl_r (by unfold zh_qfi; first | (exfalso; omega; done) | (rw [if_pos (by omega)]; done) | (rw [if_neg (by omega)]; done) | (rw [if_neg (by omega), if_pos (by omega)]; done) | (rw [if_neg (by omega), if_neg (by omega)]; done)) (by omega), by rw [ht]; exact hP9, va_K.moved hW.alike hK, hD9⟩, hS.F ht⟩) hS.2.2 dX4_first_40
    · refine zr_if_eq (tgt := 38) hx hb dX4_first_22 (by decide) (by omega) (fun c_7 => ?_) (fun c => absurd c (by decide))
      refine zr_bipush hx hb dX4_first_38 (by decide) ?_
      have e_n_8_0 : zh_qfiT F n rd v p0 p1 = 0 := by unfold zh_qfiT; first | (rw [if_pos (by omega)]; done) | (rw [if_neg (by omega)]; done) | (unfold zh_qldT; (repeat' split) <;> omega)
      have hP9 : va_P D vwCl [(x, .inr (5, [.int (zi_n (zh_qfiT F n rd v p0 p1)), .ref a, .int (zi_n n), .int (zi_n rd), .int (zi_n br), .ref a2, .ref a3, .int (zi_n v), .int (zi_n ln)])), (a, .inl (cA, 600, .inl (zi_F F))), (a2, .inl (cB, 600, .inl (zi_F P))), (a3, .inl (cC, 600, .inl (zi_F G)))] H := by rw [e_n_8_0]; exact hP
      have hD9 : va_D A [(x, .inr (5, [.int (zi_n (zh_qfiT F n rd v p0 p1)), .ref a, .int (zi_n n), .int (zi_n rd), .int (zi_n br), .ref a2, .ref a3, .int (zi_n v), .int (zi_n ln)])), (a, .inl (cA, 600, .inl (zi_F F))), (a2, .inl (cB, 600, .inl (zi_F P))), (a3, .inl (cC, 600, .inl (zi_F G)))] := by rw [e_n_8_0]; exact hD
      exact W.iret (v := zi_n (-12)) hx hb hr (fun t ht hW => ⟨⟨zi_n (-12), (), rfl, zl_r (by unfold zh_qfi; first | (exfalso; omega; done) | (rw [if_pos (by omega)]; done) | (rw [if_neg (by omega)]; done) | (rw [if_neg (by omega), if_pos (by omega)]; done) | (rw [if_neg (by omega), if_neg (by omega)]; done)) (by omega), by rw [ht]; exact hP9, va_K.moved hW.alike hK, hD9⟩, hS.F ht⟩) hS.2.2 dX4_first_40
  · refine zr_bipush hx hb dX4_first_12 (by decide) ?_
    have e_n_9_0 : zh_qfiT F n rd v p0 p1 = 0 := by unfold zh_qfiT; first | (rw [if_pos (by omega)]; done) | (rw [if_neg (by omega)]; done) | (unfold zh_qldT; (repeat' split) <;> omega)
    have hP9 : va_P D vwCl [(x, .inr (5, [.int (zi_n (zh_qfiT F n rd v p0 p1)), .ref a, .int (zi_n n), .int (zi_n rd), .int (zi_n br), .ref a2, .ref a3, .int (zi_n v), .int (zi_n ln)])), (a, .inl (cA, 600, .inl (zi_F F))), (a2, .inl (cB, 600, .inl (zi_F P))), (a3, .inl (cC, 600, .inl (zi_F G)))] H := by rw [e_n_9_0]; exact hP
    have hD9 : va_D A [(x, .inr (5, [.int (zi_n (zh_qfiT F n rd v p0 p1)), .ref a, .int (zi_n n), .int (zi_n rd), .int (zi_n br), .ref a2, .ref a3, .int (zi_n v), .int (zi_n ln)])), (a, .inl (cA, 600, .inl (zi_F F))), (a2, .inl (cB, 600, .inl (zi_F P))), (a3, .inl (cC, 600, .inl (zi_F G)))] := by rw [e_n_9_0]; exact hD
    exact W.iret (v := zi_n (-11)) hx hb hr (fun t ht hW => ⟨⟨zi_n (-11), (), rfl, zl_r (by unfold zh_qfi; first | (exfalso; omega; done) | (rw [if_pos (by omega)]; done) | (rw [if_neg (by omega)]; done) | (rw [if_neg (by omega), if_pos (by omega)]; done) | (rw [if_neg (by omega), if_neg (by omega)]; done)) (by omega), by rw [ht]; exact hP9, va_K.moved hW.alike hK, hD9⟩, hS.F ht⟩) hS.2.2 dX4_first_14

theorem in_X4_sign_X4 : ∀ w ∈ u_ws RX4 TX4 9, w ∈ wsX4_sign := by decide +kernel
set_option maxHeartbeats 4000000 in
set_option maxRecDepth 100000 in
theorem c_M_sign (l : Launch) (D : va_G) (x a a2 a3 : Nat) (cA cB cC : ClassId) (F P G : Nat → Int) (n rd br v ln ft : Int) (hF : zi_By F) (hn : 0 ≤ n ∧ n ≤ 600) (hP0 : zi_By P) (hG : zi_By G) (hrd : rd = 0 ∨ rd = 1) (hbr : 0 ≤ br ∧ br ≤ 15) (hv0 : 0 ≤ v ∧ v ≤ 255) (hln : 0 ≤ ln ∧ ln ≤ 524280) (hft : 0 ≤ ft ∧ ft ≤ 1) (sz : Nat) (p0 : Int) (hR : rd = 1 → 64 ≤ n ∧ v = F 0 ∧ ln = zh_len F n ∧ (1 ≤ F 0 ∧ F 0 ≤ 8) ∧ (64 ≤ ln ∧ ln ≤ n) ∧ (64 ≤ zh_t F 14 ∧ zh_t F 14 ≤ ln) ∧ (64 ≤ zh_t F 12 ∧ zh_t F 12 + 480 ≤ zh_t F 14) ∧ (64 ≤ zh_t F 8 ∧ zh_t F 8 + F (zh_t F 8).toNat + 3 < n)) (rp0 : zi_R p0) : Met l yX4_sign wsX4_sign ({ frames := 1, cells := 0, slots := 0, locals := 22 }) (va_Pc [.ref x, .int (zi_n p0)] (zp_P D vwCl sz [(x, .inr (5, [.int (zi_n ft), .ref a, .int (zi_n n), .int (zi_n rd), .int (zi_n br), .ref a2, .ref a3, .int (zi_n v), .int (zi_n ln)])), (a, .inl (cA, 600, .inl (zi_F F))), (a2, .inl (cB, 600, .inl (zi_F P))), (a3, .inl (cC, 600, .inl (zi_F G)))] [(cA, .int), (cB, .int), (cC, .int)])) (va_Qi (fun (r : Int32) (_ : Unit) => r = zi_n (zh_qsg F P rd p0) ∧ -11 ≤ (zh_qsg F P rd p0) ∧ (zh_qsg F P rd p0) ≤ 255) (fun (_ : Unit) => zp_B D vwCl [(cA, .int), (cB, .int), (cC, .int)] (va_A [(x, .inr (5, [.int (zi_n ft), .ref a, .int (zi_n n), .int (zi_n rd), .int (zi_n br), .ref a2, .ref a3, .int (zi_n v), .int (zi_n ln)])), (a, .inl (cA, 600, .inl (zi_F F))), (a2, .inl (cB, 600, .inl (zi_F P))), (a3, .inl (cC, 600, .inl (zi_F G)))] sz) [(x, .inr (5, [.int (zi_n (zh_qsgT F rd p0)), .ref a, .int (zi_n n), .int (zi_n rd), .int (zi_n br), .ref a2, .ref a3, .int (zi_n v), .int (zi_n ln)])), (a, .inl (cA, 600, .inl (zi_F F))), (a2, .inl (cB, 600, .inl (zi_F P))), (a3, .inl (cC, 600, .inl (zi_F G)))]) (va_A [(x, .inr (5, [.int (zi_n ft), .ref a, .int (zi_n n), .int (zi_n rd), .int (zi_n br), .ref a2, .ref a3, .int (zi_n v), .int (zi_n ln)])), (a, .inl (cA, 600, .inl (zi_F F))), (a2, .inl (cB, 600, .inl (zi_F P))), (a3, .inl (cC, 600, .inl (zi_F G)))] sz)) 0 0 (va_A [(x, .inr (5, [.int (zi_n ft), .ref a, .int (zi_n n), .int (zi_n rd), .int (zi_n br), .ref a2, .ref a3, .int (zi_n v), .int (zi_n ln)])), (a, .inl (cA, 600, .inl (zi_F F))), (a2, .inl (cB, 600, .inl (zi_F P))), (a3, .inl (cC, 600, .inl (zi_F G)))] sz) := by
  refine Met.ofW (cc := cX4_sign) (maxL := 3) (ret := (some .int)) (by decide) rfl ?_
  intro p e s m args below meth c s₁ B hml hv
  obtain ⟨rfl, hsz, hP, hK, hD0⟩ := hv
  have hx := B.exec
  have hb := B.bytes
  have hr := B.returns
  have hts := atoms_spec (ws := wsX4_sign) B.pre
  have hown : s.vm.findClass RX4 = some m.cls := findClass_of_methodNamed B.named
  have hlocks := B.notSynchronized
  subst hsz
  have hD := hD0.self (sz := s.heap.size)
  generalize hAe : va_A [(x, .inr (5, [.int (zi_n ft), .ref a, .int (zi_n n), .int (zi_n rd), .int (zi_n br), .ref a2, .ref a3, .int (zi_n v), .int (zi_n ln)])), (a, .inl (cA, 600, .inl (zi_F F))), (a2, .inl (cB, 600, .inl (zi_F P))), (a3, .inl (cC, 600, .inl (zi_F G)))] s.heap.size = A at hD ⊢
  have hA : ∀ q : Nat, s.heap.size ≤ q → A q := fun q h => by rw [← hAe]; exact Or.inr h
  have hS : va_S A s.heap s.heap [] := va_S.rf
  have hP : va_P D vwCl [(x, .inr (5, [.int (zi_n ft), .ref a, .int (zi_n n), .int (zi_n rd), .int (zi_n br), .ref a2, .ref a3, .int (zi_n v), .int (zi_n ln)])), (a, .inl (cA, 600, .inl (zi_F F))), (a2, .inl (cB, 600, .inl (zi_F P))), (a3, .inl (cC, 600, .inl (zi_F G)))] s.heap := hP
  have hl := lv_entry ([.ref x, .int (zi_n p0)]) (n := 3) (Nat.le_of_ble_eq_true rfl)
  rw [lg_entry_eq]
  generalize (lg_sl ([.ref x, .int (zi_n p0)]) ++ List.replicate (3 - (lg_sl ([.ref x, .int (zi_n p0)])).length) Slot.unset).toArray = ls at hl ⊢
  have hl : lv_has ls 3 [(0, .ref x), (1, .int (zi_n p0))] := hl
  refine lv_aload_n hx hb dX4_sign_0 rfl (lv_at hl 0 rfl) ?_
  refine zr_iconst hx hb dX4_sign_1 ?_
  refine va_put (D := D) (ci := 5) (v := .int (zi_n 0)) (ty := .int) (C := RX4) (T := TX4) (N := 9) hx hb hts in_X4_sign_X4 tyX4 tyX4_ok nmX4 hown hK hP hD hS 0 rfl rfl 0 (by decide) (hts (.fieldLink RX4 19 "ZHeadsModel" "fault" "I") (by decide +kernel)) (fun _ h9 => h9) rfl (by decide +kernel) rfl rfl (Nat.le_of_ble_eq_true rfl) dX4_sign_2 (fun H locs hP hD hS => ?_)
  have hP : va_P D vwCl [(x, .inr (5, [.int (zi_n 0), .ref a, .int (zi_n n), .int (zi_n rd), .int (zi_n br), .ref a2, .ref a3, .int (zi_n v), .int (zi_n ln)])), (a, .inl (cA, 600, .inl (zi_F F))), (a2, .inl (cB, 600, .inl (zi_F P))), (a3, .inl (cC, 600, .inl (zi_F G)))] H := hP
  have hD : va_D A [(x, .inr (5, [.int (zi_n 0), .ref a, .int (zi_n n), .int (zi_n rd), .int (zi_n br), .ref a2, .ref a3, .int (zi_n v), .int (zi_n ln)])), (a, .inl (cA, 600, .inl (zi_F F))), (a2, .inl (cB, 600, .inl (zi_F P))), (a3, .inl (cC, 600, .inl (zi_F G)))] := hD
  refine lv_aload_n hx hb dX4_sign_5 rfl (lv_at hl 0 rfl) ?_
  refine va_get (D := D) (ci := 5) (v := .int (zi_n rd)) (C := RX4) (T := TX4) (N := 9) hx hb hts in_X4_sign_X4 hown hK hP 0 rfl rfl 3 (by decide) (hts (.fieldLink RX4 36 "ZHeadsModel" "isRead" "Z") (by decide +kernel)) (fun _ h9 => h9) rfl dX4_sign_6 ?_
  refine zr_if_ne (tgt := 15) hx hb dX4_sign_9 (by decide) (by omega) (fun c_1 => ?_) (fun c_1 => ?_)
  · have hR1 := hR (by omega)
    have hsg := hF (zh_t F 8).toNat
    refine lv_aload_n hx hb dX4_sign_15 rfl (lv_at hl 0 rfl) ?_
    refine zr_bipush hx hb dX4_sign_16 (by decide) ?_
    refine zc_V (As := [.int (zi_n 8)]) (rest := []) ⟨hx, hb, hml, hown, hts⟩ (c_M_two_k l D x a a2 a3 cA cB cC F P G n rd br v ln 0 hF (by omega) hP0 hG (by omega) (by omega) (by omega) (by omega) (by omega) 8 8 rfl (by omega)) (cwV 1 hts gX4_sign_X4_two rfl rfl rfl (by decide +kernel) ⟨(Nat.le_of_ble_eq_true rfl), (Nat.le_of_ble_eq_true rfl)⟩) hP hK [0, 1, 2, 3] [0, 1, 2] rfl rfl (ci := 5) rfl rfl rfl rfl hl.1 rfl (Nat.le_of_ble_eq_true rfl) dX4_sign_18 ⟨Nat.zero_le _, Nat.zero_le _⟩ (fun r hr1 => ?_)
    obtain ⟨rfl, b_2⟩ := hr1
    refine lv_istore_n (lv' := [(2, .int (zi_n (zh_t F 8))), (0, .ref x), (1, .int (zi_n p0))]) hx hb dX4_sign_21 rfl hl (by decide) rfl (fun ls hl => ?_)
    refine lv_iload_n hx hb dX4_sign_22 rfl (lv_at hl 2 rfl) ?_
    refine zr_iconst hx hb dX4_sign_23 ?_
    refine lv_aload_n hx hb dX4_sign_24 rfl (lv_at hl 1 rfl) ?_
    refine va_get (D := D) (ci := 5) (v := .ref a) (C := RX4) (T := TX4) (N := 9) hx hb hts in_X4_sign_X4 hown hK hP 0 rfl rfl 1 (by decide) (hts (.fieldLink RX4 7 "ZHeadsModel" "file" "[I") (by decide +kernel)) (fun _ h9 => h9) rfl dX4_sign_25 ?_
    refine lv_iload_n hx hb dX4_sign_28 rfl (lv_at hl 0 rfl) ?_
    refine zr_iald hx hb hK hP 1 0 rfl rfl (by decide) (by omega) dX4_sign_29 ?_
    have b_3 := hF (zh_t F 8).toNat
    refine zr_iconst hx hb dX4_sign_30 ?_
    refine zr_isub hx hb dX4_sign_31 ?_
    refine zc_S (As := [.int (zi_n p0), .int (zi_n 0), .int (zi_n ((F (zh_t F 8).toNat) - 1))]) (rest := []) ⟨hx, hb, hml, hown, hts⟩ (c_M_in l p0 0 ((F (zh_t F 8).toNat) - 1) (by omega) (by omega) (by omega)) (va_cwS 3 hts gX4_sign_X4_in rfl rfl rfl (by decide +kernel) ⟨(Nat.le_of_ble_eq_true rfl), (Nat.le_of_ble_eq_true rfl)⟩) rfl hl.1 rfl (Nat.le_of_ble_eq_true rfl) dX4_sign_32 ⟨Nat.zero_le _, Nat.zero_le _⟩ (fun r hr1 => ?_)
    rcases hr1 with ⟨rfl, c_4⟩ | ⟨rfl, c_4⟩
    · refine zr_if_eq (tgt := 51) hx hb dX4_sign_35 (by decide) (by omega) (fun c => absurd c (by decide)) (fun c_5 => ?_)
      refine lv_aload_n hx hb dX4_sign_38 rfl (lv_at hl 1 rfl) ?_
      refine va_get (D := D) (ci := 5) (v := .ref a2) (C := RX4) (T := TX4) (N := 9) hx hb hts in_X4_sign_X4 hown hK hP 0 rfl rfl 5 (by decide) (hts (.fieldLink RX4 13 "ZHeadsModel" "read" "[I") (by decide +kernel)) (fun _ h9 => h9) rfl dX4_sign_39 ?_
      refine lv_iload_n hx hb dX4_sign_42 rfl (lv_at hl 0 rfl) ?_
      refine zr_iconst hx hb dX4_sign_43 ?_
      refine zr_iadd hx hb dX4_sign_44 ?_
      refine lv_iload_n hx hb dX4_sign_45 rfl (lv_at hl 2 rfl) ?_
      refine zr_iadd hx hb dX4_sign_46 ?_
      refine zr_iald hx hb hK hP 2 1 rfl rfl (by decide) (by omega) dX4_sign_47 ?_
      have b_6 := hP0 (((zh_t F 8) + 1) + p0).toNat
      refine lv_goto (tgt := 55) hx hb dX4_sign_48 (by decide) ?_
      have e_n_7_0 : zh_qsgT F rd p0 = 0 := by unfold zh_qsgT; first | (exfalso; omega; done) | (rw [if_pos (by omega)]; done) | (rw [if_neg (by omega)]; done) | (rw [if_neg (by omega), if_pos (by omega)]; done) | (rw [if_neg (by omega), if_neg (by omega)]; done)
      have hP9 : va_P D vwCl [(x, .inr (5, [.int (zi_n (zh_qsgT F rd p0)), .ref a, .int (zi_n n), .int (zi_n rd), .int (zi_n br), .ref a2, .ref a3, .int (zi_n v), .int (zi_n ln)])), (a, .inl (cA, 600, .inl (zi_F F))), (a2, .inl (cB, 600, .inl (zi_F P))), (a3, .inl (cC, 600, .inl (zi_F G)))] H := by rw [e_n_7_0]; exact hP
      have hD9 : va_D A [(x, .inr (5, [.int (zi_n (zh_qsgT F rd p0)), .ref a, .int (zi_n n), .int (zi_n rd), .int (zi_n br), .ref a2, .ref a3, .int (zi_n v), .int (zi_n ln)])), (a, .inl (cA, 600, .inl (zi_F F))), (a2, .inl (cB, 600, .inl (zi_F P))), (a3, .inl (cC, 600, .inl (zi_F G)))] := by rw [e_n_7_0]; exact hD
      exact W.iret (v := zi_n (P (((zh_t F 8) + 1) + p0).toNat)) hx hb hr (fun t ht hW => ⟨⟨zi_n (P (((zh_t F 8) + 1) + p0).toNat), (), rfl, zl_r (by unfold zh_qsg; first | (exfalso; omega; done) | (rw [if_pos (by omega)]; done) | (rw [if_neg (by omega)]; done) | (rw [if_neg (by omega), if_pos (by omega)]; done) | (rw [if_neg (by omega), if_neg (by omega)]; done)) (by omega), by rw [ht]; exact hP9, va_K.moved hW.alike hK, hD9⟩, hS.F ht⟩) hS.2.2 dX4_sign_55
    · refine zr_if_eq (tgt := 51) hx hb dX4_sign_35 (by decide) (by omega) (fun c_8 => ?_) (fun c => absurd c (by decide))
      refine lv_aload_n hx hb dX4_sign_51 rfl (lv_at hl 1 rfl) ?_
      refine zc_Vi (As := []) (rest := []) (wr := []) (wf := fun (_ : Unit) => [(x, .inr (5, [.int (zi_n 1), .ref a, .int (zi_n n), .int (zi_n rd), .int (zi_n br), .ref a2, .ref a3, .int (zi_n v), .int (zi_n ln)])), (a, .inl (cA, 600, .inl (zi_F F))), (a2, .inl (cB, 600, .inl (zi_F P))), (a3, .inl (cC, 600, .inl (zi_F G)))]) ⟨hx, hb, hml, hown, hts⟩ (c_M_thrownAt l D x a a2 a3 cA cB cC F P G n rd br v ln 0 hF (by omega) hP0 hG (by omega) (by omega) (by omega) (by omega) (by omega) _) (cwV 0 hts gX4_sign_X4_thrownAt rfl rfl rfl (by decide +kernel) ⟨(Nat.le_of_ble_eq_true rfl), (Nat.le_of_ble_eq_true rfl)⟩) hP hD hK hS hA [0, 1, 2, 3] [] [0, 1, 2] [0, 1, 2, 3] rfl rfl (by decide) rfl (by decide) (by decide) rfl (fun _ => rfl) (fun _ => rfl) (by decide) (ci := 5) rfl rfl rfl rfl hl.1 rfl (Nat.le_of_ble_eq_true rfl) dX4_sign_52 ⟨Nat.zero_le _, Nat.zero_le _⟩ (fun r _ hr1 H locs hP hD hS => ?_)
      have hP : va_P D vwCl [(x, .inr (5, [.int (zi_n 1), .ref a, .int (zi_n n), .int (zi_n rd), .int (zi_n br), .ref a2, .ref a3, .int (zi_n v), .int (zi_n ln)])), (a, .inl (cA, 600, .inl (zi_F F))), (a2, .inl (cB, 600, .inl (zi_F P))), (a3, .inl (cC, 600, .inl (zi_F G)))] H := hP
      have hD : va_D A [(x, .inr (5, [.int (zi_n 1), .ref a, .int (zi_n n), .int (zi_n rd), .int (zi_n br), .ref a2, .ref a3, .int (zi_n v), .int (zi_n ln)])), (a, .inl (cA, 600, .inl (zi_F F))), (a2, .inl (cB, 600, .inl (zi_F P))), (a3, .inl (cC, 600, .inl (zi_F G)))] := hD
      obtain ⟨rfl, b_9⟩ := hr1
      have e_n_10_0 : zh_qsgT F rd p0 = 1 := by unfold zh_qsgT; first | (exfalso; omega; done) | (rw [if_pos (by omega)]; done) | (rw [if_neg (by omega)]; done) | (rw [if_neg (by omega), if_pos (by omega)]; done) | (rw [if_neg (by omega), if_neg (by omega)]; done)
      have hP9 : va_P D vwCl [(x, .inr (5, [.int (zi_n (zh_qsgT F rd p0)), .ref a, .int (zi_n n), .int (zi_n rd), .int (zi_n br), .ref a2, .ref a3, .int (zi_n v), .int (zi_n ln)])), (a, .inl (cA, 600, .inl (zi_F F))), (a2, .inl (cB, 600, .inl (zi_F P))), (a3, .inl (cC, 600, .inl (zi_F G)))] H := by rw [e_n_10_0]; exact hP
      have hD9 : va_D A [(x, .inr (5, [.int (zi_n (zh_qsgT F rd p0)), .ref a, .int (zi_n n), .int (zi_n rd), .int (zi_n br), .ref a2, .ref a3, .int (zi_n v), .int (zi_n ln)])), (a, .inl (cA, 600, .inl (zi_F F))), (a2, .inl (cB, 600, .inl (zi_F P))), (a3, .inl (cC, 600, .inl (zi_F G)))] := by rw [e_n_10_0]; exact hD
      exact W.iret (v := zi_n 0) hx hb hr (fun t ht hW => ⟨⟨zi_n 0, (), rfl, zl_r (by unfold zh_qsg; first | (exfalso; omega; done) | (rw [if_pos (by omega)]; done) | (rw [if_neg (by omega)]; done) | (rw [if_neg (by omega), if_pos (by omega)]; done) | (rw [if_neg (by omega), if_neg (by omega)]; done)) (by omega), by rw [ht]; exact hP9, va_K.moved hW.alike hK, hD9⟩, hS.F ht⟩) hS.2.2 dX4_sign_55
  · refine zr_bipush hx hb dX4_sign_12 (by decide) ?_
    have e_n_11_0 : zh_qsgT F rd p0 = 0 := by unfold zh_qsgT; first | (exfalso; omega; done) | (rw [if_pos (by omega)]; done) | (rw [if_neg (by omega)]; done) | (rw [if_neg (by omega), if_pos (by omega)]; done) | (rw [if_neg (by omega), if_neg (by omega)]; done)
    have hP9 : va_P D vwCl [(x, .inr (5, [.int (zi_n (zh_qsgT F rd p0)), .ref a, .int (zi_n n), .int (zi_n rd), .int (zi_n br), .ref a2, .ref a3, .int (zi_n v), .int (zi_n ln)])), (a, .inl (cA, 600, .inl (zi_F F))), (a2, .inl (cB, 600, .inl (zi_F P))), (a3, .inl (cC, 600, .inl (zi_F G)))] H := by rw [e_n_11_0]; exact hP
    have hD9 : va_D A [(x, .inr (5, [.int (zi_n (zh_qsgT F rd p0)), .ref a, .int (zi_n n), .int (zi_n rd), .int (zi_n br), .ref a2, .ref a3, .int (zi_n v), .int (zi_n ln)])), (a, .inl (cA, 600, .inl (zi_F F))), (a2, .inl (cB, 600, .inl (zi_F P))), (a3, .inl (cC, 600, .inl (zi_F G)))] := by rw [e_n_11_0]; exact hD
    exact W.iret (v := zi_n (-11)) hx hb hr (fun t ht hW => ⟨⟨zi_n (-11), (), rfl, zl_r (by unfold zh_qsg; first | (exfalso; omega; done) | (rw [if_pos (by omega)]; done) | (rw [if_neg (by omega)]; done) | (rw [if_neg (by omega), if_pos (by omega)]; done) | (rw [if_neg (by omega), if_neg (by omega)]; done)) (by omega), by rw [ht]; exact hP9, va_K.moved hW.alike hK, hD9⟩, hS.F ht⟩) hS.2.2 dX4_sign_14

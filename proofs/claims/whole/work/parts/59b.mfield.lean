theorem in_X4_field_X4 : ∀ w ∈ u_ws RX4 TX4 9, w ∈ wsX4_field := by decide +kernel
set_option maxHeartbeats 4000000 in
set_option maxRecDepth 100000 in
theorem c_M_field (l : Launch) (D : va_G) (x a a2 a3 : Nat) (cA cB cC : ClassId) (F P G : Nat → Int) (n rd br v ln ft : Int) (hF : zi_By F) (hn : 0 ≤ n ∧ n ≤ 600) (hP0 : zi_By P) (hG : zi_By G) (hrd : rd = 0 ∨ rd = 1) (hbr : 0 ≤ br ∧ br ≤ 15) (hv0 : 0 ≤ v ∧ v ≤ 255) (hln : 0 ≤ ln ∧ ln ≤ 524280) (hft : 0 ≤ ft ∧ ft ≤ 1) (sz : Nat) (p0 : Int) (hR : rd = 1 → 64 ≤ n ∧ v = F 0 ∧ ln = zh_len F n ∧ (1 ≤ F 0 ∧ F 0 ≤ 8) ∧ (64 ≤ ln ∧ ln ≤ n) ∧ (64 ≤ zh_t F 14 ∧ zh_t F 14 ≤ ln) ∧ (64 ≤ zh_t F 12 ∧ zh_t F 12 + 480 ≤ zh_t F 14) ∧ (64 ≤ zh_t F 8 ∧ zh_t F 8 + F (zh_t F 8).toNat + 3 < n)) (hO : rd = 1 → 5 ≤ F 0 → zh_t F 54 + 7 < 600 ∨ (zh_t F 54 + 1 < 600 ∧ zh_T F (zh_t F 54) ≤ 2)) (hMo : rd = 1 → zh_mw F n = zh_mof F v 11 ∧ zh_third F n = zh_mof F v 12) (rp0 : zi_R p0) : Met l yX4_field wsX4_field ({ frames := 2, cells := 0, slots := 0, locals := 43 }) (va_Pc [.ref x, .int (zi_n p0)] (zp_P D vwCl sz [(x, .inr (5, [.int (zi_n ft), .ref a, .int (zi_n n), .int (zi_n rd), .int (zi_n br), .ref a2, .ref a3, .int (zi_n v), .int (zi_n ln)])), (a, .inl (cA, 600, .inl (zi_F F))), (a2, .inl (cB, 600, .inl (zi_F P))), (a3, .inl (cC, 600, .inl (zi_F G)))] [(cA, .int), (cB, .int), (cC, .int)])) (va_Qi (fun (r : Int32) (_ : Unit) => r = zi_n (zh_fldE F n rd p0) ∧ -32768 ≤ (zh_fldE F n rd p0) ∧ (zh_fldE F n rd p0) ≤ 786420) (fun (_ : Unit) => zp_B D vwCl [(cA, .int), (cB, .int), (cC, .int)] (va_A [(x, .inr (5, [.int (zi_n ft), .ref a, .int (zi_n n), .int (zi_n rd), .int (zi_n br), .ref a2, .ref a3, .int (zi_n v), .int (zi_n ln)])), (a, .inl (cA, 600, .inl (zi_F F))), (a2, .inl (cB, 600, .inl (zi_F P))), (a3, .inl (cC, 600, .inl (zi_F G)))] sz) [(x, .inr (5, [.int (zi_n 0), .ref a, .int (zi_n n), .int (zi_n rd), .int (zi_n br), .ref a2, .ref a3, .int (zi_n v), .int (zi_n ln)])), (a, .inl (cA, 600, .inl (zi_F F))), (a2, .inl (cB, 600, .inl (zi_F P))), (a3, .inl (cC, 600, .inl (zi_F G)))]) (va_A [(x, .inr (5, [.int (zi_n ft), .ref a, .int (zi_n n), .int (zi_n rd), .int (zi_n br), .ref a2, .ref a3, .int (zi_n v), .int (zi_n ln)])), (a, .inl (cA, 600, .inl (zi_F F))), (a2, .inl (cB, 600, .inl (zi_F P))), (a3, .inl (cC, 600, .inl (zi_F G)))] sz)) 0 0 (va_A [(x, .inr (5, [.int (zi_n ft), .ref a, .int (zi_n n), .int (zi_n rd), .int (zi_n br), .ref a2, .ref a3, .int (zi_n v), .int (zi_n ln)])), (a, .inl (cA, 600, .inl (zi_F F))), (a2, .inl (cB, 600, .inl (zi_F P))), (a3, .inl (cC, 600, .inl (zi_F G)))] sz) := by
  refine Met.ofW (cc := cX4_field) (maxL := 3) (ret := (some .int)) (by decide) rfl ?_
  intro p e s m args below meth c s₁ B hml hv
  obtain ⟨rfl, hsz, hP, hK, hD0⟩ := hv
  have hx := B.exec
  have hb := B.bytes
  have hr := B.returns
  have hts := atoms_spec (ws := wsX4_field) B.pre
  have hown : s.vm.findClass RX4 = some m.cls := findClass_of_methodNamed B.named
  have hlocks := B.notSynchronized
  subst hsz
  have hD := hD0.self (sz := s.heap.size)
  generalize hAe : va_A [(x, .inr (5, [.int (zi_n ft), .ref a, .int (zi_n n), .int (zi_n rd), .int (zi_n br), .ref a2, .ref a3, .int (zi_n v), .int (zi_n ln)])), (a, .inl (cA, 600, .inl (zi_F F))), (a2, .inl (cB, 600, .inl (zi_F P))), (a3, .inl (cC, 600, .inl (zi_F G)))] s.heap.size = A at hD ⊢
  have hA : ∀ q : Nat, s.heap.size ≤ q → A q := fun q h => by rw [← hAe]; exact Or.inr h
  have hS : va_S A s.heap s.heap [] := va_S.rf
  have hP : va_P D vwCl [(x, .inr (5, [.int (zi_n ft), .ref a, .int (zi_n n), .int (zi_n rd), .int (zi_n br), .ref a2, .ref a3, .int (zi_n v), .int (zi_n ln)])), (a, .inl (cA, 600, .inl (zi_F F))), (a2, .inl (cB, 600, .inl (zi_F P))), (a3, .inl (cC, 600, .inl (zi_F G)))] s.heap := hP
  have hl := lv_entry ([.ref x, .int (zi_n p0)]) (n := 3) (Nat.le_of_ble_eq_true rfl)
  rw [lg_entry_eq]
  generalize (lg_sl ([.ref x, .int (zi_n p0)]) ++ List.replicate (3 - (lg_sl ([.ref x, .int (zi_n p0)])).length) Slot.unset).toArray = ls at hl ⊢
  have hl : lv_has ls 3 [(0, .ref x), (1, .int (zi_n p0))] := hl
  refine lv_aload_n hx hb dX4_field_0 rfl (lv_at hl 0 rfl) ?_
  refine zr_iconst hx hb dX4_field_1 ?_
  refine va_put (D := D) (ci := 5) (v := .int (zi_n 0)) (ty := .int) (C := RX4) (T := TX4) (N := 9) hx hb hts in_X4_field_X4 tyX4 tyX4_ok nmX4 hown hK hP hD hS 0 rfl rfl 0 (by decide) (hts (.fieldLink RX4 19 "ZHeadsModel" "fault" "I") (by decide +kernel)) (fun _ h9 => h9) rfl (by decide +kernel) rfl rfl (Nat.le_of_ble_eq_true rfl) dX4_field_2 (fun H locs hP hD hS => ?_)
  have hP : va_P D vwCl [(x, .inr (5, [.int (zi_n 0), .ref a, .int (zi_n n), .int (zi_n rd), .int (zi_n br), .ref a2, .ref a3, .int (zi_n v), .int (zi_n ln)])), (a, .inl (cA, 600, .inl (zi_F F))), (a2, .inl (cB, 600, .inl (zi_F P))), (a3, .inl (cC, 600, .inl (zi_F G)))] H := hP
  have hD : va_D A [(x, .inr (5, [.int (zi_n 0), .ref a, .int (zi_n n), .int (zi_n rd), .int (zi_n br), .ref a2, .ref a3, .int (zi_n v), .int (zi_n ln)])), (a, .inl (cA, 600, .inl (zi_F F))), (a2, .inl (cB, 600, .inl (zi_F P))), (a3, .inl (cC, 600, .inl (zi_F G)))] := hD
  refine lv_aload_n hx hb dX4_field_5 rfl (lv_at hl 0 rfl) ?_
  refine va_get (D := D) (ci := 5) (v := .int (zi_n rd)) (C := RX4) (T := TX4) (N := 9) hx hb hts in_X4_field_X4 hown hK hP 0 rfl rfl 3 (by decide) (hts (.fieldLink RX4 36 "ZHeadsModel" "isRead" "Z") (by decide +kernel)) (fun _ h9 => h9) rfl dX4_field_6 ?_
  refine zr_if_ne (tgt := 15) hx hb dX4_field_9 (by decide) (by omega) (fun c_1 => ?_) (fun c_1 => ?_)
  · have hR1 := hR (by omega)
    have hO1 := hO (by omega)
    have hsg := hF (zh_t F 8).toNat
    have hs5 := zi_sh_b (zh_T F (zh_t F 8 + 2 + F (zh_t F 8).toNat))
    refine lv_aload_n hx hb dX4_field_15 rfl (lv_at hl 0 rfl) ?_
    refine zr_bipush hx hb dX4_field_16 (by decide) ?_
    refine zc_V (As := [.int (zi_n 8)]) (rest := []) ⟨hx, hb, hml, hown, hts⟩ (c_M_two_k l D x a a2 a3 cA cB cC F P G n rd br v ln 0 hF (by omega) hP0 hG (by omega) (by omega) (by omega) (by omega) (by omega) 8 8 rfl (by omega)) (cwV 1 hts gX4_field_X4_two rfl rfl rfl (by decide +kernel) ⟨(Nat.le_of_ble_eq_true rfl), (Nat.le_of_ble_eq_true rfl)⟩) hP hK [0, 1, 2, 3] [0, 1, 2] rfl rfl (ci := 5) rfl rfl rfl rfl hl.1 rfl (Nat.le_of_ble_eq_true rfl) dX4_field_18 ⟨Nat.zero_le _, Nat.zero_le _⟩ (fun r hr1 => ?_)
    obtain ⟨rfl, b_2⟩ := hr1
    refine lv_istore_n (lv' := [(2, .int (zi_n (zh_t F 8))), (0, .ref x), (1, .int (zi_n p0))]) hx hb dX4_field_21 rfl hl (by decide) rfl (fun ls hl => ?_)
    refine lv_iload_n hx hb dX4_field_22 rfl (lv_at hl 2 rfl) ?_
    rcases (show p0 = 0 ∨ p0 = 1 ∨ p0 = 2 ∨ p0 = 3 ∨ p0 = 4 ∨ p0 = 5 ∨ p0 = 6 ∨ p0 = 7 ∨ p0 = 8 ∨ p0 = 9 ∨ p0 = 10 ∨ p0 = 11 ∨ p0 = 12 ∨ p0 = 13 ∨ p0 = 14 ∨ p0 = 15 ∨ p0 = 16 ∨ p0 = 17 ∨ (p0 < 0 ∨ 17 < p0) by omega) with rfl | rfl | rfl | rfl | rfl | rfl | rfl | rfl | rfl | rfl | rfl | rfl | rfl | rfl | rfl | rfl | rfl | rfl | c_3
    · skip
      refine zr_tabIn (tgt := 108) hx hb dX4_field_23 (by decide) (by decide) (by decide) rfl (by decide) ?_
      refine lv_aload_n hx hb dX4_field_108 rfl (lv_at hl 1 rfl) ?_
      refine va_get (D := D) (ci := 5) (v := .int (zi_n v)) (C := RX4) (T := TX4) (N := 9) hx hb hts in_X4_field_X4 hown hK hP 0 rfl rfl 7 (by decide) (hts (.fieldLink RX4 51 "ZHeadsModel" "version" "I") (by decide +kernel)) (fun _ h9 => h9) rfl dX4_field_109 ?_
      have hP9 : va_P D vwCl [(x, .inr (5, [.int (zi_n 0), .ref a, .int (zi_n n), .int (zi_n rd), .int (zi_n br), .ref a2, .ref a3, .int (zi_n v), .int (zi_n ln)])), (a, .inl (cA, 600, .inl (zi_F F))), (a2, .inl (cB, 600, .inl (zi_F P))), (a3, .inl (cC, 600, .inl (zi_F G)))] H := hP
      have hD9 : va_D A [(x, .inr (5, [.int (zi_n 0), .ref a, .int (zi_n n), .int (zi_n rd), .int (zi_n br), .ref a2, .ref a3, .int (zi_n v), .int (zi_n ln)])), (a, .inl (cA, 600, .inl (zi_F F))), (a2, .inl (cB, 600, .inl (zi_F P))), (a3, .inl (cC, 600, .inl (zi_F G)))] := hD
      exact W.iret (v := zi_n v) hx hb hr (fun t ht hW => ⟨⟨zi_n v, (), rfl, zl_r (by unfold zh_fldE; rw [if_neg (by omega), if_neg (by omega)]; show F 0 = _; omega) (by omega), by rw [ht]; exact hP9, va_K.moved hW.alike hK, hD9⟩, hS.F ht⟩) hS.2.2 dX4_field_112
    · skip
      refine zr_tabIn (tgt := 113) hx hb dX4_field_23 (by decide) (by decide) (by decide) rfl (by decide) ?_
      refine lv_aload_n hx hb dX4_field_113 rfl (lv_at hl 1 rfl) ?_
      refine va_get (D := D) (ci := 5) (v := .int (zi_n ln)) (C := RX4) (T := TX4) (N := 9) hx hb hts in_X4_field_X4 hown hK hP 0 rfl rfl 8 (by decide) (hts (.fieldLink RX4 54 "ZHeadsModel" "length" "I") (by decide +kernel)) (fun _ h9 => h9) rfl dX4_field_114 ?_
      have hP9 : va_P D vwCl [(x, .inr (5, [.int (zi_n 0), .ref a, .int (zi_n n), .int (zi_n rd), .int (zi_n br), .ref a2, .ref a3, .int (zi_n v), .int (zi_n ln)])), (a, .inl (cA, 600, .inl (zi_F F))), (a2, .inl (cB, 600, .inl (zi_F P))), (a3, .inl (cC, 600, .inl (zi_F G)))] H := hP
      have hD9 : va_D A [(x, .inr (5, [.int (zi_n 0), .ref a, .int (zi_n n), .int (zi_n rd), .int (zi_n br), .ref a2, .ref a3, .int (zi_n v), .int (zi_n ln)])), (a, .inl (cA, 600, .inl (zi_F F))), (a2, .inl (cB, 600, .inl (zi_F P))), (a3, .inl (cC, 600, .inl (zi_F G)))] := hD
      exact W.iret (v := zi_n ln) hx hb hr (fun t ht hW => ⟨⟨zi_n ln, (), rfl, zl_r (by unfold zh_fldE; rw [if_neg (by omega), if_neg (by omega)]; show zh_len F n = _; omega) (by omega), by rw [ht]; exact hP9, va_K.moved hW.alike hK, hD9⟩, hS.F ht⟩) hS.2.2 dX4_field_117
    · skip
      refine zr_tabIn (tgt := 118) hx hb dX4_field_23 (by decide) (by decide) (by decide) rfl (by decide) ?_
      refine lv_aload_n hx hb dX4_field_118 rfl (lv_at hl 1 rfl) ?_
      refine zr_bipush hx hb dX4_field_119 (by decide) ?_
      refine zc_V (As := [.int (zi_n 14)]) (rest := []) ⟨hx, hb, hml, hown, hts⟩ (c_M_two_k l D x a a2 a3 cA cB cC F P G n rd br v ln 0 hF (by omega) hP0 hG (by omega) (by omega) (by omega) (by omega) (by omega) 14 14 rfl (by omega)) (cwV 1 hts gX4_field_X4_two rfl rfl rfl (by decide +kernel) ⟨(Nat.le_of_ble_eq_true rfl), (Nat.le_of_ble_eq_true rfl)⟩) hP hK [0, 1, 2, 3] [0, 1, 2] rfl rfl (ci := 5) rfl rfl rfl rfl hl.1 rfl (Nat.le_of_ble_eq_true rfl) dX4_field_121 ⟨Nat.zero_le _, Nat.zero_le _⟩ (fun r hr1 => ?_)
      obtain ⟨rfl, b_6⟩ := hr1
      have hP9 : va_P D vwCl [(x, .inr (5, [.int (zi_n 0), .ref a, .int (zi_n n), .int (zi_n rd), .int (zi_n br), .ref a2, .ref a3, .int (zi_n v), .int (zi_n ln)])), (a, .inl (cA, 600, .inl (zi_F F))), (a2, .inl (cB, 600, .inl (zi_F P))), (a3, .inl (cC, 600, .inl (zi_F G)))] H := hP
      have hD9 : va_D A [(x, .inr (5, [.int (zi_n 0), .ref a, .int (zi_n n), .int (zi_n rd), .int (zi_n br), .ref a2, .ref a3, .int (zi_n v), .int (zi_n ln)])), (a, .inl (cA, 600, .inl (zi_F F))), (a2, .inl (cB, 600, .inl (zi_F P))), (a3, .inl (cC, 600, .inl (zi_F G)))] := hD
      exact W.iret (v := zi_n (zh_t F 14)) hx hb hr (fun t ht hW => ⟨⟨zi_n (zh_t F 14), (), rfl, zl_r (by unfold zh_fldE; rw [if_neg (by omega), if_neg (by omega)]; show zh_t F 14 = _; omega) (by omega), by rw [ht]; exact hP9, va_K.moved hW.alike hK, hD9⟩, hS.F ht⟩) hS.2.2 dX4_field_124
    · skip
      refine zr_tabIn (tgt := 125) hx hb dX4_field_23 (by decide) (by decide) (by decide) rfl (by decide) ?_
      refine lv_aload_n hx hb dX4_field_125 rfl (lv_at hl 1 rfl) ?_
      refine zr_iconst hx hb dX4_field_126 ?_
      refine zc_V (As := [.int (zi_n 4)]) (rest := []) ⟨hx, hb, hml, hown, hts⟩ (c_M_two_k l D x a a2 a3 cA cB cC F P G n rd br v ln 0 hF (by omega) hP0 hG (by omega) (by omega) (by omega) (by omega) (by omega) 4 4 rfl (by omega)) (cwV 1 hts gX4_field_X4_two rfl rfl rfl (by decide +kernel) ⟨(Nat.le_of_ble_eq_true rfl), (Nat.le_of_ble_eq_true rfl)⟩) hP hK [0, 1, 2, 3] [0, 1, 2] rfl rfl (ci := 5) rfl rfl rfl rfl hl.1 rfl (Nat.le_of_ble_eq_true rfl) dX4_field_127 ⟨Nat.zero_le _, Nat.zero_le _⟩ (fun r hr1 => ?_)
      obtain ⟨rfl, b_8⟩ := hr1
      have hP9 : va_P D vwCl [(x, .inr (5, [.int (zi_n 0), .ref a, .int (zi_n n), .int (zi_n rd), .int (zi_n br), .ref a2, .ref a3, .int (zi_n v), .int (zi_n ln)])), (a, .inl (cA, 600, .inl (zi_F F))), (a2, .inl (cB, 600, .inl (zi_F P))), (a3, .inl (cC, 600, .inl (zi_F G)))] H := hP
      have hD9 : va_D A [(x, .inr (5, [.int (zi_n 0), .ref a, .int (zi_n n), .int (zi_n rd), .int (zi_n br), .ref a2, .ref a3, .int (zi_n v), .int (zi_n ln)])), (a, .inl (cA, 600, .inl (zi_F F))), (a2, .inl (cB, 600, .inl (zi_F P))), (a3, .inl (cC, 600, .inl (zi_F G)))] := hD
      exact W.iret (v := zi_n (zh_t F 4)) hx hb hr (fun t ht hW => ⟨⟨zi_n (zh_t F 4), (), rfl, zl_r (by unfold zh_fldE; rw [if_neg (by omega), if_neg (by omega)]; show zh_t F 4 = _; omega) (by omega), by rw [ht]; exact hP9, va_K.moved hW.alike hK, hD9⟩, hS.F ht⟩) hS.2.2 dX4_field_130
    · skip
      refine zr_tabIn (tgt := 131) hx hb dX4_field_23 (by decide) (by decide) (by decide) rfl (by decide) ?_
      refine lv_aload_n hx hb dX4_field_131 rfl (lv_at hl 1 rfl) ?_
      refine zr_bipush hx hb dX4_field_132 (by decide) ?_
      refine zc_V (As := [.int (zi_n 12)]) (rest := []) ⟨hx, hb, hml, hown, hts⟩ (c_M_two_k l D x a a2 a3 cA cB cC F P G n rd br v ln 0 hF (by omega) hP0 hG (by omega) (by omega) (by omega) (by omega) (by omega) 12 12 rfl (by omega)) (cwV 1 hts gX4_field_X4_two rfl rfl rfl (by decide +kernel) ⟨(Nat.le_of_ble_eq_true rfl), (Nat.le_of_ble_eq_true rfl)⟩) hP hK [0, 1, 2, 3] [0, 1, 2] rfl rfl (ci := 5) rfl rfl rfl rfl hl.1 rfl (Nat.le_of_ble_eq_true rfl) dX4_field_134 ⟨Nat.zero_le _, Nat.zero_le _⟩ (fun r hr1 => ?_)
      obtain ⟨rfl, b_10⟩ := hr1
      have hP9 : va_P D vwCl [(x, .inr (5, [.int (zi_n 0), .ref a, .int (zi_n n), .int (zi_n rd), .int (zi_n br), .ref a2, .ref a3, .int (zi_n v), .int (zi_n ln)])), (a, .inl (cA, 600, .inl (zi_F F))), (a2, .inl (cB, 600, .inl (zi_F P))), (a3, .inl (cC, 600, .inl (zi_F G)))] H := hP
      have hD9 : va_D A [(x, .inr (5, [.int (zi_n 0), .ref a, .int (zi_n n), .int (zi_n rd), .int (zi_n br), .ref a2, .ref a3, .int (zi_n v), .int (zi_n ln)])), (a, .inl (cA, 600, .inl (zi_F F))), (a2, .inl (cB, 600, .inl (zi_F P))), (a3, .inl (cC, 600, .inl (zi_F G)))] := hD
      exact W.iret (v := zi_n (zh_t F 12)) hx hb hr (fun t ht hW => ⟨⟨zi_n (zh_t F 12), (), rfl, zl_r (by unfold zh_fldE; rw [if_neg (by omega), if_neg (by omega)]; show zh_t F 12 = _; omega) (by omega), by rw [ht]; exact hP9, va_K.moved hW.alike hK, hD9⟩, hS.F ht⟩) hS.2.2 dX4_field_137
    · skip
      refine zr_tabIn (tgt := 138) hx hb dX4_field_23 (by decide) (by decide) (by decide) rfl (by decide) ?_
      refine lv_aload_n hx hb dX4_field_138 rfl (lv_at hl 1 rfl) ?_
      refine zr_bipush hx hb dX4_field_139 (by decide) ?_
      refine zc_V (As := [.int (zi_n 10)]) (rest := []) ⟨hx, hb, hml, hown, hts⟩ (c_M_two_k l D x a a2 a3 cA cB cC F P G n rd br v ln 0 hF (by omega) hP0 hG (by omega) (by omega) (by omega) (by omega) (by omega) 10 10 rfl (by omega)) (cwV 1 hts gX4_field_X4_two rfl rfl rfl (by decide +kernel) ⟨(Nat.le_of_ble_eq_true rfl), (Nat.le_of_ble_eq_true rfl)⟩) hP hK [0, 1, 2, 3] [0, 1, 2] rfl rfl (ci := 5) rfl rfl rfl rfl hl.1 rfl (Nat.le_of_ble_eq_true rfl) dX4_field_141 ⟨Nat.zero_le _, Nat.zero_le _⟩ (fun r hr1 => ?_)
      obtain ⟨rfl, b_12⟩ := hr1
      have hP9 : va_P D vwCl [(x, .inr (5, [.int (zi_n 0), .ref a, .int (zi_n n), .int (zi_n rd), .int (zi_n br), .ref a2, .ref a3, .int (zi_n v), .int (zi_n ln)])), (a, .inl (cA, 600, .inl (zi_F F))), (a2, .inl (cB, 600, .inl (zi_F P))), (a3, .inl (cC, 600, .inl (zi_F G)))] H := hP
      have hD9 : va_D A [(x, .inr (5, [.int (zi_n 0), .ref a, .int (zi_n n), .int (zi_n rd), .int (zi_n br), .ref a2, .ref a3, .int (zi_n v), .int (zi_n ln)])), (a, .inl (cA, 600, .inl (zi_F F))), (a2, .inl (cB, 600, .inl (zi_F P))), (a3, .inl (cC, 600, .inl (zi_F G)))] := hD
      exact W.iret (v := zi_n (zh_t F 10)) hx hb hr (fun t ht hW => ⟨⟨zi_n (zh_t F 10), (), rfl, zl_r (by unfold zh_fldE; rw [if_neg (by omega), if_neg (by omega)]; show zh_t F 10 = _; omega) (by omega), by rw [ht]; exact hP9, va_K.moved hW.alike hK, hD9⟩, hS.F ht⟩) hS.2.2 dX4_field_144
    · skip
      refine zr_tabIn (tgt := 145) hx hb dX4_field_23 (by decide) (by decide) (by decide) rfl (by decide) ?_
      refine lv_iload_n hx hb dX4_field_145 rfl (lv_at hl 0 rfl) ?_
      have hP9 : va_P D vwCl [(x, .inr (5, [.int (zi_n 0), .ref a, .int (zi_n n), .int (zi_n rd), .int (zi_n br), .ref a2, .ref a3, .int (zi_n v), .int (zi_n ln)])), (a, .inl (cA, 600, .inl (zi_F F))), (a2, .inl (cB, 600, .inl (zi_F P))), (a3, .inl (cC, 600, .inl (zi_F G)))] H := hP
      have hD9 : va_D A [(x, .inr (5, [.int (zi_n 0), .ref a, .int (zi_n n), .int (zi_n rd), .int (zi_n br), .ref a2, .ref a3, .int (zi_n v), .int (zi_n ln)])), (a, .inl (cA, 600, .inl (zi_F F))), (a2, .inl (cB, 600, .inl (zi_F P))), (a3, .inl (cC, 600, .inl (zi_F G)))] := hD
      exact W.iret (v := zi_n (zh_t F 8)) hx hb hr (fun t ht hW => ⟨⟨zi_n (zh_t F 8), (), rfl, zl_r (by unfold zh_fldE; rw [if_neg (by omega), if_neg (by omega)]; show zh_t F 8 = _; omega) (by omega), by rw [ht]; exact hP9, va_K.moved hW.alike hK, hD9⟩, hS.F ht⟩) hS.2.2 dX4_field_146
    · skip
      refine zr_tabIn (tgt := 147) hx hb dX4_field_23 (by decide) (by decide) (by decide) rfl (by decide) ?_
      refine lv_aload_n hx hb dX4_field_147 rfl (lv_at hl 1 rfl) ?_
      refine va_get (D := D) (ci := 5) (v := .int (zi_n v)) (C := RX4) (T := TX4) (N := 9) hx hb hts in_X4_field_X4 hown hK hP 0 rfl rfl 7 (by decide) (hts (.fieldLink RX4 51 "ZHeadsModel" "version" "I") (by decide +kernel)) (fun _ h9 => h9) rfl dX4_field_148 ?_
      refine zr_iconst hx hb dX4_field_151 ?_
      refine zr_icmp_ne (tgt := 159) hx hb dX4_field_152 (by decide) (by omega) (by omega) (fun c_15 => ?_) (fun c_15 => ?_)
      · refine lv_aload_n hx hb dX4_field_159 rfl (lv_at hl 1 rfl) ?_
        refine zr_bipush hx hb dX4_field_160 (by decide) ?_
        refine zc_V (As := [.int (zi_n 24)]) (rest := []) ⟨hx, hb, hml, hown, hts⟩ (c_M_two_k l D x a a2 a3 cA cB cC F P G n rd br v ln 0 hF (by omega) hP0 hG (by omega) (by omega) (by omega) (by omega) (by omega) 24 24 rfl (by omega)) (cwV 1 hts gX4_field_X4_two rfl rfl rfl (by decide +kernel) ⟨(Nat.le_of_ble_eq_true rfl), (Nat.le_of_ble_eq_true rfl)⟩) hP hK [0, 1, 2, 3] [0, 1, 2] rfl rfl (ci := 5) rfl rfl rfl rfl hl.1 rfl (Nat.le_of_ble_eq_true rfl) dX4_field_162 ⟨Nat.zero_le _, Nat.zero_le _⟩ (fun r hr1 => ?_)
        obtain ⟨rfl, b_16⟩ := hr1
        have hP9 : va_P D vwCl [(x, .inr (5, [.int (zi_n 0), .ref a, .int (zi_n n), .int (zi_n rd), .int (zi_n br), .ref a2, .ref a3, .int (zi_n v), .int (zi_n ln)])), (a, .inl (cA, 600, .inl (zi_F F))), (a2, .inl (cB, 600, .inl (zi_F P))), (a3, .inl (cC, 600, .inl (zi_F G)))] H := hP
        have hD9 : va_D A [(x, .inr (5, [.int (zi_n 0), .ref a, .int (zi_n n), .int (zi_n rd), .int (zi_n br), .ref a2, .ref a3, .int (zi_n v), .int (zi_n ln)])), (a, .inl (cA, 600, .inl (zi_F F))), (a2, .inl (cB, 600, .inl (zi_F P))), (a3, .inl (cC, 600, .inl (zi_F G)))] := hD
        exact W.iret (v := zi_n (zh_t F 24)) hx hb hr (fun t ht hW => ⟨⟨zi_n (zh_t F 24), (), rfl, zl_r (by unfold zh_fldE; rw [if_neg (by omega), if_neg (by omega)]; show zh_shorts F = _; unfold zh_shorts; split <;> omega) (by omega), by rw [ht]; exact hP9, va_K.moved hW.alike hK, hD9⟩, hS.F ht⟩) hS.2.2 dX4_field_165
      · refine zr_iconst hx hb dX4_field_155 ?_
        refine lv_goto (tgt := 165) hx hb dX4_field_156 (by decide) ?_
        have hP9 : va_P D vwCl [(x, .inr (5, [.int (zi_n 0), .ref a, .int (zi_n n), .int (zi_n rd), .int (zi_n br), .ref a2, .ref a3, .int (zi_n v), .int (zi_n ln)])), (a, .inl (cA, 600, .inl (zi_F F))), (a2, .inl (cB, 600, .inl (zi_F P))), (a3, .inl (cC, 600, .inl (zi_F G)))] H := hP
        have hD9 : va_D A [(x, .inr (5, [.int (zi_n 0), .ref a, .int (zi_n n), .int (zi_n rd), .int (zi_n br), .ref a2, .ref a3, .int (zi_n v), .int (zi_n ln)])), (a, .inl (cA, 600, .inl (zi_F F))), (a2, .inl (cB, 600, .inl (zi_F P))), (a3, .inl (cC, 600, .inl (zi_F G)))] := hD
        exact W.iret (v := zi_n 0) hx hb hr (fun t ht hW => ⟨⟨zi_n 0, (), rfl, zl_r (by unfold zh_fldE; rw [if_neg (by omega), if_neg (by omega)]; show zh_shorts F = _; unfold zh_shorts; split <;> omega) (by omega), by rw [ht]; exact hP9, va_K.moved hW.alike hK, hD9⟩, hS.F ht⟩) hS.2.2 dX4_field_165
    · skip
      refine zr_tabIn (tgt := 166) hx hb dX4_field_23 (by decide) (by decide) (by decide) rfl (by decide) ?_
      refine lv_aload_n hx hb dX4_field_166 rfl (lv_at hl 1 rfl) ?_
      refine zc_V (As := []) (rest := []) ⟨hx, hb, hml, hown, hts⟩ (c_M_startOf l D x a a2 a3 cA cB cC F P G n rd br v ln 0 hF (by omega) hP0 hG (by omega) (by omega) (by omega) (by omega) (by omega)) (cwV 0 hts gX4_field_X4_startOf rfl rfl rfl (by decide +kernel) ⟨(Nat.le_of_ble_eq_true rfl), (Nat.le_of_ble_eq_true rfl)⟩) hP hK [0, 1, 2, 3] [0, 1, 2] rfl rfl (ci := 5) rfl rfl rfl rfl hl.1 rfl (Nat.le_of_ble_eq_true rfl) dX4_field_167 ⟨Nat.zero_le _, Nat.zero_le _⟩ (fun r hr1 => ?_)
      obtain ⟨rfl, b_19⟩ := hr1
      have hP9 : va_P D vwCl [(x, .inr (5, [.int (zi_n 0), .ref a, .int (zi_n n), .int (zi_n rd), .int (zi_n br), .ref a2, .ref a3, .int (zi_n v), .int (zi_n ln)])), (a, .inl (cA, 600, .inl (zi_F F))), (a2, .inl (cB, 600, .inl (zi_F P))), (a3, .inl (cC, 600, .inl (zi_F G)))] H := hP
      have hD9 : va_D A [(x, .inr (5, [.int (zi_n 0), .ref a, .int (zi_n n), .int (zi_n rd), .int (zi_n br), .ref a2, .ref a3, .int (zi_n v), .int (zi_n ln)])), (a, .inl (cA, 600, .inl (zi_F F))), (a2, .inl (cB, 600, .inl (zi_F P))), (a3, .inl (cC, 600, .inl (zi_F G)))] := hD
      exact W.iret (v := zi_n (zh_mst F v)) hx hb hr (fun t ht hW => ⟨⟨zi_n (zh_mst F v), (), rfl, zl_r (by unfold zh_fldE; rw [if_neg (by omega), if_neg (by omega)]; show zh_start F = _; rw [show v = F 0 by omega]; rfl) (by omega), by rw [ht]; exact hP9, va_K.moved hW.alike hK, hD9⟩, hS.F ht⟩) hS.2.2 dX4_field_170
    · skip
      refine zr_tabIn (tgt := 171) hx hb dX4_field_23 (by decide) (by decide) (by decide) rfl (by decide) ?_
      refine lv_aload_n hx hb dX4_field_171 rfl (lv_at hl 1 rfl) ?_
      refine va_get (D := D) (ci := 5) (v := .int (zi_n v)) (C := RX4) (T := TX4) (N := 9) hx hb hts in_X4_field_X4 hown hK hP 0 rfl rfl 7 (by decide) (hts (.fieldLink RX4 51 "ZHeadsModel" "version" "I") (by decide +kernel)) (fun _ h9 => h9) rfl dX4_field_172 ?_
      refine zr_iconst hx hb dX4_field_175 ?_
      refine zr_icmp_ge (tgt := 183) hx hb dX4_field_176 (by decide) (by omega) (by omega) (fun c_21 => ?_) (fun c_21 => ?_)
      · refine lv_aload_n hx hb dX4_field_183 rfl (lv_at hl 1 rfl) ?_
        refine zr_bipush hx hb dX4_field_184 (by decide) ?_
        refine zc_V (As := [.int (zi_n 52)]) (rest := []) ⟨hx, hb, hml, hown, hts⟩ (c_M_two_k l D x a a2 a3 cA cB cC F P G n rd br v ln 0 hF (by omega) hP0 hG (by omega) (by omega) (by omega) (by omega) (by omega) 52 52 rfl (by omega)) (cwV 1 hts gX4_field_X4_two rfl rfl rfl (by decide +kernel) ⟨(Nat.le_of_ble_eq_true rfl), (Nat.le_of_ble_eq_true rfl)⟩) hP hK [0, 1, 2, 3] [0, 1, 2] rfl rfl (ci := 5) rfl rfl rfl rfl hl.1 rfl (Nat.le_of_ble_eq_true rfl) dX4_field_186 ⟨Nat.zero_le _, Nat.zero_le _⟩ (fun r hr1 => ?_)
        obtain ⟨rfl, b_22⟩ := hr1
        have hP9 : va_P D vwCl [(x, .inr (5, [.int (zi_n 0), .ref a, .int (zi_n n), .int (zi_n rd), .int (zi_n br), .ref a2, .ref a3, .int (zi_n v), .int (zi_n ln)])), (a, .inl (cA, 600, .inl (zi_F F))), (a2, .inl (cB, 600, .inl (zi_F P))), (a3, .inl (cC, 600, .inl (zi_F G)))] H := hP
        have hD9 : va_D A [(x, .inr (5, [.int (zi_n 0), .ref a, .int (zi_n n), .int (zi_n rd), .int (zi_n br), .ref a2, .ref a3, .int (zi_n v), .int (zi_n ln)])), (a, .inl (cA, 600, .inl (zi_F F))), (a2, .inl (cB, 600, .inl (zi_F P))), (a3, .inl (cC, 600, .inl (zi_F G)))] := hD
        exact W.iret (v := zi_n (zh_t F 52)) hx hb hr (fun t ht hW => ⟨⟨zi_n (zh_t F 52), (), rfl, zl_r (by unfold zh_fldE; rw [if_neg (by omega), if_neg (by omega)]; show zh_letters F = _; unfold zh_letters; split <;> omega) (by omega), by rw [ht]; exact hP9, va_K.moved hW.alike hK, hD9⟩, hS.F ht⟩) hS.2.2 dX4_field_189
      · refine zr_iconst hx hb dX4_field_179 ?_
        refine lv_goto (tgt := 189) hx hb dX4_field_180 (by decide) ?_
        have hP9 : va_P D vwCl [(x, .inr (5, [.int (zi_n 0), .ref a, .int (zi_n n), .int (zi_n rd), .int (zi_n br), .ref a2, .ref a3, .int (zi_n v), .int (zi_n ln)])), (a, .inl (cA, 600, .inl (zi_F F))), (a2, .inl (cB, 600, .inl (zi_F P))), (a3, .inl (cC, 600, .inl (zi_F G)))] H := hP
        have hD9 : va_D A [(x, .inr (5, [.int (zi_n 0), .ref a, .int (zi_n n), .int (zi_n rd), .int (zi_n br), .ref a2, .ref a3, .int (zi_n v), .int (zi_n ln)])), (a, .inl (cA, 600, .inl (zi_F F))), (a2, .inl (cB, 600, .inl (zi_F P))), (a3, .inl (cC, 600, .inl (zi_F G)))] := hD
        exact W.iret (v := zi_n 0) hx hb hr (fun t ht hW => ⟨⟨zi_n 0, (), rfl, zl_r (by unfold zh_fldE; rw [if_neg (by omega), if_neg (by omega)]; show zh_letters F = _; unfold zh_letters; split <;> omega) (by omega), by rw [ht]; exact hP9, va_K.moved hW.alike hK, hD9⟩, hS.F ht⟩) hS.2.2 dX4_field_189
    · skip
      refine zr_tabIn (tgt := 190) hx hb dX4_field_23 (by decide) (by decide) (by decide) rfl (by decide) ?_
      refine lv_aload_n hx hb dX4_field_190 rfl (lv_at hl 1 rfl) ?_
      refine va_get (D := D) (ci := 5) (v := .int (zi_n v)) (C := RX4) (T := TX4) (N := 9) hx hb hts in_X4_field_X4 hown hK hP 0 rfl rfl 7 (by decide) (hts (.fieldLink RX4 51 "ZHeadsModel" "version" "I") (by decide +kernel)) (fun _ h9 => h9) rfl dX4_field_191 ?_
      refine zr_iconst hx hb dX4_field_194 ?_
      refine zr_icmp_ge (tgt := 202) hx hb dX4_field_195 (by decide) (by omega) (by omega) (fun c_25 => ?_) (fun c_25 => ?_)
      · refine lv_aload_n hx hb dX4_field_202 rfl (lv_at hl 1 rfl) ?_
        refine zr_bipush hx hb dX4_field_203 (by decide) ?_
        refine zc_V (As := [.int (zi_n 46)]) (rest := []) ⟨hx, hb, hml, hown, hts⟩ (c_M_two_k l D x a a2 a3 cA cB cC F P G n rd br v ln 0 hF (by omega) hP0 hG (by omega) (by omega) (by omega) (by omega) (by omega) 46 46 rfl (by omega)) (cwV 1 hts gX4_field_X4_two rfl rfl rfl (by decide +kernel) ⟨(Nat.le_of_ble_eq_true rfl), (Nat.le_of_ble_eq_true rfl)⟩) hP hK [0, 1, 2, 3] [0, 1, 2] rfl rfl (ci := 5) rfl rfl rfl rfl hl.1 rfl (Nat.le_of_ble_eq_true rfl) dX4_field_205 ⟨Nat.zero_le _, Nat.zero_le _⟩ (fun r hr1 => ?_)
        obtain ⟨rfl, b_26⟩ := hr1
        have hP9 : va_P D vwCl [(x, .inr (5, [.int (zi_n 0), .ref a, .int (zi_n n), .int (zi_n rd), .int (zi_n br), .ref a2, .ref a3, .int (zi_n v), .int (zi_n ln)])), (a, .inl (cA, 600, .inl (zi_F F))), (a2, .inl (cB, 600, .inl (zi_F P))), (a3, .inl (cC, 600, .inl (zi_F G)))] H := hP
        have hD9 : va_D A [(x, .inr (5, [.int (zi_n 0), .ref a, .int (zi_n n), .int (zi_n rd), .int (zi_n br), .ref a2, .ref a3, .int (zi_n v), .int (zi_n ln)])), (a, .inl (cA, 600, .inl (zi_F F))), (a2, .inl (cB, 600, .inl (zi_F P))), (a3, .inl (cC, 600, .inl (zi_F G)))] := hD
        exact W.iret (v := zi_n (zh_t F 46)) hx hb hr (fun t ht hW => ⟨⟨zi_n (zh_t F 46), (), rfl, zl_r (by unfold zh_fldE; rw [if_neg (by omega), if_neg (by omega)]; show zh_ends F = _; unfold zh_ends; split <;> omega) (by omega), by rw [ht]; exact hP9, va_K.moved hW.alike hK, hD9⟩, hS.F ht⟩) hS.2.2 dX4_field_208
      · refine zr_iconst hx hb dX4_field_198 ?_
        refine lv_goto (tgt := 208) hx hb dX4_field_199 (by decide) ?_
        have hP9 : va_P D vwCl [(x, .inr (5, [.int (zi_n 0), .ref a, .int (zi_n n), .int (zi_n rd), .int (zi_n br), .ref a2, .ref a3, .int (zi_n v), .int (zi_n ln)])), (a, .inl (cA, 600, .inl (zi_F F))), (a2, .inl (cB, 600, .inl (zi_F P))), (a3, .inl (cC, 600, .inl (zi_F G)))] H := hP
        have hD9 : va_D A [(x, .inr (5, [.int (zi_n 0), .ref a, .int (zi_n n), .int (zi_n rd), .int (zi_n br), .ref a2, .ref a3, .int (zi_n v), .int (zi_n ln)])), (a, .inl (cA, 600, .inl (zi_F F))), (a2, .inl (cB, 600, .inl (zi_F P))), (a3, .inl (cC, 600, .inl (zi_F G)))] := hD
        exact W.iret (v := zi_n 0) hx hb hr (fun t ht hW => ⟨⟨zi_n 0, (), rfl, zl_r (by unfold zh_fldE; rw [if_neg (by omega), if_neg (by omega)]; show zh_ends F = _; unfold zh_ends; split <;> omega) (by omega), by rw [ht]; exact hP9, va_K.moved hW.alike hK, hD9⟩, hS.F ht⟩) hS.2.2 dX4_field_208
    · skip
      refine zr_tabIn (tgt := 209) hx hb dX4_field_23 (by decide) (by decide) (by decide) rfl (by decide) ?_
      refine lv_aload_n hx hb dX4_field_209 rfl (lv_at hl 1 rfl) ?_
      refine lv_iload_n hx hb dX4_field_210 rfl (lv_at hl 2 rfl) ?_
      refine zc_V (As := [.int (zi_n 11)]) (rest := []) ⟨hx, hb, hml, hown, hts⟩ (c_M_ofMore l D x a a2 a3 cA cB cC F P G n rd br v ln 0 hF (by omega) hP0 hG (by omega) (by omega) (by omega) (by omega) (by omega) 11 (by omega) (by omega)) (cwV 1 hts gX4_field_X4_ofMore rfl rfl rfl (by decide +kernel) ⟨(Nat.le_of_ble_eq_true rfl), (Nat.le_of_ble_eq_true rfl)⟩) hP hK [0, 1, 2, 3] [0, 1, 2] rfl rfl (ci := 5) rfl rfl rfl rfl hl.1 rfl (Nat.le_of_ble_eq_true rfl) dX4_field_211 ⟨Nat.zero_le _, Nat.zero_le _⟩ (fun r hr1 => ?_)
      obtain ⟨rfl, b_29⟩ := hr1
      have hP9 : va_P D vwCl [(x, .inr (5, [.int (zi_n 0), .ref a, .int (zi_n n), .int (zi_n rd), .int (zi_n br), .ref a2, .ref a3, .int (zi_n v), .int (zi_n ln)])), (a, .inl (cA, 600, .inl (zi_F F))), (a2, .inl (cB, 600, .inl (zi_F P))), (a3, .inl (cC, 600, .inl (zi_F G)))] H := hP
      have hD9 : va_D A [(x, .inr (5, [.int (zi_n 0), .ref a, .int (zi_n n), .int (zi_n rd), .int (zi_n br), .ref a2, .ref a3, .int (zi_n v), .int (zi_n ln)])), (a, .inl (cA, 600, .inl (zi_F F))), (a2, .inl (cB, 600, .inl (zi_F P))), (a3, .inl (cC, 600, .inl (zi_F G)))] := hD
      exact W.iret (v := zi_n (zh_mof F v 11)) hx hb hr (fun t ht hW => ⟨⟨zi_n (zh_mof F v 11), (), rfl, zl_r (by unfold zh_fldE; rw [if_neg (by omega), if_neg (by omega)]; show zh_mw F n = _; exact (hMo (by omega)).1) (by omega), by rw [ht]; exact hP9, va_K.moved hW.alike hK, hD9⟩, hS.F ht⟩) hS.2.2 dX4_field_214
    · skip
      refine zr_tabIn (tgt := 209) hx hb dX4_field_23 (by decide) (by decide) (by decide) rfl (by decide) ?_
      refine lv_aload_n hx hb dX4_field_209 rfl (lv_at hl 1 rfl) ?_
      refine lv_iload_n hx hb dX4_field_210 rfl (lv_at hl 2 rfl) ?_
      refine zc_V (As := [.int (zi_n 12)]) (rest := []) ⟨hx, hb, hml, hown, hts⟩ (c_M_ofMore l D x a a2 a3 cA cB cC F P G n rd br v ln 0 hF (by omega) hP0 hG (by omega) (by omega) (by omega) (by omega) (by omega) 12 (by omega) (by omega)) (cwV 1 hts gX4_field_X4_ofMore rfl rfl rfl (by decide +kernel) ⟨(Nat.le_of_ble_eq_true rfl), (Nat.le_of_ble_eq_true rfl)⟩) hP hK [0, 1, 2, 3] [0, 1, 2] rfl rfl (ci := 5) rfl rfl rfl rfl hl.1 rfl (Nat.le_of_ble_eq_true rfl) dX4_field_211 ⟨Nat.zero_le _, Nat.zero_le _⟩ (fun r hr1 => ?_)
      obtain ⟨rfl, b_31⟩ := hr1
      have hP9 : va_P D vwCl [(x, .inr (5, [.int (zi_n 0), .ref a, .int (zi_n n), .int (zi_n rd), .int (zi_n br), .ref a2, .ref a3, .int (zi_n v), .int (zi_n ln)])), (a, .inl (cA, 600, .inl (zi_F F))), (a2, .inl (cB, 600, .inl (zi_F P))), (a3, .inl (cC, 600, .inl (zi_F G)))] H := hP
      have hD9 : va_D A [(x, .inr (5, [.int (zi_n 0), .ref a, .int (zi_n n), .int (zi_n rd), .int (zi_n br), .ref a2, .ref a3, .int (zi_n v), .int (zi_n ln)])), (a, .inl (cA, 600, .inl (zi_F F))), (a2, .inl (cB, 600, .inl (zi_F P))), (a3, .inl (cC, 600, .inl (zi_F G)))] := hD
      exact W.iret (v := zi_n (zh_mof F v 12)) hx hb hr (fun t ht hW => ⟨⟨zi_n (zh_mof F v 12), (), rfl, zl_r (by unfold zh_fldE; rw [if_neg (by omega), if_neg (by omega)]; show zh_third F n = _; exact (hMo (by omega)).2) (by omega), by rw [ht]; exact hP9, va_K.moved hW.alike hK, hD9⟩, hS.F ht⟩) hS.2.2 dX4_field_214
    · skip
      refine zr_tabIn (tgt := 215) hx hb dX4_field_23 (by decide) (by decide) (by decide) rfl (by decide) ?_
      refine lv_aload_n hx hb dX4_field_215 rfl (lv_at hl 1 rfl) ?_
      refine zr_iconst hx hb dX4_field_216 ?_
      refine zc_V (As := [.int (zi_n 2)]) (rest := []) ⟨hx, hb, hml, hown, hts⟩ (c_M_two_k l D x a a2 a3 cA cB cC F P G n rd br v ln 0 hF (by omega) hP0 hG (by omega) (by omega) (by omega) (by omega) (by omega) 2 2 rfl (by omega)) (cwV 1 hts gX4_field_X4_two rfl rfl rfl (by decide +kernel) ⟨(Nat.le_of_ble_eq_true rfl), (Nat.le_of_ble_eq_true rfl)⟩) hP hK [0, 1, 2, 3] [0, 1, 2] rfl rfl (ci := 5) rfl rfl rfl rfl hl.1 rfl (Nat.le_of_ble_eq_true rfl) dX4_field_217 ⟨Nat.zero_le _, Nat.zero_le _⟩ (fun r hr1 => ?_)
      obtain ⟨rfl, b_33⟩ := hr1
      have hP9 : va_P D vwCl [(x, .inr (5, [.int (zi_n 0), .ref a, .int (zi_n n), .int (zi_n rd), .int (zi_n br), .ref a2, .ref a3, .int (zi_n v), .int (zi_n ln)])), (a, .inl (cA, 600, .inl (zi_F F))), (a2, .inl (cB, 600, .inl (zi_F P))), (a3, .inl (cC, 600, .inl (zi_F G)))] H := hP
      have hD9 : va_D A [(x, .inr (5, [.int (zi_n 0), .ref a, .int (zi_n n), .int (zi_n rd), .int (zi_n br), .ref a2, .ref a3, .int (zi_n v), .int (zi_n ln)])), (a, .inl (cA, 600, .inl (zi_F F))), (a2, .inl (cB, 600, .inl (zi_F P))), (a3, .inl (cC, 600, .inl (zi_F G)))] := hD
      exact W.iret (v := zi_n (zh_t F 2)) hx hb hr (fun t ht hW => ⟨⟨zi_n (zh_t F 2), (), rfl, zl_r (by unfold zh_fldE; rw [if_neg (by omega), if_neg (by omega)]; show zh_t F 2 = _; omega) (by omega), by rw [ht]; exact hP9, va_K.moved hW.alike hK, hD9⟩, hS.F ht⟩) hS.2.2 dX4_field_220
    · skip
      refine zr_tabIn (tgt := 221) hx hb dX4_field_23 (by decide) (by decide) (by decide) rfl (by decide) ?_
      refine lv_aload_n hx hb dX4_field_221 rfl (lv_at hl 1 rfl) ?_
      refine zr_bipush hx hb dX4_field_222 (by decide) ?_
      refine zc_V (As := [.int (zi_n 28)]) (rest := []) ⟨hx, hb, hml, hown, hts⟩ (c_M_two_k l D x a a2 a3 cA cB cC F P G n rd br v ln 0 hF (by omega) hP0 hG (by omega) (by omega) (by omega) (by omega) (by omega) 28 28 rfl (by omega)) (cwV 1 hts gX4_field_X4_two rfl rfl rfl (by decide +kernel) ⟨(Nat.le_of_ble_eq_true rfl), (Nat.le_of_ble_eq_true rfl)⟩) hP hK [0, 1, 2, 3] [0, 1, 2] rfl rfl (ci := 5) rfl rfl rfl rfl hl.1 rfl (Nat.le_of_ble_eq_true rfl) dX4_field_224 ⟨Nat.zero_le _, Nat.zero_le _⟩ (fun r hr1 => ?_)
      obtain ⟨rfl, b_35⟩ := hr1
      have hP9 : va_P D vwCl [(x, .inr (5, [.int (zi_n 0), .ref a, .int (zi_n n), .int (zi_n rd), .int (zi_n br), .ref a2, .ref a3, .int (zi_n v), .int (zi_n ln)])), (a, .inl (cA, 600, .inl (zi_F F))), (a2, .inl (cB, 600, .inl (zi_F P))), (a3, .inl (cC, 600, .inl (zi_F G)))] H := hP
      have hD9 : va_D A [(x, .inr (5, [.int (zi_n 0), .ref a, .int (zi_n n), .int (zi_n rd), .int (zi_n br), .ref a2, .ref a3, .int (zi_n v), .int (zi_n ln)])), (a, .inl (cA, 600, .inl (zi_F F))), (a2, .inl (cB, 600, .inl (zi_F P))), (a3, .inl (cC, 600, .inl (zi_F G)))] := hD
      exact W.iret (v := zi_n (zh_t F 28)) hx hb hr (fun t ht hW => ⟨⟨zi_n (zh_t F 28), (), rfl, zl_r (by unfold zh_fldE; rw [if_neg (by omega), if_neg (by omega)]; show zh_t F 28 = _; omega) (by omega), by rw [ht]; exact hP9, va_K.moved hW.alike hK, hD9⟩, hS.F ht⟩) hS.2.2 dX4_field_227
    · skip
      refine zr_tabIn (tgt := 228) hx hb dX4_field_23 (by decide) (by decide) (by decide) rfl (by decide) ?_
      refine lv_aload_n hx hb dX4_field_228 rfl (lv_at hl 1 rfl) ?_
      refine lv_iload_n hx hb dX4_field_229 rfl (lv_at hl 0 rfl) ?_
      refine zr_iconst hx hb dX4_field_230 ?_
      refine zr_iadd hx hb dX4_field_231 ?_
      refine lv_aload_n hx hb dX4_field_232 rfl (lv_at hl 1 rfl) ?_
      refine va_get (D := D) (ci := 5) (v := .ref a) (C := RX4) (T := TX4) (N := 9) hx hb hts in_X4_field_X4 hown hK hP 0 rfl rfl 1 (by decide) (hts (.fieldLink RX4 7 "ZHeadsModel" "file" "[I") (by decide +kernel)) (fun _ h9 => h9) rfl dX4_field_233 ?_
      refine lv_iload_n hx hb dX4_field_236 rfl (lv_at hl 0 rfl) ?_
      refine zr_iald hx hb hK hP 1 0 rfl rfl (by decide) (by omega) dX4_field_237 ?_
      have b_37 := hF (zh_t F 8).toNat
      refine zr_iadd hx hb dX4_field_238 ?_
      refine zc_V (As := [.int (zi_n (((zh_t F 8) + 2) + (F (zh_t F 8).toNat)))]) (rest := []) ⟨hx, hb, hml, hown, hts⟩ (c_M_two l D x a a2 a3 cA cB cC F P G n rd br v ln 0 hF (by omega) hP0 hG (by omega) (by omega) (by omega) (by omega) (by omega) (((zh_t F 8) + 2) + (F (zh_t F 8).toNat)) (by omega)) (cwV 1 hts gX4_field_X4_two rfl rfl rfl (by decide +kernel) ⟨(Nat.le_of_ble_eq_true rfl), (Nat.le_of_ble_eq_true rfl)⟩) hP hK [0, 1, 2, 3] [0, 1, 2] rfl rfl (ci := 5) rfl rfl rfl rfl hl.1 rfl (Nat.le_of_ble_eq_true rfl) dX4_field_239 ⟨Nat.zero_le _, Nat.zero_le _⟩ (fun r hr1 => ?_)
      obtain ⟨rfl, b_38⟩ := hr1
      refine zr_i2s hx hb dX4_field_242 (by omega) ?_
      have hP9 : va_P D vwCl [(x, .inr (5, [.int (zi_n 0), .ref a, .int (zi_n n), .int (zi_n rd), .int (zi_n br), .ref a2, .ref a3, .int (zi_n v), .int (zi_n ln)])), (a, .inl (cA, 600, .inl (zi_F F))), (a2, .inl (cB, 600, .inl (zi_F P))), (a3, .inl (cC, 600, .inl (zi_F G)))] H := hP
      have hD9 : va_D A [(x, .inr (5, [.int (zi_n 0), .ref a, .int (zi_n n), .int (zi_n rd), .int (zi_n br), .ref a2, .ref a3, .int (zi_n v), .int (zi_n ln)])), (a, .inl (cA, 600, .inl (zi_F F))), (a2, .inl (cB, 600, .inl (zi_F P))), (a3, .inl (cC, 600, .inl (zi_F G)))] := hD
      exact W.iret (v := zi_n (zi_sh (zh_T F (((zh_t F 8) + 2) + (F (zh_t F 8).toNat))))) hx hb hr (fun t ht hW => ⟨⟨zi_n (zi_sh (zh_T F (((zh_t F 8) + 2) + (F (zh_t F 8).toNat)))), (), rfl, zl_r (by unfold zh_fldE; rw [if_neg (by omega), if_neg (by omega)]; show zh_en F n = _; exact zh_f_en hF (by omega)) (by omega), by rw [ht]; exact hP9, va_K.moved hW.alike hK, hD9⟩, hS.F ht⟩) hS.2.2 dX4_field_243
    · skip
      refine zr_tabIn (tgt := 244) hx hb dX4_field_23 (by decide) (by decide) (by decide) rfl (by decide) ?_
      refine lv_aload_n hx hb dX4_field_244 rfl (lv_at hl 1 rfl) ?_
      refine va_get (D := D) (ci := 5) (v := .ref a) (C := RX4) (T := TX4) (N := 9) hx hb hts in_X4_field_X4 hown hK hP 0 rfl rfl 1 (by decide) (hts (.fieldLink RX4 7 "ZHeadsModel" "file" "[I") (by decide +kernel)) (fun _ h9 => h9) rfl dX4_field_245 ?_
      refine lv_iload_n hx hb dX4_field_248 rfl (lv_at hl 0 rfl) ?_
      refine zr_iconst hx hb dX4_field_249 ?_
      refine zr_iadd hx hb dX4_field_250 ?_
      refine lv_aload_n hx hb dX4_field_251 rfl (lv_at hl 1 rfl) ?_
      refine va_get (D := D) (ci := 5) (v := .ref a) (C := RX4) (T := TX4) (N := 9) hx hb hts in_X4_field_X4 hown hK hP 0 rfl rfl 1 (by decide) (hts (.fieldLink RX4 7 "ZHeadsModel" "file" "[I") (by decide +kernel)) (fun _ h9 => h9) rfl dX4_field_252 ?_
      refine lv_iload_n hx hb dX4_field_255 rfl (lv_at hl 0 rfl) ?_
      refine zr_iald hx hb hK hP 1 0 rfl rfl (by decide) (by omega) dX4_field_256 ?_
      have b_40 := hF (zh_t F 8).toNat
      refine zr_iadd hx hb dX4_field_257 ?_
      refine zr_iald hx hb hK hP 1 0 rfl rfl (by decide) (by omega) dX4_field_258 ?_
      have b_41 := hF (((zh_t F 8) + 1) + (F (zh_t F 8).toNat)).toNat
      have hP9 : va_P D vwCl [(x, .inr (5, [.int (zi_n 0), .ref a, .int (zi_n n), .int (zi_n rd), .int (zi_n br), .ref a2, .ref a3, .int (zi_n v), .int (zi_n ln)])), (a, .inl (cA, 600, .inl (zi_F F))), (a2, .inl (cB, 600, .inl (zi_F P))), (a3, .inl (cC, 600, .inl (zi_F G)))] H := hP
      have hD9 : va_D A [(x, .inr (5, [.int (zi_n 0), .ref a, .int (zi_n n), .int (zi_n rd), .int (zi_n br), .ref a2, .ref a3, .int (zi_n v), .int (zi_n ln)])), (a, .inl (cA, 600, .inl (zi_F F))), (a2, .inl (cB, 600, .inl (zi_F P))), (a3, .inl (cC, 600, .inl (zi_F G)))] := hD
      exact W.iret (v := zi_n (F (((zh_t F 8) + 1) + (F (zh_t F 8).toNat)).toNat)) hx hb hr (fun t ht hW => ⟨⟨zi_n (F (((zh_t F 8) + 1) + (F (zh_t F 8).toNat)).toNat), (), rfl, zl_r (by unfold zh_fldE; rw [if_neg (by omega), if_neg (by omega)]; show zh_eb F n = _; exact zh_f_eb hF (by omega)) (by omega), by rw [ht]; exact hP9, va_K.moved hW.alike hK, hD9⟩, hS.F ht⟩) hS.2.2 dX4_field_259
    · skip
      refine zr_tabIn (tgt := 260) hx hb dX4_field_23 (by decide) (by decide) (by decide) rfl (by decide) ?_
      refine lv_aload_n hx hb dX4_field_260 rfl (lv_at hl 1 rfl) ?_
      refine va_get (D := D) (ci := 5) (v := .ref a) (C := RX4) (T := TX4) (N := 9) hx hb hts in_X4_field_X4 hown hK hP 0 rfl rfl 1 (by decide) (hts (.fieldLink RX4 7 "ZHeadsModel" "file" "[I") (by decide +kernel)) (fun _ h9 => h9) rfl dX4_field_261 ?_
      refine lv_iload_n hx hb dX4_field_264 rfl (lv_at hl 0 rfl) ?_
      refine zr_iald hx hb hK hP 1 0 rfl rfl (by decide) (by omega) dX4_field_265 ?_
      have b_43 := hF (zh_t F 8).toNat
      have hP9 : va_P D vwCl [(x, .inr (5, [.int (zi_n 0), .ref a, .int (zi_n n), .int (zi_n rd), .int (zi_n br), .ref a2, .ref a3, .int (zi_n v), .int (zi_n ln)])), (a, .inl (cA, 600, .inl (zi_F F))), (a2, .inl (cB, 600, .inl (zi_F P))), (a3, .inl (cC, 600, .inl (zi_F G)))] H := hP
      have hD9 : va_D A [(x, .inr (5, [.int (zi_n 0), .ref a, .int (zi_n n), .int (zi_n rd), .int (zi_n br), .ref a2, .ref a3, .int (zi_n v), .int (zi_n ln)])), (a, .inl (cA, 600, .inl (zi_F F))), (a2, .inl (cB, 600, .inl (zi_F P))), (a3, .inl (cC, 600, .inl (zi_F G)))] := hD
      exact W.iret (v := zi_n (F (zh_t F 8).toNat)) hx hb hr (fun t ht hW => ⟨⟨zi_n (F (zh_t F 8).toNat), (), rfl, zl_r (by unfold zh_fldE; rw [if_neg (by omega), if_neg (by omega)]; show zh_sg F n = _; exact zh_f_sg hF (by omega)) (by omega), by rw [ht]; exact hP9, va_K.moved hW.alike hK, hD9⟩, hS.F ht⟩) hS.2.2 dX4_field_266
    · refine zr_tabOut (tgt := 267) hx hb dX4_field_23 (by omega) (by omega) (by decide) ?_
      refine zr_bipush hx hb dX4_field_267 (by decide) ?_
      have hP9 : va_P D vwCl [(x, .inr (5, [.int (zi_n 0), .ref a, .int (zi_n n), .int (zi_n rd), .int (zi_n br), .ref a2, .ref a3, .int (zi_n v), .int (zi_n ln)])), (a, .inl (cA, 600, .inl (zi_F F))), (a2, .inl (cB, 600, .inl (zi_F P))), (a3, .inl (cC, 600, .inl (zi_F G)))] H := hP
      have hD9 : va_D A [(x, .inr (5, [.int (zi_n 0), .ref a, .int (zi_n n), .int (zi_n rd), .int (zi_n br), .ref a2, .ref a3, .int (zi_n v), .int (zi_n ln)])), (a, .inl (cA, 600, .inl (zi_F F))), (a2, .inl (cB, 600, .inl (zi_F P))), (a3, .inl (cC, 600, .inl (zi_F G)))] := hD
      exact W.iret (v := zi_n (-12)) hx hb hr (fun t ht hW => ⟨⟨zi_n (-12), (), rfl, zl_r (by unfold zh_fldE; rw [if_neg (by omega), if_pos (by omega)]) (by omega), by rw [ht]; exact hP9, va_K.moved hW.alike hK, hD9⟩, hS.F ht⟩) hS.2.2 dX4_field_269
  · refine zr_bipush hx hb dX4_field_12 (by decide) ?_
    have hP9 : va_P D vwCl [(x, .inr (5, [.int (zi_n 0), .ref a, .int (zi_n n), .int (zi_n rd), .int (zi_n br), .ref a2, .ref a3, .int (zi_n v), .int (zi_n ln)])), (a, .inl (cA, 600, .inl (zi_F F))), (a2, .inl (cB, 600, .inl (zi_F P))), (a3, .inl (cC, 600, .inl (zi_F G)))] H := hP
    have hD9 : va_D A [(x, .inr (5, [.int (zi_n 0), .ref a, .int (zi_n n), .int (zi_n rd), .int (zi_n br), .ref a2, .ref a3, .int (zi_n v), .int (zi_n ln)])), (a, .inl (cA, 600, .inl (zi_F F))), (a2, .inl (cB, 600, .inl (zi_F P))), (a3, .inl (cC, 600, .inl (zi_F G)))] := hD
    exact W.iret (v := zi_n (-11)) hx hb hr (fun t ht hW => ⟨⟨zi_n (-11), (), rfl, zl_r (by unfold zh_fldE; exact if_pos (by omega)) (by omega), by rw [ht]; exact hP9, va_K.moved hW.alike hK, hD9⟩, hS.F ht⟩) hS.2.2 dX4_field_14

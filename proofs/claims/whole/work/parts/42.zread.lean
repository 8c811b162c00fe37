theorem in_X3_rule_X3 : ∀ w ∈ u_ws RX3 TX3 5, w ∈ wsX3_rule := by decide +kernel
set_option maxHeartbeats 4000000 in
set_option maxRecDepth 100000 in
theorem c_Z_rule (l : Launch) (D : va_G) (x q q2 hh a a2 : Nat) (cA cB : ClassId) (F G : Nat → Int) (n k rd br : Int) (hF : zi_By F) (hn : 0 ≤ n ∧ n ≤ 600) (hG : zi_By G) (hk : 0 ≤ k ∧ k ≤ 600) (hrd : rd = 0 ∨ rd = 1) (hbr : 0 ≤ br ∧ br ≤ 15) : Met l yX3_rule wsX3_rule ({ frames := 0, cells := 0, slots := 0, locals := 0 }) (va_Pc [.ref x] (zp_Q D vwCl [(x, .inr (4, [.ref q, .ref q2, .ref hh, .int (zi_n rd), .int (zi_n br)])), (q, .inr (3, [.ref a, .int (zi_n n)])), (q2, .inr (3, [.ref a2, .int (zi_n k)])), (hh, .inr (2, [.ref q])), (a, .inl (cA, 600, .inl (zi_F F))), (a2, .inl (cB, 600, .inl (zi_F G)))] [(cA, .int), (cB, .int)])) (vp_Si (fun r => r = zi_n br ∧ 0 ≤ br ∧ br ≤ 15)) 0 0 (fun _ => False) := by
  refine Met.ofW (cc := cX3_rule) (maxL := 1) (ret := (some .int)) (by decide) rfl ?_
  intro p e s m args below meth c s₁ B hml hv
  obtain ⟨rfl, hP, hK⟩ := hv
  have hx := B.exec
  have hb := B.bytes
  have hr := B.returns
  have hts := atoms_spec (ws := wsX3_rule) B.pre
  have hown : s.vm.findClass RX3 = some m.cls := findClass_of_methodNamed B.named
  have hlocks := B.notSynchronized
  have hl := lv_entry ([.ref x]) (n := 1) (Nat.le_of_ble_eq_true rfl)
  rw [lg_entry_eq]
  generalize (lg_sl ([.ref x]) ++ List.replicate (1 - (lg_sl ([.ref x])).length) Slot.unset).toArray = ls at hl ⊢
  have hl : lv_has ls 1 [(0, .ref x)] := hl
  refine lv_aload_n hx hb dX3_rule_0 rfl (lv_at hl 0 rfl) ?_
  refine va_get (D := D) (ci := 4) (v := .int (zi_n br)) (C := RX3) (T := TX3) (N := 5) hx hb hts in_X3_rule_X3 hown hK hP 0 rfl rfl 4 (by decide) (hts (.fieldLink RX3 32 "ZHeads" "brokenRule" "I") (by decide +kernel)) (fun _ h9 => h9) rfl dX3_rule_1 ?_
  exact W.iret (v := zi_n br) hx hb hr (fun t ht hW => ⟨_, rfl, ⟨rfl, by omega⟩, ht⟩) (fun q hq => nomatch hq) dX3_rule_4

theorem in_X3_size_X3 : ∀ w ∈ u_ws RX3 TX3 5, w ∈ wsX3_size := by decide +kernel
set_option maxHeartbeats 4000000 in
set_option maxRecDepth 100000 in
theorem c_Z_size (l : Launch) (D : va_G) (x q q2 hh a a2 : Nat) (cA cB : ClassId) (F G : Nat → Int) (n k rd br : Int) (hF : zi_By F) (hn : 0 ≤ n ∧ n ≤ 600) (hG : zi_By G) (hk : 0 ≤ k ∧ k ≤ 600) (hrd : rd = 0 ∨ rd = 1) (hbr : 0 ≤ br ∧ br ≤ 15) : Met l yX3_size wsX3_size ({ frames := 1, cells := 0, slots := 0, locals := 20 }) (va_Pc [.ref x] (zp_Q D vwCl [(x, .inr (4, [.ref q, .ref q2, .ref hh, .int (zi_n rd), .int (zi_n br)])), (q, .inr (3, [.ref a, .int (zi_n n)])), (q2, .inr (3, [.ref a2, .int (zi_n k)])), (hh, .inr (2, [.ref q])), (a, .inl (cA, 600, .inl (zi_F F))), (a2, .inl (cB, 600, .inl (zi_F G)))] [(cA, .int), (cB, .int)])) (vp_Si (fun r => r = zi_n n ∧ 0 ≤ n ∧ n ≤ 600)) 0 0 (fun _ => False) := by
  refine Met.ofW (cc := cX3_size) (maxL := 1) (ret := (some .int)) (by decide) rfl ?_
  intro p e s m args below meth c s₁ B hml hv
  obtain ⟨rfl, hP, hK⟩ := hv
  have hx := B.exec
  have hb := B.bytes
  have hr := B.returns
  have hts := atoms_spec (ws := wsX3_size) B.pre
  have hown : s.vm.findClass RX3 = some m.cls := findClass_of_methodNamed B.named
  have hlocks := B.notSynchronized
  have hl := lv_entry ([.ref x]) (n := 1) (Nat.le_of_ble_eq_true rfl)
  rw [lg_entry_eq]
  generalize (lg_sl ([.ref x]) ++ List.replicate (1 - (lg_sl ([.ref x])).length) Slot.unset).toArray = ls at hl ⊢
  have hl : lv_has ls 1 [(0, .ref x)] := hl
  refine lv_aload_n hx hb dX3_size_0 rfl (lv_at hl 0 rfl) ?_
  refine va_get (D := D) (ci := 4) (v := .ref q) (C := RX3) (T := TX3) (N := 5) hx hb hts in_X3_size_X3 hown hK hP 0 rfl rfl 0 (by decide) (hts (.fieldLink RX3 10 "ZHeads" "file" "LZHeads$Row;") (by decide +kernel)) (fun _ h9 => h9) rfl dX3_size_1 ?_
  refine zc_V (As := []) (rest := []) ⟨hx, hb, hml, hown, hts⟩ (c_Row_count l D q a cA F n hF (by omega)) (cwV 0 hts gX3_size_X2_count rfl rfl rfl (by decide +kernel) ⟨(Nat.le_of_ble_eq_true rfl), (Nat.le_of_ble_eq_true rfl)⟩) hP hK [1, 4] [0] rfl rfl (ci := 3) rfl rfl rfl rfl hl.1 rfl (Nat.le_of_ble_eq_true rfl) dX3_size_4 ⟨Nat.zero_le _, Nat.zero_le _⟩ (fun r hr1 => ?_)
  obtain ⟨rfl, b_1⟩ := hr1
  exact W.iret (v := zi_n n) hx hb hr (fun t ht hW => ⟨_, rfl, ⟨rfl, by omega⟩, ht⟩) (fun q hq => nomatch hq) dX3_size_7

theorem in_X3_field_X3 : ∀ w ∈ u_ws RX3 TX3 5, w ∈ wsX3_field := by decide +kernel
set_option maxHeartbeats 4000000 in
set_option maxRecDepth 100000 in
theorem c_Z_field (l : Launch) (D : va_G) (x q q2 hh a a2 : Nat) (cA cB : ClassId) (F G : Nat → Int) (n k rd br : Int) (hF : zi_By F) (hn : 0 ≤ n ∧ n ≤ 600) (hG : zi_By G) (hk : 0 ≤ k ∧ k ≤ 600) (hrd : rd = 0 ∨ rd = 1) (hbr : 0 ≤ br ∧ br ≤ 15) (p0 : Int) (hR : rd = 1 → (64 ≤ n ∧ k = n) ∧ (1 ≤ F 0 ∧ F 0 ≤ 8) ∧ (64 ≤ zh_len F n ∧ zh_len F n ≤ n) ∧ (64 ≤ zh_t F 14 ∧ zh_t F 14 ≤ zh_len F n) ∧ (64 ≤ zh_t F 12 ∧ zh_t F 12 + 480 ≤ zh_t F 14) ∧ (64 ≤ zh_t F 8 ∧ 0 ≤ zh_sg F n ∧ 4 ≤ zh_eb F n)) (rp0 : zi_R p0) : Met l yX3_field wsX3_field ({ frames := 5, cells := 0, slots := 0, locals := 104 }) (va_Pc [.ref x, .int (zi_n p0)] (zp_Q D vwCl [(x, .inr (4, [.ref q, .ref q2, .ref hh, .int (zi_n rd), .int (zi_n br)])), (q, .inr (3, [.ref a, .int (zi_n n)])), (q2, .inr (3, [.ref a2, .int (zi_n k)])), (hh, .inr (2, [.ref q])), (a, .inl (cA, 600, .inl (zi_F F))), (a2, .inl (cB, 600, .inl (zi_F G)))] [(cA, .int), (cB, .int)])) (vp_Si (fun r => r = zi_n (zh_fldE F n rd p0) ∧ -32768 ≤ (zh_fldE F n rd p0) ∧ (zh_fldE F n rd p0) ≤ 786420)) 0 0 (fun _ => False) := by
  refine Met.ofW (cc := cX3_field) (maxL := 2) (ret := (some .int)) (by decide) rfl ?_
  intro p e s m args below meth c s₁ B hml hv
  obtain ⟨rfl, hP, hK⟩ := hv
  have hx := B.exec
  have hb := B.bytes
  have hr := B.returns
  have hts := atoms_spec (ws := wsX3_field) B.pre
  have hown : s.vm.findClass RX3 = some m.cls := findClass_of_methodNamed B.named
  have hlocks := B.notSynchronized
  have hl := lv_entry ([.ref x, .int (zi_n p0)]) (n := 2) (Nat.le_of_ble_eq_true rfl)
  rw [lg_entry_eq]
  generalize (lg_sl ([.ref x, .int (zi_n p0)]) ++ List.replicate (2 - (lg_sl ([.ref x, .int (zi_n p0)])).length) Slot.unset).toArray = ls at hl ⊢
  have hl : lv_has ls 2 [(0, .ref x), (1, .int (zi_n p0))] := hl
  refine lv_aload_n hx hb dX3_field_0 rfl (lv_at hl 0 rfl) ?_
  refine va_get (D := D) (ci := 4) (v := .int (zi_n rd)) (C := RX3) (T := TX3) (N := 5) hx hb hts in_X3_field_X3 hown hK hP 0 rfl rfl 3 (by decide) (hts (.fieldLink RX3 28 "ZHeads" "isRead" "Z") (by decide +kernel)) (fun _ h9 => h9) rfl dX3_field_1 ?_
  refine zr_if_ne (tgt := 10) hx hb dX3_field_4 (by decide) (by omega) (fun c_1 => ?_) (fun c_1 => ?_)
  · have hR1 := hR (by omega)
    refine lv_iload_n hx hb dX3_field_10 rfl (lv_at hl 1 rfl) ?_
    refine zr_if_lt (tgt := 20) hx hb dX3_field_11 (by decide) (by omega) (fun c_2 => ?_) (fun c_2 => ?_)
    · refine zr_bipush hx hb dX3_field_20 (by decide) ?_
      refine lv_goto (tgt := 33) hx hb dX3_field_22 (by decide) ?_
      exact W.iret (v := zi_n (-12)) hx hb hr (fun t ht hW => ⟨_, rfl, zl_r (by unfold zh_fldE; (repeat' split) <;> omega) (by omega), ht⟩) (fun q hq => nomatch hq) dX3_field_33
    · refine lv_iload_n hx hb dX3_field_14 rfl (lv_at hl 1 rfl) ?_
      refine zr_bipush hx hb dX3_field_15 (by decide) ?_
      refine zr_icmp_lt (tgt := 25) hx hb dX3_field_17 (by decide) (by omega) (by omega) (fun c_3 => ?_) (fun c_3 => ?_)
      · refine lv_aload_n hx hb dX3_field_25 rfl (lv_at hl 0 rfl) ?_
        refine va_get (D := D) (ci := 4) (v := .ref hh) (C := RX3) (T := TX3) (N := 5) hx hb hts in_X3_field_X3 hown hK hP 0 rfl rfl 2 (by decide) (hts (.fieldLink RX3 24 "ZHeads" "head" "LZHeads$Head;") (by decide +kernel)) (fun _ h9 => h9) rfl dX3_field_26 ?_
        refine lv_iload_n hx hb dX3_field_29 rfl (lv_at hl 1 rfl) ?_
        refine zc_V (As := [.int (zi_n p0)]) (rest := []) ⟨hx, hb, hml, hown, hts⟩ (c_Hd_term l D hh q a cA F n hF (by omega) p0 (by omega) (by omega)) (cwV 1 hts gX3_field_X0_term rfl rfl rfl (by decide +kernel) ⟨(Nat.le_of_ble_eq_true rfl), (Nat.le_of_ble_eq_true rfl)⟩) hP hK [3, 1, 4] [0] rfl rfl (ci := 2) rfl rfl rfl rfl hl.1 rfl (Nat.le_of_ble_eq_true rfl) dX3_field_30 ⟨Nat.zero_le _, Nat.zero_le _⟩ (fun r hr1 => ?_)
        obtain ⟨rfl, b_4⟩ := hr1
        exact W.iret (v := zi_n (zh_term F n p0)) hx hb hr (fun t ht hW => ⟨_, rfl, zl_r (by unfold zh_fldE; (repeat' split) <;> omega) (by omega), ht⟩) (fun q hq => nomatch hq) dX3_field_33
      · refine zr_bipush hx hb dX3_field_20 (by decide) ?_
        refine lv_goto (tgt := 33) hx hb dX3_field_22 (by decide) ?_
        exact W.iret (v := zi_n (-12)) hx hb hr (fun t ht hW => ⟨_, rfl, zl_r (by unfold zh_fldE; (repeat' split) <;> omega) (by omega), ht⟩) (fun q hq => nomatch hq) dX3_field_33
  · refine zr_bipush hx hb dX3_field_7 (by decide) ?_
    exact W.iret (v := zi_n (-11)) hx hb hr (fun t ht hW => ⟨_, rfl, zl_r (by unfold zh_fldE; (repeat' split) <;> omega) (by omega), ht⟩) (fun q hq => nomatch hq) dX3_field_9

theorem in_X3_packed_X3 : ∀ w ∈ u_ws RX3 TX3 5, w ∈ wsX3_packed := by decide +kernel
set_option maxHeartbeats 4000000 in
set_option maxRecDepth 100000 in
theorem c_Z_packed (l : Launch) (D : va_G) (x q q2 hh a a2 : Nat) (cA cB : ClassId) (F G : Nat → Int) (n k rd br : Int) (hF : zi_By F) (hn : 0 ≤ n ∧ n ≤ 600) (hG : zi_By G) (hk : 0 ≤ k ∧ k ≤ 600) (hrd : rd = 0 ∨ rd = 1) (hbr : 0 ≤ br ∧ br ≤ 15) (p0 : Int) (p1 : Int) (hR : rd = 1 → (64 ≤ n ∧ k = n) ∧ (1 ≤ F 0 ∧ F 0 ≤ 8) ∧ (64 ≤ zh_len F n ∧ zh_len F n ≤ n) ∧ (64 ≤ zh_t F 14 ∧ zh_t F 14 ≤ zh_len F n) ∧ (64 ≤ zh_t F 12 ∧ zh_t F 12 + 480 ≤ zh_t F 14) ∧ (64 ≤ zh_t F 8 ∧ 0 ≤ zh_sg F n ∧ 4 ≤ zh_eb F n)) (rp0 : zi_R p0) (bp1 : p1 = 0 ∨ p1 = 1) : Met l yX3_packed wsX3_packed ({ frames := 3, cells := 0, slots := 0, locals := 64 }) (va_Pc [.ref x, .int (zi_n p0), .int (zi_n p1)] (zp_Q D vwCl [(x, .inr (4, [.ref q, .ref q2, .ref hh, .int (zi_n rd), .int (zi_n br)])), (q, .inr (3, [.ref a, .int (zi_n n)])), (q2, .inr (3, [.ref a2, .int (zi_n k)])), (hh, .inr (2, [.ref q])), (a, .inl (cA, 600, .inl (zi_F F))), (a2, .inl (cB, 600, .inl (zi_F G)))] [(cA, .int), (cB, .int)])) (vp_Si (fun r => r = zi_n (zh_pkE F rd p0 p1) ∧ -12 ≤ (zh_pkE F rd p0 p1) ∧ (zh_pkE F rd p0 p1) ≤ 786420)) 0 0 (fun _ => False) := by
  refine Met.ofW (cc := cX3_packed) (maxL := 3) (ret := (some .int)) (by decide) rfl ?_
  intro p e s m args below meth c s₁ B hml hv
  obtain ⟨rfl, hP, hK⟩ := hv
  have hx := B.exec
  have hb := B.bytes
  have hr := B.returns
  have hts := atoms_spec (ws := wsX3_packed) B.pre
  have hown : s.vm.findClass RX3 = some m.cls := findClass_of_methodNamed B.named
  have hlocks := B.notSynchronized
  have hl := lv_entry ([.ref x, .int (zi_n p0), .int (zi_n p1)]) (n := 3) (Nat.le_of_ble_eq_true rfl)
  rw [lg_entry_eq]
  generalize (lg_sl ([.ref x, .int (zi_n p0), .int (zi_n p1)]) ++ List.replicate (3 - (lg_sl ([.ref x, .int (zi_n p0), .int (zi_n p1)])).length) Slot.unset).toArray = ls at hl ⊢
  have hl : lv_has ls 3 [(0, .ref x), (1, .int (zi_n p0)), (2, .int (zi_n p1))] := hl
  refine lv_aload_n hx hb dX3_packed_0 rfl (lv_at hl 0 rfl) ?_
  refine va_get (D := D) (ci := 4) (v := .int (zi_n rd)) (C := RX3) (T := TX3) (N := 5) hx hb hts in_X3_packed_X3 hown hK hP 0 rfl rfl 3 (by decide) (hts (.fieldLink RX3 28 "ZHeads" "isRead" "Z") (by decide +kernel)) (fun _ h9 => h9) rfl dX3_packed_1 ?_
  refine zr_if_ne (tgt := 10) hx hb dX3_packed_4 (by decide) (by omega) (fun c_1 => ?_) (fun c_1 => ?_)
  · have hR1 := hR (by omega)
    refine lv_iload_n hx hb dX3_packed_10 rfl (lv_at hl 1 rfl) ?_
    refine zc_S (As := [.int (zi_n p0)]) (rest := []) ⟨hx, hb, hml, hown, hts⟩ (c_Z_isTwo l p0 (by omega)) (va_cwS 1 hts gX3_packed_X3_isTwo rfl rfl rfl (by decide +kernel) ⟨(Nat.le_of_ble_eq_true rfl), (Nat.le_of_ble_eq_true rfl)⟩) rfl hl.1 rfl (Nat.le_of_ble_eq_true rfl) dX3_packed_11 ⟨Nat.zero_le _, Nat.zero_le _⟩ (fun r hr1 => ?_)
    rcases hr1 with ⟨rfl, c_2⟩ | ⟨rfl, c_2⟩
    · refine zr_if_eq (tgt := 29) hx hb dX3_packed_14 (by decide) (by omega) (fun c => absurd c (by decide)) (fun c_3 => ?_)
      refine lv_aload_n hx hb dX3_packed_17 rfl (lv_at hl 0 rfl) ?_
      refine va_get (D := D) (ci := 4) (v := .ref hh) (C := RX3) (T := TX3) (N := 5) hx hb hts in_X3_packed_X3 hown hK hP 0 rfl rfl 2 (by decide) (hts (.fieldLink RX3 24 "ZHeads" "head" "LZHeads$Head;") (by decide +kernel)) (fun _ h9 => h9) rfl dX3_packed_18 ?_
      refine lv_iload_n hx hb dX3_packed_21 rfl (lv_at hl 1 rfl) ?_
      refine lv_iload_n hx hb dX3_packed_22 rfl (lv_at hl 2 rfl) ?_
      refine zc_V (As := [.int (zi_n p0), .int (zi_n p1)]) (rest := []) ⟨hx, hb, hml, hown, hts⟩ (c_Hd_unpacked l D hh q a cA F n hF (by omega) p0 p1 (by omega) (by omega) (by omega)) (cwV 2 hts gX3_packed_X0_unpacked rfl rfl rfl (by decide +kernel) ⟨(Nat.le_of_ble_eq_true rfl), (Nat.le_of_ble_eq_true rfl)⟩) hP hK [3, 1, 4] [0] rfl rfl (ci := 2) rfl rfl rfl rfl hl.1 rfl (Nat.le_of_ble_eq_true rfl) dX3_packed_23 ⟨Nat.zero_le _, Nat.zero_le _⟩ (fun r hr1 => ?_)
      obtain ⟨rfl, b_4⟩ := hr1
      refine lv_goto (tgt := 31) hx hb dX3_packed_26 (by decide) ?_
      exact W.iret (v := zi_n (zh_unp F p0 p1)) hx hb hr (fun t ht hW => ⟨_, rfl, zl_r (by unfold zh_pkE; (repeat' split) <;> omega) (by omega), ht⟩) (fun q hq => nomatch hq) dX3_packed_31
    · refine zr_if_eq (tgt := 29) hx hb dX3_packed_14 (by decide) (by omega) (fun c_5 => ?_) (fun c => absurd c (by decide))
      refine zr_bipush hx hb dX3_packed_29 (by decide) ?_
      exact W.iret (v := zi_n (-12)) hx hb hr (fun t ht hW => ⟨_, rfl, zl_r (by unfold zh_pkE; (repeat' split) <;> omega) (by omega), ht⟩) (fun q hq => nomatch hq) dX3_packed_31
  · refine zr_bipush hx hb dX3_packed_7 (by decide) ?_
    exact W.iret (v := zi_n (-11)) hx hb hr (fun t ht hW => ⟨_, rfl, zl_r (by unfold zh_pkE; (repeat' split) <;> omega) (by omega), ht⟩) (fun q hq => nomatch hq) dX3_packed_9

theorem in_X3_sumAsRead_X3 : ∀ w ∈ u_ws RX3 TX3 5, w ∈ wsX3_sumAsRead := by decide +kernel
set_option maxHeartbeats 4000000 in
set_option maxRecDepth 100000 in
theorem c_Z_sumAsRead (l : Launch) (D : va_G) (x q q2 hh a a2 : Nat) (cA cB : ClassId) (F G : Nat → Int) (n k rd br : Int) (hF : zi_By F) (hn : 0 ≤ n ∧ n ≤ 600) (hG : zi_By G) (hk : 0 ≤ k ∧ k ≤ 600) (hrd : rd = 0 ∨ rd = 1) (hbr : 0 ≤ br ∧ br ≤ 15) (h64 : 64 ≤ n) (hL : 64 ≤ zh_len F n ∧ zh_len F n ≤ n) : Met l yX3_sumAsRead wsX3_sumAsRead ({ frames := 4, cells := 0, slots := 0, locals := 83 }) (va_Pc [.ref x] (zp_Q D vwCl [(x, .inr (4, [.ref q, .ref q2, .ref hh, .int (zi_n rd), .int (zi_n br)])), (q, .inr (3, [.ref a, .int (zi_n n)])), (q2, .inr (3, [.ref a2, .int (zi_n k)])), (hh, .inr (2, [.ref q])), (a, .inl (cA, 600, .inl (zi_F F))), (a2, .inl (cB, 600, .inl (zi_F G)))] [(cA, .int), (cB, .int)])) (vp_Si (fun r => r = zi_n (zh_sum F n) ∧ 0 ≤ (zh_sum F n) ∧ (zh_sum F n) ≤ 65535)) 0 0 (fun _ => False) := by
  refine Met.ofW (cc := cX3_sumAsRead) (maxL := 4) (ret := (some .int)) (by decide) rfl ?_
  intro p e s m args below meth c s₁ B hml hv
  obtain ⟨rfl, hP, hK⟩ := hv
  have hx := B.exec
  have hb := B.bytes
  have hr := B.returns
  have hts := atoms_spec (ws := wsX3_sumAsRead) B.pre
  have hown : s.vm.findClass RX3 = some m.cls := findClass_of_methodNamed B.named
  have hlocks := B.notSynchronized
  have hl := lv_entry ([.ref x]) (n := 4) (Nat.le_of_ble_eq_true rfl)
  rw [lg_entry_eq]
  generalize (lg_sl ([.ref x]) ++ List.replicate (4 - (lg_sl ([.ref x])).length) Slot.unset).toArray = ls at hl ⊢
  have hl : lv_has ls 4 [(0, .ref x)] := hl
  refine zr_iconst hx hb dX3_sumAsRead_0 ?_
  refine lv_istore_n (lv' := [(1, .int (zi_n 0)), (0, .ref x)]) hx hb dX3_sumAsRead_1 rfl hl (by decide) rfl (fun ls hl => ?_)
  refine lv_aload_n hx hb dX3_sumAsRead_2 rfl (lv_at hl 1 rfl) ?_
  refine va_get (D := D) (ci := 4) (v := .ref hh) (C := RX3) (T := TX3) (N := 5) hx hb hts in_X3_sumAsRead_X3 hown hK hP 0 rfl rfl 2 (by decide) (hts (.fieldLink RX3 24 "ZHeads" "head" "LZHeads$Head;") (by decide +kernel)) (fun _ h9 => h9) rfl dX3_sumAsRead_3 ?_
  refine zc_V (As := []) (rest := []) ⟨hx, hb, hml, hown, hts⟩ (c_Hd_length l D hh q a cA F n hF (by omega) (by omega)) (cwV 0 hts gX3_sumAsRead_X0_length rfl rfl rfl (by decide +kernel) ⟨(Nat.le_of_ble_eq_true rfl), (Nat.le_of_ble_eq_true rfl)⟩) hP hK [3, 1, 4] [0] rfl rfl (ci := 2) rfl rfl rfl rfl hl.1 rfl (Nat.le_of_ble_eq_true rfl) dX3_sumAsRead_6 ⟨Nat.zero_le _, Nat.zero_le _⟩ (fun r hr1 => ?_)
  obtain ⟨rfl, b_1⟩ := hr1
  refine lv_istore_n (lv' := [(2, .int (zi_n (zh_len F n))), (1, .int (zi_n 0)), (0, .ref x)]) hx hb dX3_sumAsRead_9 rfl hl (by decide) rfl (fun ls hl => ?_)
  refine zr_bipush hx hb dX3_sumAsRead_10 (by decide) ?_
  refine lv_istore_n (lv' := [(3, .int (zi_n 64)), (2, .int (zi_n (zh_len F n))), (1, .int (zi_n 0)), (0, .ref x)]) hx hb dX3_sumAsRead_12 rfl hl (by decide) rfl (fun ls hl => ?_)
  have key : ∀ (N : Nat) (i : Int), (64 ≤ i) → (i ≤ zh_len F n) → 600 - i < N → ∀ ls : Array Slot, lv_has ls 4 [(3, .int (zi_n i)), (2, .int (zi_n (zh_len F n))), (1, .int (zi_n (zh_sm F (i - 64).toNat))), (0, .ref x)] → W p l e (headSpec wsX3_sumAsRead ({ frames := 4, cells := 0, slots := 0, locals := 83 })).room s m ([.ref x] : List Value).toArray below meth c s.heap [] 0 0 (MQ below (vp_Si (fun r => r = zi_n (zh_sum F n) ∧ 0 ≤ (zh_sum F n) ∧ (zh_sum F n) ≤ 65535)) ([.ref x] : List Value).toArray s 0 0 (fun _ => False)) (F0 m 13 ls []) := by
    intro N
    induction N with
    | zero => intro i h1 h2 hm ls hl; exfalso; omega
    | succ N ih =>
      intro i h1 h2 hm ls hl
      have hsm := zh_sm_b hF (i - 64).toNat
      refine lv_iload_n hx hb dX3_sumAsRead_13 rfl (lv_at hl 0 rfl) ?_
      refine lv_iload_n hx hb dX3_sumAsRead_14 rfl (lv_at hl 1 rfl) ?_
      refine zr_icmp_ge (tgt := 35) hx hb dX3_sumAsRead_15 (by decide) (by omega) (by omega) (fun c_2 => ?_) (fun c_2 => ?_)
      · refine lv_iload_n hx hb dX3_sumAsRead_35 rfl (lv_at hl 2 rfl) ?_
        refine zr_ldc (n := 65535) hx hb hown (hts (.constant RX3 173 (65535)) (by decide +kernel)) (by decide) dX3_sumAsRead_36 ?_
        refine zr_iand65535 hx hb dX3_sumAsRead_38 (by omega) ?_
        exact W.iret (v := zi_n ((zh_sm F (i - 64).toNat) % 65536)) hx hb hr (fun t ht hW => ⟨_, rfl, zl_r (by unfold zh_sum; rw [show zh_len F n = i by omega]) (by omega), ht⟩) (fun q hq => nomatch hq) dX3_sumAsRead_39
      · refine lv_iload_n hx hb dX3_sumAsRead_18 rfl (lv_at hl 2 rfl) ?_
        refine lv_aload_n hx hb dX3_sumAsRead_19 rfl (lv_at hl 3 rfl) ?_
        refine va_get (D := D) (ci := 4) (v := .ref q) (C := RX3) (T := TX3) (N := 5) hx hb hts in_X3_sumAsRead_X3 hown hK hP 0 rfl rfl 0 (by decide) (hts (.fieldLink RX3 10 "ZHeads" "file" "LZHeads$Row;") (by decide +kernel)) (fun _ h9 => h9) rfl dX3_sumAsRead_20 ?_
        refine lv_iload_n hx hb dX3_sumAsRead_23 rfl (lv_at hl 0 rfl) ?_
        refine zc_V (As := [.int (zi_n i)]) (rest := [.int (zi_n (zh_sm F (i - 64).toNat))]) ⟨hx, hb, hml, hown, hts⟩ (c_Row_at l D q a cA F n hF (by omega) i (by omega)) (cwV 1 hts gX3_sumAsRead_X2_at rfl rfl rfl (by decide +kernel) ⟨(Nat.le_of_ble_eq_true rfl), (Nat.le_of_ble_eq_true rfl)⟩) hP hK [1, 4] [0] rfl rfl (ci := 3) rfl rfl rfl rfl hl.1 rfl (Nat.le_of_ble_eq_true rfl) dX3_sumAsRead_24 ⟨Nat.zero_le _, Nat.zero_le _⟩ (fun r hr1 => ?_)
        obtain ⟨rfl, b_3⟩ := hr1
        refine zr_iadd hx hb dX3_sumAsRead_27 ?_
        refine lv_istore_n (lv' := [(1, .int (zi_n ((zh_sm F (i - 64).toNat) + (zh_at F n i)))), (3, .int (zi_n i)), (2, .int (zi_n (zh_len F n))), (0, .ref x)]) hx hb dX3_sumAsRead_28 rfl hl (by decide) rfl (fun ls hl => ?_)
        refine zr_iinc (lv' := [(3, .int (zi_n (i + 1))), (1, .int (zi_n ((zh_sm F (i - 64).toNat) + (zh_at F n i)))), (2, .int (zi_n (zh_len F n))), (0, .ref x)]) hx hb dX3_sumAsRead_29 hl (k := 1) rfl (by decide) rfl (fun ls hl => ?_)
        refine lv_goto (tgt := 13) hx hb dX3_sumAsRead_32 (by decide) ?_
        have hq1 : zh_sm F (i - 64).toNat + zh_at F n i = zh_sm F (i + 1 - 64).toNat := by rw [zh_at_in ⟨by omega, by omega⟩]; exact zh_sm_s F (by omega)
        rw [hq1] at hl
        exact ih (i + 1) (by omega) (by omega) (by omega) _ (lv_sub hl [0, 2, 1, 3] rfl)
  exact key 601 64 (by omega) (by omega) (by omega) _ hl

theorem in_X3_sum_X3 : ∀ w ∈ u_ws RX3 TX3 5, w ∈ wsX3_sum := by decide +kernel
set_option maxHeartbeats 4000000 in
set_option maxRecDepth 100000 in
theorem c_Z_sum (l : Launch) (D : va_G) (x q q2 hh a a2 : Nat) (cA cB : ClassId) (F G : Nat → Int) (n k rd br : Int) (hF : zi_By F) (hn : 0 ≤ n ∧ n ≤ 600) (hG : zi_By G) (hk : 0 ≤ k ∧ k ≤ 600) (hrd : rd = 0 ∨ rd = 1) (hbr : 0 ≤ br ∧ br ≤ 15) (hR : rd = 1 → (64 ≤ n ∧ k = n) ∧ (1 ≤ F 0 ∧ F 0 ≤ 8) ∧ (64 ≤ zh_len F n ∧ zh_len F n ≤ n) ∧ (64 ≤ zh_t F 14 ∧ zh_t F 14 ≤ zh_len F n) ∧ (64 ≤ zh_t F 12 ∧ zh_t F 12 + 480 ≤ zh_t F 14) ∧ (64 ≤ zh_t F 8 ∧ 0 ≤ zh_sg F n ∧ 4 ≤ zh_eb F n)) : Met l yX3_sum wsX3_sum ({ frames := 5, cells := 0, slots := 0, locals := 106 }) (va_Pc [.ref x] (zp_Q D vwCl [(x, .inr (4, [.ref q, .ref q2, .ref hh, .int (zi_n rd), .int (zi_n br)])), (q, .inr (3, [.ref a, .int (zi_n n)])), (q2, .inr (3, [.ref a2, .int (zi_n k)])), (hh, .inr (2, [.ref q])), (a, .inl (cA, 600, .inl (zi_F F))), (a2, .inl (cB, 600, .inl (zi_F G)))] [(cA, .int), (cB, .int)])) (vp_Si (fun r => r = zi_n (zh_sumE F n rd) ∧ -11 ≤ (zh_sumE F n rd) ∧ (zh_sumE F n rd) ≤ 65535)) 0 0 (fun _ => False) := by
  refine Met.ofW (cc := cX3_sum) (maxL := 1) (ret := (some .int)) (by decide) rfl ?_
  intro p e s m args below meth c s₁ B hml hv
  obtain ⟨rfl, hP, hK⟩ := hv
  have hx := B.exec
  have hb := B.bytes
  have hr := B.returns
  have hts := atoms_spec (ws := wsX3_sum) B.pre
  have hown : s.vm.findClass RX3 = some m.cls := findClass_of_methodNamed B.named
  have hlocks := B.notSynchronized
  have hl := lv_entry ([.ref x]) (n := 1) (Nat.le_of_ble_eq_true rfl)
  rw [lg_entry_eq]
  generalize (lg_sl ([.ref x]) ++ List.replicate (1 - (lg_sl ([.ref x])).length) Slot.unset).toArray = ls at hl ⊢
  have hl : lv_has ls 1 [(0, .ref x)] := hl
  refine lv_aload_n hx hb dX3_sum_0 rfl (lv_at hl 0 rfl) ?_
  refine va_get (D := D) (ci := 4) (v := .int (zi_n rd)) (C := RX3) (T := TX3) (N := 5) hx hb hts in_X3_sum_X3 hown hK hP 0 rfl rfl 3 (by decide) (hts (.fieldLink RX3 28 "ZHeads" "isRead" "Z") (by decide +kernel)) (fun _ h9 => h9) rfl dX3_sum_1 ?_
  refine zr_if_eq (tgt := 14) hx hb dX3_sum_4 (by decide) (by omega) (fun c_1 => ?_) (fun c_1 => ?_)
  · refine zr_bipush hx hb dX3_sum_14 (by decide) ?_
    exact W.iret (v := zi_n (-11)) hx hb hr (fun t ht hW => ⟨_, rfl, zl_r (by unfold zh_sumE; (repeat' split) <;> omega) (by omega), ht⟩) (fun q hq => nomatch hq) dX3_sum_16
  · have hR1 := hR (by omega)
    refine lv_aload_n hx hb dX3_sum_7 rfl (lv_at hl 0 rfl) ?_
    refine zc_V (As := []) (rest := []) ⟨hx, hb, hml, hown, hts⟩ (c_Z_sumAsRead l D x q q2 hh a a2 cA cB F G n k rd br hF (by omega) hG (by omega) (by omega) (by omega) (by omega) (by omega)) (cwV 0 hts gX3_sum_X3_sumAsRead rfl rfl rfl (by decide +kernel) ⟨(Nat.le_of_ble_eq_true rfl), (Nat.le_of_ble_eq_true rfl)⟩) hP hK [0, 1, 2, 3, 4, 5] [0, 1] rfl rfl (ci := 4) rfl rfl rfl rfl hl.1 rfl (Nat.le_of_ble_eq_true rfl) dX3_sum_8 ⟨Nat.zero_le _, Nat.zero_le _⟩ (fun r hr1 => ?_)
    obtain ⟨rfl, b_2⟩ := hr1
    refine lv_goto (tgt := 16) hx hb dX3_sum_11 (by decide) ?_
    exact W.iret (v := zi_n (zh_sum F n)) hx hb hr (fun t ht hW => ⟨_, rfl, zl_r (by unfold zh_sumE; (repeat' split) <;> omega) (by omega), ht⟩) (fun q hq => nomatch hq) dX3_sum_16

theorem in_X3_agrees_X3 : ∀ w ∈ u_ws RX3 TX3 5, w ∈ wsX3_agrees := by decide +kernel
set_option maxHeartbeats 4000000 in
set_option maxRecDepth 100000 in
theorem c_Z_agrees (l : Launch) (D : va_G) (x q q2 hh a a2 : Nat) (cA cB : ClassId) (F G : Nat → Int) (n k rd br : Int) (hF : zi_By F) (hn : 0 ≤ n ∧ n ≤ 600) (hG : zi_By G) (hk : 0 ≤ k ∧ k ≤ 600) (hrd : rd = 0 ∨ rd = 1) (hbr : 0 ≤ br ∧ br ≤ 15) (hR : rd = 1 → (64 ≤ n ∧ k = n) ∧ (1 ≤ F 0 ∧ F 0 ≤ 8) ∧ (64 ≤ zh_len F n ∧ zh_len F n ≤ n) ∧ (64 ≤ zh_t F 14 ∧ zh_t F 14 ≤ zh_len F n) ∧ (64 ≤ zh_t F 12 ∧ zh_t F 12 + 480 ≤ zh_t F 14) ∧ (64 ≤ zh_t F 8 ∧ 0 ≤ zh_sg F n ∧ 4 ≤ zh_eb F n)) : Met l yX3_agrees wsX3_agrees ({ frames := 5, cells := 0, slots := 0, locals := 106 }) (va_Pc [.ref x] (zp_Q D vwCl [(x, .inr (4, [.ref q, .ref q2, .ref hh, .int (zi_n rd), .int (zi_n br)])), (q, .inr (3, [.ref a, .int (zi_n n)])), (q2, .inr (3, [.ref a2, .int (zi_n k)])), (hh, .inr (2, [.ref q])), (a, .inl (cA, 600, .inl (zi_F F))), (a2, .inl (cB, 600, .inl (zi_F G)))] [(cA, .int), (cB, .int)])) (vp_Si (fun r => r = zi_n (zh_agE F n rd) ∧ -11 ≤ (zh_agE F n rd) ∧ (zh_agE F n rd) ≤ 1)) 0 0 (fun _ => False) := by
  refine Met.ofW (cc := cX3_agrees) (maxL := 1) (ret := (some .int)) (by decide) rfl ?_
  intro p e s m args below meth c s₁ B hml hv
  obtain ⟨rfl, hP, hK⟩ := hv
  have hx := B.exec
  have hb := B.bytes
  have hr := B.returns
  have hts := atoms_spec (ws := wsX3_agrees) B.pre
  have hown : s.vm.findClass RX3 = some m.cls := findClass_of_methodNamed B.named
  have hlocks := B.notSynchronized
  have hl := lv_entry ([.ref x]) (n := 1) (Nat.le_of_ble_eq_true rfl)
  rw [lg_entry_eq]
  generalize (lg_sl ([.ref x]) ++ List.replicate (1 - (lg_sl ([.ref x])).length) Slot.unset).toArray = ls at hl ⊢
  have hl : lv_has ls 1 [(0, .ref x)] := hl
  refine lv_aload_n hx hb dX3_agrees_0 rfl (lv_at hl 0 rfl) ?_
  refine va_get (D := D) (ci := 4) (v := .int (zi_n rd)) (C := RX3) (T := TX3) (N := 5) hx hb hts in_X3_agrees_X3 hown hK hP 0 rfl rfl 3 (by decide) (hts (.fieldLink RX3 28 "ZHeads" "isRead" "Z") (by decide +kernel)) (fun _ h9 => h9) rfl dX3_agrees_1 ?_
  refine zr_if_ne (tgt := 10) hx hb dX3_agrees_4 (by decide) (by omega) (fun c_1 => ?_) (fun c_1 => ?_)
  · have hR1 := hR (by omega)
    refine lv_aload_n hx hb dX3_agrees_10 rfl (lv_at hl 0 rfl) ?_
    refine zc_V (As := []) (rest := []) ⟨hx, hb, hml, hown, hts⟩ (c_Z_sumAsRead l D x q q2 hh a a2 cA cB F G n k rd br hF (by omega) hG (by omega) (by omega) (by omega) (by omega) (by omega)) (cwV 0 hts gX3_agrees_X3_sumAsRead rfl rfl rfl (by decide +kernel) ⟨(Nat.le_of_ble_eq_true rfl), (Nat.le_of_ble_eq_true rfl)⟩) hP hK [0, 1, 2, 3, 4, 5] [0, 1] rfl rfl (ci := 4) rfl rfl rfl rfl hl.1 rfl (Nat.le_of_ble_eq_true rfl) dX3_agrees_11 ⟨Nat.zero_le _, Nat.zero_le _⟩ (fun r hr1 => ?_)
    obtain ⟨rfl, b_2⟩ := hr1
    refine lv_aload_n hx hb dX3_agrees_14 rfl (lv_at hl 0 rfl) ?_
    refine va_get (D := D) (ci := 4) (v := .ref q) (C := RX3) (T := TX3) (N := 5) hx hb hts in_X3_agrees_X3 hown hK hP 0 rfl rfl 0 (by decide) (hts (.fieldLink RX3 10 "ZHeads" "file" "LZHeads$Row;") (by decide +kernel)) (fun _ h9 => h9) rfl dX3_agrees_15 ?_
    refine zr_bipush hx hb dX3_agrees_18 (by decide) ?_
    refine zc_V (As := [.int (zi_n 28)]) (rest := [.int (zi_n (zh_sum F n))]) ⟨hx, hb, hml, hown, hts⟩ (c_Row_two_k l D q a cA F n hF (by omega) 28 28 rfl (by omega)) (cwV 1 hts gX3_agrees_X2_two rfl rfl rfl (by decide +kernel) ⟨(Nat.le_of_ble_eq_true rfl), (Nat.le_of_ble_eq_true rfl)⟩) hP hK [1, 4] [0] rfl rfl (ci := 3) rfl rfl rfl rfl hl.1 rfl (Nat.le_of_ble_eq_true rfl) dX3_agrees_20 ⟨Nat.zero_le _, Nat.zero_le _⟩ (fun r hr1 => ?_)
    obtain ⟨rfl, b_3⟩ := hr1
    refine zr_icmp_ne (tgt := 30) hx hb dX3_agrees_23 (by decide) (by omega) (by omega) (fun c_4 => ?_) (fun c_4 => ?_)
    · refine zr_iconst hx hb dX3_agrees_30 ?_
      exact W.iret (v := zi_n 0) hx hb hr (fun t ht hW => ⟨_, rfl, zl_r (by unfold zh_agE; (repeat' split) <;> omega) (by omega), ht⟩) (fun q hq => nomatch hq) dX3_agrees_31
    · refine zr_iconst hx hb dX3_agrees_26 ?_
      refine lv_goto (tgt := 31) hx hb dX3_agrees_27 (by decide) ?_
      exact W.iret (v := zi_n 1) hx hb hr (fun t ht hW => ⟨_, rfl, zl_r (by unfold zh_agE; (repeat' split) <;> omega) (by omega), ht⟩) (fun q hq => nomatch hq) dX3_agrees_31
  · refine zr_bipush hx hb dX3_agrees_7 (by decide) ?_
    exact W.iret (v := zi_n (-11)) hx hb hr (fun t ht hW => ⟨_, rfl, zl_r (by unfold zh_agE; (repeat' split) <;> omega) (by omega), ht⟩) (fun q hq => nomatch hq) dX3_agrees_9

theorem in_X3_flagBit_X3 : ∀ w ∈ u_ws RX3 TX3 5, w ∈ wsX3_flagBit := by decide +kernel
set_option maxHeartbeats 4000000 in
set_option maxRecDepth 100000 in
theorem c_Z_flagBit (l : Launch) (D : va_G) (x q q2 hh a a2 : Nat) (cA cB : ClassId) (F G : Nat → Int) (n k rd br : Int) (hF : zi_By F) (hn : 0 ≤ n ∧ n ≤ 600) (hG : zi_By G) (hk : 0 ≤ k ∧ k ≤ 600) (hrd : rd = 0 ∨ rd = 1) (hbr : 0 ≤ br ∧ br ≤ 15) (p0 : Int) (p1 : Int) (h64 : 64 ≤ k) (rp0 : zi_R p0) (hp : 0 ≤ p1 ∧ p1 ≤ 15) : Met l yX3_flagBit wsX3_flagBit ({ frames := 1, cells := 0, slots := 0, locals := 21 }) (va_Pc [.ref x, .int (zi_n p0), .int (zi_n p1)] (zp_Q D vwCl [(x, .inr (4, [.ref q, .ref q2, .ref hh, .int (zi_n rd), .int (zi_n br)])), (q, .inr (3, [.ref a, .int (zi_n n)])), (q2, .inr (3, [.ref a2, .int (zi_n k)])), (hh, .inr (2, [.ref q])), (a, .inl (cA, 600, .inl (zi_F F))), (a2, .inl (cB, 600, .inl (zi_F G)))] [(cA, .int), (cB, .int)])) (vp_Si (fun r => r = zi_n (zh_fb G p0 p1) ∧ 0 ≤ (zh_fb G p0 p1) ∧ (zh_fb G p0 p1) ≤ 1)) 0 0 (fun _ => False) := by
  refine Met.ofW (cc := cX3_flagBit) (maxL := 4) (ret := (some .int)) (by decide) rfl ?_
  intro p e s m args below meth c s₁ B hml hv
  obtain ⟨rfl, hP, hK⟩ := hv
  have hx := B.exec
  have hb := B.bytes
  have hr := B.returns
  have hts := atoms_spec (ws := wsX3_flagBit) B.pre
  have hown : s.vm.findClass RX3 = some m.cls := findClass_of_methodNamed B.named
  have hlocks := B.notSynchronized
  have hl := lv_entry ([.ref x, .int (zi_n p0), .int (zi_n p1)]) (n := 4) (Nat.le_of_ble_eq_true rfl)
  rw [lg_entry_eq]
  generalize (lg_sl ([.ref x, .int (zi_n p0), .int (zi_n p1)]) ++ List.replicate (4 - (lg_sl ([.ref x, .int (zi_n p0), .int (zi_n p1)])).length) Slot.unset).toArray = ls at hl ⊢
  have hl : lv_has ls 4 [(0, .ref x), (1, .int (zi_n p0)), (2, .int (zi_n p1))] := hl
  refine lv_iload_n hx hb dX3_flagBit_0 rfl (lv_at hl 1 rfl) ?_
  refine zr_iconst hx hb dX3_flagBit_1 ?_
  refine zr_icmp_ne (tgt := 16) hx hb dX3_flagBit_2 (by decide) (by omega) (by omega) (fun c_1 => ?_) (fun c_1 => ?_)
  · refine lv_aload_n hx hb dX3_flagBit_16 rfl (lv_at hl 0 rfl) ?_
    refine va_get (D := D) (ci := 4) (v := .ref q2) (C := RX3) (T := TX3) (N := 5) hx hb hts in_X3_flagBit_X3 hown hK hP 0 rfl rfl 1 (by decide) (hts (.fieldLink RX3 16 "ZHeads" "memory" "LZHeads$Row;") (by decide +kernel)) (fun _ h9 => h9) rfl dX3_flagBit_17 ?_
    refine zr_bipush hx hb dX3_flagBit_20 (by decide) ?_
    refine zc_V (As := [.int (zi_n 16)]) (rest := []) ⟨hx, hb, hml, hown, hts⟩ (c_Row_two_k l D q2 a2 cB G k hG (by omega) 16 16 rfl (by omega)) (cwV 1 hts gX3_flagBit_X2_two rfl rfl rfl (by decide +kernel) ⟨(Nat.le_of_ble_eq_true rfl), (Nat.le_of_ble_eq_true rfl)⟩) hP hK [2, 5] [1] rfl rfl (ci := 3) rfl rfl rfl rfl hl.1 rfl (Nat.le_of_ble_eq_true rfl) dX3_flagBit_22 ⟨Nat.zero_le _, Nat.zero_le _⟩ (fun r hr1 => ?_)
    obtain ⟨rfl, b_2⟩ := hr1
    refine lv_istore_n (lv' := [(3, .int (zi_n (zh_t G 16))), (0, .ref x), (1, .int (zi_n p0)), (2, .int (zi_n p1))]) hx hb dX3_flagBit_25 rfl hl (by decide) rfl (fun ls hl => ?_)
    refine lv_iload_n hx hb dX3_flagBit_26 rfl (lv_at hl 0 rfl) ?_
    refine lv_iload_n hx hb dX3_flagBit_27 rfl (lv_at hl 3 rfl) ?_
    refine zr_ishr hx hb dX3_flagBit_28 (by omega) (by omega) ?_
    have b_3 := zh_sr_b (a := zh_t G 16) (k := p1) (by omega)
    refine zr_iconst hx hb dX3_flagBit_29 ?_
    refine zr_iand1 hx hb dX3_flagBit_30 (by omega) ?_
    exact W.iret (v := zi_n ((zh_sr (zh_t G 16) p1) % 2)) hx hb hr (fun t ht hW => ⟨_, rfl, zl_r (by unfold zh_fb; (repeat' split) <;> omega) (by omega), ht⟩) (fun q hq => nomatch hq) dX3_flagBit_31
  · refine lv_aload_n hx hb dX3_flagBit_5 rfl (lv_at hl 0 rfl) ?_
    refine va_get (D := D) (ci := 4) (v := .ref q2) (C := RX3) (T := TX3) (N := 5) hx hb hts in_X3_flagBit_X3 hown hK hP 0 rfl rfl 1 (by decide) (hts (.fieldLink RX3 16 "ZHeads" "memory" "LZHeads$Row;") (by decide +kernel)) (fun _ h9 => h9) rfl dX3_flagBit_6 ?_
    refine zr_iconst hx hb dX3_flagBit_9 ?_
    refine zc_V (As := [.int (zi_n 1)]) (rest := []) ⟨hx, hb, hml, hown, hts⟩ (c_Row_at_k l D q2 a2 cB G k hG (by omega) 1 1 rfl (by omega)) (cwV 1 hts gX3_flagBit_X2_at rfl rfl rfl (by decide +kernel) ⟨(Nat.le_of_ble_eq_true rfl), (Nat.le_of_ble_eq_true rfl)⟩) hP hK [2, 5] [1] rfl rfl (ci := 3) rfl rfl rfl rfl hl.1 rfl (Nat.le_of_ble_eq_true rfl) dX3_flagBit_10 ⟨Nat.zero_le _, Nat.zero_le _⟩ (fun r hr1 => ?_)
    obtain ⟨rfl, b_4⟩ := hr1
    refine lv_goto (tgt := 25) hx hb dX3_flagBit_13 (by decide) ?_
    refine lv_istore_n (lv' := [(3, .int (zi_n (G 1))), (0, .ref x), (1, .int (zi_n p0)), (2, .int (zi_n p1))]) hx hb dX3_flagBit_25 rfl hl (by decide) rfl (fun ls hl => ?_)
    refine lv_iload_n hx hb dX3_flagBit_26 rfl (lv_at hl 0 rfl) ?_
    refine lv_iload_n hx hb dX3_flagBit_27 rfl (lv_at hl 3 rfl) ?_
    refine zr_ishr hx hb dX3_flagBit_28 (by omega) (by omega) ?_
    have b_5 := zh_sr_b (a := G 1) (k := p1) (by omega)
    refine zr_iconst hx hb dX3_flagBit_29 ?_
    refine zr_iand1 hx hb dX3_flagBit_30 (by omega) ?_
    exact W.iret (v := zi_n ((zh_sr (G 1) p1) % 2)) hx hb hr (fun t ht hW => ⟨_, rfl, zl_r (by unfold zh_fb; (repeat' split) <;> omega) (by omega), ht⟩) (fun q hq => nomatch hq) dX3_flagBit_31

theorem in_X3_isOn_X3 : ∀ w ∈ u_ws RX3 TX3 5, w ∈ wsX3_isOn := by decide +kernel
set_option maxHeartbeats 4000000 in
set_option maxRecDepth 100000 in
theorem c_Z_isOn (l : Launch) (D : va_G) (x q q2 hh a a2 : Nat) (cA cB : ClassId) (F G : Nat → Int) (n k rd br : Int) (hF : zi_By F) (hn : 0 ≤ n ∧ n ≤ 600) (hG : zi_By G) (hk : 0 ≤ k ∧ k ≤ 600) (hrd : rd = 0 ∨ rd = 1) (hbr : 0 ≤ br ∧ br ≤ 15) (p0 : Int) (p1 : Int) (hR : rd = 1 → (64 ≤ n ∧ k = n) ∧ (1 ≤ F 0 ∧ F 0 ≤ 8) ∧ (64 ≤ zh_len F n ∧ zh_len F n ≤ n) ∧ (64 ≤ zh_t F 14 ∧ zh_t F 14 ≤ zh_len F n) ∧ (64 ≤ zh_t F 12 ∧ zh_t F 12 + 480 ≤ zh_t F 14) ∧ (64 ≤ zh_t F 8 ∧ 0 ≤ zh_sg F n ∧ 4 ≤ zh_eb F n)) (rp0 : zi_R p0) (rp1 : zi_R p1) : Met l yX3_isOn wsX3_isOn ({ frames := 2, cells := 0, slots := 0, locals := 44 }) (va_Pc [.ref x, .int (zi_n p0), .int (zi_n p1)] (zp_Q D vwCl [(x, .inr (4, [.ref q, .ref q2, .ref hh, .int (zi_n rd), .int (zi_n br)])), (q, .inr (3, [.ref a, .int (zi_n n)])), (q2, .inr (3, [.ref a2, .int (zi_n k)])), (hh, .inr (2, [.ref q])), (a, .inl (cA, 600, .inl (zi_F F))), (a2, .inl (cB, 600, .inl (zi_F G)))] [(cA, .int), (cB, .int)])) (vp_Si (fun r => r = zi_n (zh_onE G rd p0 p1) ∧ -12 ≤ (zh_onE G rd p0 p1) ∧ (zh_onE G rd p0 p1) ≤ 1)) 0 0 (fun _ => False) := by
  refine Met.ofW (cc := cX3_isOn) (maxL := 3) (ret := (some .int)) (by decide) rfl ?_
  intro p e s m args below meth c s₁ B hml hv
  obtain ⟨rfl, hP, hK⟩ := hv
  have hx := B.exec
  have hb := B.bytes
  have hr := B.returns
  have hts := atoms_spec (ws := wsX3_isOn) B.pre
  have hown : s.vm.findClass RX3 = some m.cls := findClass_of_methodNamed B.named
  have hlocks := B.notSynchronized
  have hl := lv_entry ([.ref x, .int (zi_n p0), .int (zi_n p1)]) (n := 3) (Nat.le_of_ble_eq_true rfl)
  rw [lg_entry_eq]
  generalize (lg_sl ([.ref x, .int (zi_n p0), .int (zi_n p1)]) ++ List.replicate (3 - (lg_sl ([.ref x, .int (zi_n p0), .int (zi_n p1)])).length) Slot.unset).toArray = ls at hl ⊢
  have hl : lv_has ls 3 [(0, .ref x), (1, .int (zi_n p0)), (2, .int (zi_n p1))] := hl
  refine lv_aload_n hx hb dX3_isOn_0 rfl (lv_at hl 0 rfl) ?_
  refine va_get (D := D) (ci := 4) (v := .int (zi_n rd)) (C := RX3) (T := TX3) (N := 5) hx hb hts in_X3_isOn_X3 hown hK hP 0 rfl rfl 3 (by decide) (hts (.fieldLink RX3 28 "ZHeads" "isRead" "Z") (by decide +kernel)) (fun _ h9 => h9) rfl dX3_isOn_1 ?_
  refine zr_if_ne (tgt := 10) hx hb dX3_isOn_4 (by decide) (by omega) (fun c_1 => ?_) (fun c_1 => ?_)
  · have hR1 := hR (by omega)
    refine lv_iload_n hx hb dX3_isOn_10 rfl (lv_at hl 1 rfl) ?_
    refine lv_iload_n hx hb dX3_isOn_11 rfl (lv_at hl 2 rfl) ?_
    refine zc_S (As := [.int (zi_n p0), .int (zi_n p1)]) (rest := []) ⟨hx, hb, hml, hown, hts⟩ (c_R_isFlag l p0 p1 (by omega) (by omega)) (va_cwS 2 hts gX3_isOn_X1_isFlag rfl rfl rfl (by decide +kernel) ⟨(Nat.le_of_ble_eq_true rfl), (Nat.le_of_ble_eq_true rfl)⟩) rfl hl.1 rfl (Nat.le_of_ble_eq_true rfl) dX3_isOn_12 ⟨Nat.zero_le _, Nat.zero_le _⟩ (fun r hr1 => ?_)
    rcases hr1 with ⟨rfl, c_2⟩ | ⟨rfl, c_2⟩
    · unfold zh_isF at c_2
      refine zr_if_eq (tgt := 27) hx hb dX3_isOn_15 (by decide) (by omega) (fun c => absurd c (by decide)) (fun c_3 => ?_)
      refine lv_aload_n hx hb dX3_isOn_18 rfl (lv_at hl 0 rfl) ?_
      refine lv_iload_n hx hb dX3_isOn_19 rfl (lv_at hl 1 rfl) ?_
      refine lv_iload_n hx hb dX3_isOn_20 rfl (lv_at hl 2 rfl) ?_
      refine zc_V (As := [.int (zi_n p0), .int (zi_n p1)]) (rest := []) ⟨hx, hb, hml, hown, hts⟩ (c_Z_flagBit l D x q q2 hh a a2 cA cB F G n k rd br hF (by omega) hG (by omega) (by omega) (by omega) p0 p1 (by omega) (by omega) (by omega)) (cwV 2 hts gX3_isOn_X3_flagBit rfl rfl rfl (by decide +kernel) ⟨(Nat.le_of_ble_eq_true rfl), (Nat.le_of_ble_eq_true rfl)⟩) hP hK [0, 1, 2, 3, 4, 5] [0, 1] rfl rfl (ci := 4) rfl rfl rfl rfl hl.1 rfl (Nat.le_of_ble_eq_true rfl) dX3_isOn_21 ⟨Nat.zero_le _, Nat.zero_le _⟩ (fun r hr1 => ?_)
      obtain ⟨rfl, b_4⟩ := hr1
      refine lv_goto (tgt := 29) hx hb dX3_isOn_24 (by decide) ?_
      exact W.iret (v := zi_n (zh_fb G p0 p1)) hx hb hr (fun t ht hW => ⟨_, rfl, zl_r (by unfold zh_onE; (repeat' split) <;> omega) (by omega), ht⟩) (fun q hq => nomatch hq) dX3_isOn_29
    · unfold zh_isF at c_2
      refine zr_if_eq (tgt := 27) hx hb dX3_isOn_15 (by decide) (by omega) (fun c_5 => ?_) (fun c => absurd c (by decide))
      refine zr_bipush hx hb dX3_isOn_27 (by decide) ?_
      exact W.iret (v := zi_n (-12)) hx hb hr (fun t ht hW => ⟨_, rfl, zl_r (by unfold zh_onE; (repeat' split) <;> omega) (by omega), ht⟩) (fun q hq => nomatch hq) dX3_isOn_29
  · refine zr_bipush hx hb dX3_isOn_7 (by decide) ?_
    exact W.iret (v := zi_n (-11)) hx hb hr (fun t ht hW => ⟨_, rfl, zl_r (by unfold zh_onE; (repeat' split) <;> omega) (by omega), ht⟩) (fun q hq => nomatch hq) dX3_isOn_9

theorem in_X3_serial_X3 : ∀ w ∈ u_ws RX3 TX3 5, w ∈ wsX3_serial := by decide +kernel
set_option maxHeartbeats 4000000 in
set_option maxRecDepth 100000 in
theorem c_Z_serial (l : Launch) (D : va_G) (x q q2 hh a a2 : Nat) (cA cB : ClassId) (F G : Nat → Int) (n k rd br : Int) (hF : zi_By F) (hn : 0 ≤ n ∧ n ≤ 600) (hG : zi_By G) (hk : 0 ≤ k ∧ k ≤ 600) (hrd : rd = 0 ∨ rd = 1) (hbr : 0 ≤ br ∧ br ≤ 15) (p0 : Int) (hR : rd = 1 → (64 ≤ n ∧ k = n) ∧ (1 ≤ F 0 ∧ F 0 ≤ 8) ∧ (64 ≤ zh_len F n ∧ zh_len F n ≤ n) ∧ (64 ≤ zh_t F 14 ∧ zh_t F 14 ≤ zh_len F n) ∧ (64 ≤ zh_t F 12 ∧ zh_t F 12 + 480 ≤ zh_t F 14) ∧ (64 ≤ zh_t F 8 ∧ 0 ≤ zh_sg F n ∧ 4 ≤ zh_eb F n)) (hp : rd = 0 ∨ (0 ≤ p0 ∧ p0 ≤ 5)) : Met l yX3_serial wsX3_serial ({ frames := 1, cells := 0, slots := 0, locals := 21 }) (va_Pc [.ref x, .int (zi_n p0)] (zp_Q D vwCl [(x, .inr (4, [.ref q, .ref q2, .ref hh, .int (zi_n rd), .int (zi_n br)])), (q, .inr (3, [.ref a, .int (zi_n n)])), (q2, .inr (3, [.ref a2, .int (zi_n k)])), (hh, .inr (2, [.ref q])), (a, .inl (cA, 600, .inl (zi_F F))), (a2, .inl (cB, 600, .inl (zi_F G)))] [(cA, .int), (cB, .int)])) (vp_Si (fun r => r = zi_n (zh_serE G k rd p0) ∧ -11 ≤ (zh_serE G k rd p0) ∧ (zh_serE G k rd p0) ≤ 255)) 0 0 (fun _ => False) := by
  refine Met.ofW (cc := cX3_serial) (maxL := 2) (ret := (some .int)) (by decide) rfl ?_
  intro p e s m args below meth c s₁ B hml hv
  obtain ⟨rfl, hP, hK⟩ := hv
  have hx := B.exec
  have hb := B.bytes
  have hr := B.returns
  have hts := atoms_spec (ws := wsX3_serial) B.pre
  have hown : s.vm.findClass RX3 = some m.cls := findClass_of_methodNamed B.named
  have hlocks := B.notSynchronized
  have hl := lv_entry ([.ref x, .int (zi_n p0)]) (n := 2) (Nat.le_of_ble_eq_true rfl)
  rw [lg_entry_eq]
  generalize (lg_sl ([.ref x, .int (zi_n p0)]) ++ List.replicate (2 - (lg_sl ([.ref x, .int (zi_n p0)])).length) Slot.unset).toArray = ls at hl ⊢
  have hl : lv_has ls 2 [(0, .ref x), (1, .int (zi_n p0))] := hl
  refine lv_aload_n hx hb dX3_serial_0 rfl (lv_at hl 0 rfl) ?_
  refine va_get (D := D) (ci := 4) (v := .int (zi_n rd)) (C := RX3) (T := TX3) (N := 5) hx hb hts in_X3_serial_X3 hown hK hP 0 rfl rfl 3 (by decide) (hts (.fieldLink RX3 28 "ZHeads" "isRead" "Z") (by decide +kernel)) (fun _ h9 => h9) rfl dX3_serial_1 ?_
  refine zr_if_ne (tgt := 10) hx hb dX3_serial_4 (by decide) (by omega) (fun c_1 => ?_) (fun c_1 => ?_)
  · have hR1 := hR (by omega)
    refine lv_iload_n hx hb dX3_serial_10 rfl (lv_at hl 1 rfl) ?_
    refine zr_if_lt (tgt := 20) hx hb dX3_serial_11 (by decide) (by omega) (fun c => False.elim (by omega)) (fun c_2 => ?_)
    refine lv_iload_n hx hb dX3_serial_14 rfl (lv_at hl 1 rfl) ?_
    refine zr_bipush hx hb dX3_serial_15 (by decide) ?_
    refine zr_icmp_lt (tgt := 30) hx hb dX3_serial_17 (by decide) (by omega) (by omega) (fun c_3 => ?_) (fun c => False.elim (by omega))
    refine lv_aload_n hx hb dX3_serial_30 rfl (lv_at hl 0 rfl) ?_
    refine va_get (D := D) (ci := 4) (v := .ref q2) (C := RX3) (T := TX3) (N := 5) hx hb hts in_X3_serial_X3 hown hK hP 0 rfl rfl 1 (by decide) (hts (.fieldLink RX3 16 "ZHeads" "memory" "LZHeads$Row;") (by decide +kernel)) (fun _ h9 => h9) rfl dX3_serial_31 ?_
    refine zr_bipush hx hb dX3_serial_34 (by decide) ?_
    refine lv_iload_n hx hb dX3_serial_36 rfl (lv_at hl 1 rfl) ?_
    refine zr_iadd hx hb dX3_serial_37 ?_
    refine zc_V (As := [.int (zi_n (18 + p0))]) (rest := []) ⟨hx, hb, hml, hown, hts⟩ (c_Row_at l D q2 a2 cB G k hG (by omega) (18 + p0) (by omega)) (cwV 1 hts gX3_serial_X2_at rfl rfl rfl (by decide +kernel) ⟨(Nat.le_of_ble_eq_true rfl), (Nat.le_of_ble_eq_true rfl)⟩) hP hK [2, 5] [1] rfl rfl (ci := 3) rfl rfl rfl rfl hl.1 rfl (Nat.le_of_ble_eq_true rfl) dX3_serial_38 ⟨Nat.zero_le _, Nat.zero_le _⟩ (fun r hr1 => ?_)
    obtain ⟨rfl, b_4⟩ := hr1
    exact W.iret (v := zi_n (zh_at G k (18 + p0))) hx hb hr (fun t ht hW => ⟨_, rfl, zl_r (by unfold zh_serE; (repeat' split) <;> omega) (by omega), ht⟩) (fun q hq => nomatch hq) dX3_serial_41
  · refine zr_bipush hx hb dX3_serial_7 (by decide) ?_
    exact W.iret (v := zi_n (-11)) hx hb hr (fun t ht hW => ⟨_, rfl, zl_r (by unfold zh_serE; (repeat' split) <;> omega) (by omega), ht⟩) (fun q hq => nomatch hq) dX3_serial_9

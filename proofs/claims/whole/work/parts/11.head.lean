theorem in_X0_version_X0 : ∀ w ∈ u_ws RX0 TX0 1, w ∈ wsX0_version := by decide +kernel
set_option maxHeartbeats 4000000 in
set_option maxRecDepth 100000 in
theorem c_Hd_version (l : Launch) (D : va_G) (hh q a : Nat) (cA : ClassId) (F : Nat → Int) (n : Int) (hF : zi_By F) (hn : 0 ≤ n ∧ n ≤ 600) (h1 : 1 ≤ n) : Met l yX0_version wsX0_version ({ frames := 1, cells := 0, slots := 0, locals := 21 }) (va_Pc [.ref hh] (zp_Q D vwCl [(hh, .inr (2, [.ref q])), (q, .inr (3, [.ref a, .int (zi_n n)])), (a, .inl (cA, 600, .inl (zi_F F)))] [(cA, .int)])) (vp_Si (fun r => r = zi_n (F 0) ∧ 0 ≤ (F 0) ∧ (F 0) ≤ 255)) 0 0 (fun _ => False) := by
  refine Met.ofW (cc := cX0_version) (maxL := 1) (ret := (some .int)) (by decide) rfl ?_
  intro p e s m args below meth c s₁ B hml hv
  obtain ⟨rfl, hP, hK⟩ := hv
  have hx := B.exec
  have hb := B.bytes
  have hr := B.returns
  have hts := atoms_spec (ws := wsX0_version) B.pre
  have hown : s.vm.findClass RX0 = some m.cls := findClass_of_methodNamed B.named
  have hlocks := B.notSynchronized
  have hl := lv_entry ([.ref hh]) (n := 1) (Nat.le_of_ble_eq_true rfl)
  rw [lg_entry_eq]
  generalize (lg_sl ([.ref hh]) ++ List.replicate (1 - (lg_sl ([.ref hh])).length) Slot.unset).toArray = ls at hl ⊢
  have hl : lv_has ls 1 [(0, .ref hh)] := hl
  refine lv_aload_n hx hb dX0_version_0 rfl (lv_at hl 0 rfl) ?_
  refine va_get (D := D) (ci := 2) (v := .ref q) (C := RX0) (T := TX0) (N := 1) hx hb hts in_X0_version_X0 hown hK hP 0 rfl rfl 0 (by decide) (hts (.fieldLink RX0 9 "ZHeads$Head" "row" "LZHeads$Row;") (by decide +kernel)) (fun _ h9 => h9) rfl dX0_version_1 ?_
  refine zr_iconst hx hb dX0_version_4 ?_
  refine zc_V (As := [.int (zi_n 0)]) (rest := []) ⟨hx, hb, hml, hown, hts⟩ (c_Row_at_k l D q a cA F n hF (by omega) 0 0 rfl (by omega)) (cwV 1 hts gX0_version_X2_at rfl rfl rfl (by decide +kernel) ⟨(Nat.le_of_ble_eq_true rfl), (Nat.le_of_ble_eq_true rfl)⟩) hP hK [1, 2] [0] rfl rfl (ci := 3) rfl rfl rfl rfl hl.1 rfl (Nat.le_of_ble_eq_true rfl) dX0_version_5 ⟨Nat.zero_le _, Nat.zero_le _⟩ (fun r hr1 => ?_)
  obtain ⟨rfl, b_1⟩ := hr1
  exact W.iret (v := zi_n (F 0)) hx hb hr (fun t ht hW => ⟨_, rfl, ⟨rfl, by omega⟩, ht⟩) (fun q hq => nomatch hq) dX0_version_8

set_option maxHeartbeats 4000000 in
set_option maxRecDepth 100000 in
theorem c_Hd_scale (l : Launch) (D : va_G) (hh q a : Nat) (cA : ClassId) (F : Nat → Int) (n : Int) (hF : zi_By F) (hn : 0 ≤ n ∧ n ≤ 600) (h1 : 1 ≤ n) : Met l yX0_scale wsX0_scale ({ frames := 2, cells := 0, slots := 0, locals := 41 }) (va_Pc [.ref hh] (zp_Q D vwCl [(hh, .inr (2, [.ref q])), (q, .inr (3, [.ref a, .int (zi_n n)])), (a, .inl (cA, 600, .inl (zi_F F)))] [(cA, .int)])) (vp_Si (fun r => r = zi_n (zh_scale (F 0)) ∧ 2 ≤ (zh_scale (F 0)) ∧ (zh_scale (F 0)) ≤ 8)) 0 0 (fun _ => False) := by
  refine Met.ofW (cc := cX0_scale) (maxL := 2) (ret := (some .int)) (by decide) rfl ?_
  intro p e s m args below meth c s₁ B hml hv
  obtain ⟨rfl, hP, hK⟩ := hv
  have hx := B.exec
  have hb := B.bytes
  have hr := B.returns
  have hts := atoms_spec (ws := wsX0_scale) B.pre
  have hown : s.vm.findClass RX0 = some m.cls := findClass_of_methodNamed B.named
  have hlocks := B.notSynchronized
  have hl := lv_entry ([.ref hh]) (n := 2) (Nat.le_of_ble_eq_true rfl)
  rw [lg_entry_eq]
  generalize (lg_sl ([.ref hh]) ++ List.replicate (2 - (lg_sl ([.ref hh])).length) Slot.unset).toArray = ls at hl ⊢
  have hl : lv_has ls 2 [(0, .ref hh)] := hl
  refine lv_aload_n hx hb dX0_scale_0 rfl (lv_at hl 0 rfl) ?_
  refine zc_V (As := []) (rest := []) ⟨hx, hb, hml, hown, hts⟩ (c_Hd_version l D hh q a cA F n hF (by omega) (by omega)) (cwV 0 hts gX0_scale_X0_version rfl rfl rfl (by decide +kernel) ⟨(Nat.le_of_ble_eq_true rfl), (Nat.le_of_ble_eq_true rfl)⟩) hP hK [0, 1, 2] [0] rfl rfl (ci := 2) rfl rfl rfl rfl hl.1 rfl (Nat.le_of_ble_eq_true rfl) dX0_scale_1 ⟨Nat.zero_le _, Nat.zero_le _⟩ (fun r hr1 => ?_)
  obtain ⟨rfl, b_1⟩ := hr1
  refine lv_istore_n (lv' := [(1, .int (zi_n (F 0))), (0, .ref hh)]) hx hb dX0_scale_4 rfl hl (by decide) rfl (fun ls hl => ?_)
  refine lv_iload_n hx hb dX0_scale_5 rfl (lv_at hl 0 rfl) ?_
  refine zr_iconst hx hb dX0_scale_6 ?_
  refine zr_icmp_gt (tgt := 12) hx hb dX0_scale_7 (by decide) (by omega) (by omega) (fun c_2 => ?_) (fun c_2 => ?_)
  · refine lv_iload_n hx hb dX0_scale_12 rfl (lv_at hl 0 rfl) ?_
    refine zr_iconst hx hb dX0_scale_13 ?_
    refine zr_icmp_gt (tgt := 21) hx hb dX0_scale_14 (by decide) (by omega) (by omega) (fun c_3 => ?_) (fun c_3 => ?_)
    · refine zr_bipush hx hb dX0_scale_21 (by decide) ?_
      exact W.iret (v := zi_n 8) hx hb hr (fun t ht hW => ⟨_, rfl, zl_r (by unfold zh_scale; (repeat' split) <;> omega) (by omega), ht⟩) (fun q hq => nomatch hq) dX0_scale_23
    · refine zr_iconst hx hb dX0_scale_17 ?_
      refine lv_goto (tgt := 23) hx hb dX0_scale_18 (by decide) ?_
      exact W.iret (v := zi_n 4) hx hb hr (fun t ht hW => ⟨_, rfl, zl_r (by unfold zh_scale; (repeat' split) <;> omega) (by omega), ht⟩) (fun q hq => nomatch hq) dX0_scale_23
  · refine zr_iconst hx hb dX0_scale_10 ?_
    exact W.iret (v := zi_n 2) hx hb hr (fun t ht hW => ⟨_, rfl, zl_r (by unfold zh_scale; (repeat' split) <;> omega) (by omega), ht⟩) (fun q hq => nomatch hq) dX0_scale_11

theorem in_X0_length_X0 : ∀ w ∈ u_ws RX0 TX0 1, w ∈ wsX0_length := by decide +kernel
set_option maxHeartbeats 4000000 in
set_option maxRecDepth 100000 in
theorem c_Hd_length (l : Launch) (D : va_G) (hh q a : Nat) (cA : ClassId) (F : Nat → Int) (n : Int) (hF : zi_By F) (hn : 0 ≤ n ∧ n ≤ 600) (h64 : 64 ≤ n) : Met l yX0_length wsX0_length ({ frames := 3, cells := 0, slots := 0, locals := 62 }) (va_Pc [.ref hh] (zp_Q D vwCl [(hh, .inr (2, [.ref q])), (q, .inr (3, [.ref a, .int (zi_n n)])), (a, .inl (cA, 600, .inl (zi_F F)))] [(cA, .int)])) (vp_Si (fun r => r = zi_n (zh_len F n) ∧ 0 ≤ (zh_len F n) ∧ (zh_len F n) ≤ 524280)) 0 0 (fun _ => False) := by
  refine Met.ofW (cc := cX0_length) (maxL := 2) (ret := (some .int)) (by decide) rfl ?_
  intro p e s m args below meth c s₁ B hml hv
  obtain ⟨rfl, hP, hK⟩ := hv
  have hx := B.exec
  have hb := B.bytes
  have hr := B.returns
  have hts := atoms_spec (ws := wsX0_length) B.pre
  have hown : s.vm.findClass RX0 = some m.cls := findClass_of_methodNamed B.named
  have hlocks := B.notSynchronized
  have hl := lv_entry ([.ref hh]) (n := 2) (Nat.le_of_ble_eq_true rfl)
  rw [lg_entry_eq]
  generalize (lg_sl ([.ref hh]) ++ List.replicate (2 - (lg_sl ([.ref hh])).length) Slot.unset).toArray = ls at hl ⊢
  have hl : lv_has ls 2 [(0, .ref hh)] := hl
  have hm := zh_ts_b hF
  refine lv_aload_n hx hb dX0_length_0 rfl (lv_at hl 0 rfl) ?_
  refine va_get (D := D) (ci := 2) (v := .ref q) (C := RX0) (T := TX0) (N := 1) hx hb hts in_X0_length_X0 hown hK hP 0 rfl rfl 0 (by decide) (hts (.fieldLink RX0 9 "ZHeads$Head" "row" "LZHeads$Row;") (by decide +kernel)) (fun _ h9 => h9) rfl dX0_length_1 ?_
  refine zr_bipush hx hb dX0_length_4 (by decide) ?_
  refine zc_V (As := [.int (zi_n 26)]) (rest := []) ⟨hx, hb, hml, hown, hts⟩ (c_Row_two_k l D q a cA F n hF (by omega) 26 26 rfl (by omega)) (cwV 1 hts gX0_length_X2_two rfl rfl rfl (by decide +kernel) ⟨(Nat.le_of_ble_eq_true rfl), (Nat.le_of_ble_eq_true rfl)⟩) hP hK [1, 2] [0] rfl rfl (ci := 3) rfl rfl rfl rfl hl.1 rfl (Nat.le_of_ble_eq_true rfl) dX0_length_6 ⟨Nat.zero_le _, Nat.zero_le _⟩ (fun r hr1 => ?_)
  obtain ⟨rfl, b_1⟩ := hr1
  refine lv_istore_n (lv' := [(1, .int (zi_n (zh_t F 26))), (0, .ref hh)]) hx hb dX0_length_9 rfl hl (by decide) rfl (fun ls hl => ?_)
  refine lv_iload_n hx hb dX0_length_10 rfl (lv_at hl 0 rfl) ?_
  refine zr_if_ne (tgt := 32) hx hb dX0_length_11 (by decide) (by omega) (fun c_2 => ?_) (fun c_2 => ?_)
  · refine lv_iload_n hx hb dX0_length_32 rfl (lv_at hl 0 rfl) ?_
    refine lv_aload_n hx hb dX0_length_33 rfl (lv_at hl 1 rfl) ?_
    refine zc_V (As := []) (rest := [.int (zi_n (zh_t F 26))]) ⟨hx, hb, hml, hown, hts⟩ (c_Hd_scale l D hh q a cA F n hF (by omega) (by omega)) (cwV 0 hts gX0_length_X0_scale rfl rfl rfl (by decide +kernel) ⟨(Nat.le_of_ble_eq_true rfl), (Nat.le_of_ble_eq_true rfl)⟩) hP hK [0, 1, 2] [0] rfl rfl (ci := 2) rfl rfl rfl rfl hl.1 rfl (Nat.le_of_ble_eq_true rfl) dX0_length_34 ⟨Nat.zero_le _, Nat.zero_le _⟩ (fun r hr1 => ?_)
    obtain ⟨rfl, b_3⟩ := hr1
    refine zr_imul hx hb dX0_length_37 ?_
    exact W.iret (v := zi_n ((zh_t F 26) * (zh_scale (F 0)))) hx hb hr (fun t ht hW => ⟨_, rfl, zl_r (by unfold zh_len; (repeat' split) <;> omega) (by omega), ht⟩) (fun q hq => nomatch hq) dX0_length_38
  · refine lv_aload_n hx hb dX0_length_14 rfl (lv_at hl 1 rfl) ?_
    refine zc_V (As := []) (rest := []) ⟨hx, hb, hml, hown, hts⟩ (c_Hd_version l D hh q a cA F n hF (by omega) (by omega)) (cwV 0 hts gX0_length_X0_version rfl rfl rfl (by decide +kernel) ⟨(Nat.le_of_ble_eq_true rfl), (Nat.le_of_ble_eq_true rfl)⟩) hP hK [0, 1, 2] [0] rfl rfl (ci := 2) rfl rfl rfl rfl hl.1 rfl (Nat.le_of_ble_eq_true rfl) dX0_length_15 ⟨Nat.zero_le _, Nat.zero_le _⟩ (fun r hr1 => ?_)
    obtain ⟨rfl, b_4⟩ := hr1
    refine zr_iconst hx hb dX0_length_18 ?_
    refine zr_icmp_gt (tgt := 32) hx hb dX0_length_19 (by decide) (by omega) (by omega) (fun c_5 => ?_) (fun c_5 => ?_)
    · refine lv_iload_n hx hb dX0_length_32 rfl (lv_at hl 0 rfl) ?_
      refine lv_aload_n hx hb dX0_length_33 rfl (lv_at hl 1 rfl) ?_
      refine zc_V (As := []) (rest := [.int (zi_n (zh_t F 26))]) ⟨hx, hb, hml, hown, hts⟩ (c_Hd_scale l D hh q a cA F n hF (by omega) (by omega)) (cwV 0 hts gX0_length_X0_scale rfl rfl rfl (by decide +kernel) ⟨(Nat.le_of_ble_eq_true rfl), (Nat.le_of_ble_eq_true rfl)⟩) hP hK [0, 1, 2] [0] rfl rfl (ci := 2) rfl rfl rfl rfl hl.1 rfl (Nat.le_of_ble_eq_true rfl) dX0_length_34 ⟨Nat.zero_le _, Nat.zero_le _⟩ (fun r hr1 => ?_)
      obtain ⟨rfl, b_6⟩ := hr1
      refine zr_imul hx hb dX0_length_37 ?_
      exact W.iret (v := zi_n ((zh_t F 26) * (zh_scale (F 0)))) hx hb hr (fun t ht hW => ⟨_, rfl, zl_r (by unfold zh_len; (repeat' split) <;> omega) (by omega), ht⟩) (fun q hq => nomatch hq) dX0_length_38
    · refine lv_aload_n hx hb dX0_length_22 rfl (lv_at hl 1 rfl) ?_
      refine va_get (D := D) (ci := 2) (v := .ref q) (C := RX0) (T := TX0) (N := 1) hx hb hts in_X0_length_X0 hown hK hP 0 rfl rfl 0 (by decide) (hts (.fieldLink RX0 9 "ZHeads$Head" "row" "LZHeads$Row;") (by decide +kernel)) (fun _ h9 => h9) rfl dX0_length_23 ?_
      refine zc_V (As := []) (rest := []) ⟨hx, hb, hml, hown, hts⟩ (c_Row_count l D q a cA F n hF (by omega)) (cwV 0 hts gX0_length_X2_count rfl rfl rfl (by decide +kernel) ⟨(Nat.le_of_ble_eq_true rfl), (Nat.le_of_ble_eq_true rfl)⟩) hP hK [1, 2] [0] rfl rfl (ci := 3) rfl rfl rfl rfl hl.1 rfl (Nat.le_of_ble_eq_true rfl) dX0_length_26 ⟨Nat.zero_le _, Nat.zero_le _⟩ (fun r hr1 => ?_)
      obtain ⟨rfl, b_7⟩ := hr1
      refine lv_goto (tgt := 38) hx hb dX0_length_29 (by decide) ?_
      exact W.iret (v := zi_n n) hx hb hr (fun t ht hW => ⟨_, rfl, zl_r (by unfold zh_len; (repeat' split) <;> omega) (by omega), ht⟩) (fun q hq => nomatch hq) dX0_length_38

theorem in_X0_staticFrom_X0 : ∀ w ∈ u_ws RX0 TX0 1, w ∈ wsX0_staticFrom := by decide +kernel
set_option maxHeartbeats 4000000 in
set_option maxRecDepth 100000 in
theorem c_Hd_staticFrom (l : Launch) (D : va_G) (hh q a : Nat) (cA : ClassId) (F : Nat → Int) (n : Int) (hF : zi_By F) (hn : 0 ≤ n ∧ n ≤ 600) (h64 : 64 ≤ n) : Met l yX0_staticFrom wsX0_staticFrom ({ frames := 1, cells := 0, slots := 0, locals := 21 }) (va_Pc [.ref hh] (zp_Q D vwCl [(hh, .inr (2, [.ref q])), (q, .inr (3, [.ref a, .int (zi_n n)])), (a, .inl (cA, 600, .inl (zi_F F)))] [(cA, .int)])) (vp_Si (fun r => r = zi_n (zh_t F 14) ∧ 0 ≤ (zh_t F 14) ∧ (zh_t F 14) ≤ 65535)) 0 0 (fun _ => False) := by
  refine Met.ofW (cc := cX0_staticFrom) (maxL := 1) (ret := (some .int)) (by decide) rfl ?_
  intro p e s m args below meth c s₁ B hml hv
  obtain ⟨rfl, hP, hK⟩ := hv
  have hx := B.exec
  have hb := B.bytes
  have hr := B.returns
  have hts := atoms_spec (ws := wsX0_staticFrom) B.pre
  have hown : s.vm.findClass RX0 = some m.cls := findClass_of_methodNamed B.named
  have hlocks := B.notSynchronized
  have hl := lv_entry ([.ref hh]) (n := 1) (Nat.le_of_ble_eq_true rfl)
  rw [lg_entry_eq]
  generalize (lg_sl ([.ref hh]) ++ List.replicate (1 - (lg_sl ([.ref hh])).length) Slot.unset).toArray = ls at hl ⊢
  have hl : lv_has ls 1 [(0, .ref hh)] := hl
  refine lv_aload_n hx hb dX0_staticFrom_0 rfl (lv_at hl 0 rfl) ?_
  refine va_get (D := D) (ci := 2) (v := .ref q) (C := RX0) (T := TX0) (N := 1) hx hb hts in_X0_staticFrom_X0 hown hK hP 0 rfl rfl 0 (by decide) (hts (.fieldLink RX0 9 "ZHeads$Head" "row" "LZHeads$Row;") (by decide +kernel)) (fun _ h9 => h9) rfl dX0_staticFrom_1 ?_
  refine zr_bipush hx hb dX0_staticFrom_4 (by decide) ?_
  refine zc_V (As := [.int (zi_n 14)]) (rest := []) ⟨hx, hb, hml, hown, hts⟩ (c_Row_two_k l D q a cA F n hF (by omega) 14 14 rfl (by omega)) (cwV 1 hts gX0_staticFrom_X2_two rfl rfl rfl (by decide +kernel) ⟨(Nat.le_of_ble_eq_true rfl), (Nat.le_of_ble_eq_true rfl)⟩) hP hK [1, 2] [0] rfl rfl (ci := 3) rfl rfl rfl rfl hl.1 rfl (Nat.le_of_ble_eq_true rfl) dX0_staticFrom_6 ⟨Nat.zero_le _, Nat.zero_le _⟩ (fun r hr1 => ?_)
  obtain ⟨rfl, b_1⟩ := hr1
  exact W.iret (v := zi_n (zh_t F 14)) hx hb hr (fun t ht hW => ⟨_, rfl, ⟨rfl, by omega⟩, ht⟩) (fun q hq => nomatch hq) dX0_staticFrom_9

theorem in_X0_high_X0 : ∀ w ∈ u_ws RX0 TX0 1, w ∈ wsX0_high := by decide +kernel
set_option maxHeartbeats 4000000 in
set_option maxRecDepth 100000 in
theorem c_Hd_high (l : Launch) (D : va_G) (hh q a : Nat) (cA : ClassId) (F : Nat → Int) (n : Int) (hF : zi_By F) (hn : 0 ≤ n ∧ n ≤ 600) (h64 : 64 ≤ n) : Met l yX0_high wsX0_high ({ frames := 1, cells := 0, slots := 0, locals := 21 }) (va_Pc [.ref hh] (zp_Q D vwCl [(hh, .inr (2, [.ref q])), (q, .inr (3, [.ref a, .int (zi_n n)])), (a, .inl (cA, 600, .inl (zi_F F)))] [(cA, .int)])) (vp_Si (fun r => r = zi_n (zh_t F 4) ∧ 0 ≤ (zh_t F 4) ∧ (zh_t F 4) ≤ 65535)) 0 0 (fun _ => False) := by
  refine Met.ofW (cc := cX0_high) (maxL := 1) (ret := (some .int)) (by decide) rfl ?_
  intro p e s m args below meth c s₁ B hml hv
  obtain ⟨rfl, hP, hK⟩ := hv
  have hx := B.exec
  have hb := B.bytes
  have hr := B.returns
  have hts := atoms_spec (ws := wsX0_high) B.pre
  have hown : s.vm.findClass RX0 = some m.cls := findClass_of_methodNamed B.named
  have hlocks := B.notSynchronized
  have hl := lv_entry ([.ref hh]) (n := 1) (Nat.le_of_ble_eq_true rfl)
  rw [lg_entry_eq]
  generalize (lg_sl ([.ref hh]) ++ List.replicate (1 - (lg_sl ([.ref hh])).length) Slot.unset).toArray = ls at hl ⊢
  have hl : lv_has ls 1 [(0, .ref hh)] := hl
  refine lv_aload_n hx hb dX0_high_0 rfl (lv_at hl 0 rfl) ?_
  refine va_get (D := D) (ci := 2) (v := .ref q) (C := RX0) (T := TX0) (N := 1) hx hb hts in_X0_high_X0 hown hK hP 0 rfl rfl 0 (by decide) (hts (.fieldLink RX0 9 "ZHeads$Head" "row" "LZHeads$Row;") (by decide +kernel)) (fun _ h9 => h9) rfl dX0_high_1 ?_
  refine zr_iconst hx hb dX0_high_4 ?_
  refine zc_V (As := [.int (zi_n 4)]) (rest := []) ⟨hx, hb, hml, hown, hts⟩ (c_Row_two_k l D q a cA F n hF (by omega) 4 4 rfl (by omega)) (cwV 1 hts gX0_high_X2_two rfl rfl rfl (by decide +kernel) ⟨(Nat.le_of_ble_eq_true rfl), (Nat.le_of_ble_eq_true rfl)⟩) hP hK [1, 2] [0] rfl rfl (ci := 3) rfl rfl rfl rfl hl.1 rfl (Nat.le_of_ble_eq_true rfl) dX0_high_5 ⟨Nat.zero_le _, Nat.zero_le _⟩ (fun r hr1 => ?_)
  obtain ⟨rfl, b_1⟩ := hr1
  exact W.iret (v := zi_n (zh_t F 4)) hx hb hr (fun t ht hW => ⟨_, rfl, ⟨rfl, by omega⟩, ht⟩) (fun q hq => nomatch hq) dX0_high_8

theorem in_X0_globals_X0 : ∀ w ∈ u_ws RX0 TX0 1, w ∈ wsX0_globals := by decide +kernel
set_option maxHeartbeats 4000000 in
set_option maxRecDepth 100000 in
theorem c_Hd_globals (l : Launch) (D : va_G) (hh q a : Nat) (cA : ClassId) (F : Nat → Int) (n : Int) (hF : zi_By F) (hn : 0 ≤ n ∧ n ≤ 600) (h64 : 64 ≤ n) : Met l yX0_globals wsX0_globals ({ frames := 1, cells := 0, slots := 0, locals := 21 }) (va_Pc [.ref hh] (zp_Q D vwCl [(hh, .inr (2, [.ref q])), (q, .inr (3, [.ref a, .int (zi_n n)])), (a, .inl (cA, 600, .inl (zi_F F)))] [(cA, .int)])) (vp_Si (fun r => r = zi_n (zh_t F 12) ∧ 0 ≤ (zh_t F 12) ∧ (zh_t F 12) ≤ 65535)) 0 0 (fun _ => False) := by
  refine Met.ofW (cc := cX0_globals) (maxL := 1) (ret := (some .int)) (by decide) rfl ?_
  intro p e s m args below meth c s₁ B hml hv
  obtain ⟨rfl, hP, hK⟩ := hv
  have hx := B.exec
  have hb := B.bytes
  have hr := B.returns
  have hts := atoms_spec (ws := wsX0_globals) B.pre
  have hown : s.vm.findClass RX0 = some m.cls := findClass_of_methodNamed B.named
  have hlocks := B.notSynchronized
  have hl := lv_entry ([.ref hh]) (n := 1) (Nat.le_of_ble_eq_true rfl)
  rw [lg_entry_eq]
  generalize (lg_sl ([.ref hh]) ++ List.replicate (1 - (lg_sl ([.ref hh])).length) Slot.unset).toArray = ls at hl ⊢
  have hl : lv_has ls 1 [(0, .ref hh)] := hl
  refine lv_aload_n hx hb dX0_globals_0 rfl (lv_at hl 0 rfl) ?_
  refine va_get (D := D) (ci := 2) (v := .ref q) (C := RX0) (T := TX0) (N := 1) hx hb hts in_X0_globals_X0 hown hK hP 0 rfl rfl 0 (by decide) (hts (.fieldLink RX0 9 "ZHeads$Head" "row" "LZHeads$Row;") (by decide +kernel)) (fun _ h9 => h9) rfl dX0_globals_1 ?_
  refine zr_bipush hx hb dX0_globals_4 (by decide) ?_
  refine zc_V (As := [.int (zi_n 12)]) (rest := []) ⟨hx, hb, hml, hown, hts⟩ (c_Row_two_k l D q a cA F n hF (by omega) 12 12 rfl (by omega)) (cwV 1 hts gX0_globals_X2_two rfl rfl rfl (by decide +kernel) ⟨(Nat.le_of_ble_eq_true rfl), (Nat.le_of_ble_eq_true rfl)⟩) hP hK [1, 2] [0] rfl rfl (ci := 3) rfl rfl rfl rfl hl.1 rfl (Nat.le_of_ble_eq_true rfl) dX0_globals_6 ⟨Nat.zero_le _, Nat.zero_le _⟩ (fun r hr1 => ?_)
  obtain ⟨rfl, b_1⟩ := hr1
  exact W.iret (v := zi_n (zh_t F 12)) hx hb hr (fun t ht hW => ⟨_, rfl, ⟨rfl, by omega⟩, ht⟩) (fun q hq => nomatch hq) dX0_globals_9

theorem in_X0_objects_X0 : ∀ w ∈ u_ws RX0 TX0 1, w ∈ wsX0_objects := by decide +kernel
set_option maxHeartbeats 4000000 in
set_option maxRecDepth 100000 in
theorem c_Hd_objects (l : Launch) (D : va_G) (hh q a : Nat) (cA : ClassId) (F : Nat → Int) (n : Int) (hF : zi_By F) (hn : 0 ≤ n ∧ n ≤ 600) (h64 : 64 ≤ n) : Met l yX0_objects wsX0_objects ({ frames := 1, cells := 0, slots := 0, locals := 21 }) (va_Pc [.ref hh] (zp_Q D vwCl [(hh, .inr (2, [.ref q])), (q, .inr (3, [.ref a, .int (zi_n n)])), (a, .inl (cA, 600, .inl (zi_F F)))] [(cA, .int)])) (vp_Si (fun r => r = zi_n (zh_t F 10) ∧ 0 ≤ (zh_t F 10) ∧ (zh_t F 10) ≤ 65535)) 0 0 (fun _ => False) := by
  refine Met.ofW (cc := cX0_objects) (maxL := 1) (ret := (some .int)) (by decide) rfl ?_
  intro p e s m args below meth c s₁ B hml hv
  obtain ⟨rfl, hP, hK⟩ := hv
  have hx := B.exec
  have hb := B.bytes
  have hr := B.returns
  have hts := atoms_spec (ws := wsX0_objects) B.pre
  have hown : s.vm.findClass RX0 = some m.cls := findClass_of_methodNamed B.named
  have hlocks := B.notSynchronized
  have hl := lv_entry ([.ref hh]) (n := 1) (Nat.le_of_ble_eq_true rfl)
  rw [lg_entry_eq]
  generalize (lg_sl ([.ref hh]) ++ List.replicate (1 - (lg_sl ([.ref hh])).length) Slot.unset).toArray = ls at hl ⊢
  have hl : lv_has ls 1 [(0, .ref hh)] := hl
  refine lv_aload_n hx hb dX0_objects_0 rfl (lv_at hl 0 rfl) ?_
  refine va_get (D := D) (ci := 2) (v := .ref q) (C := RX0) (T := TX0) (N := 1) hx hb hts in_X0_objects_X0 hown hK hP 0 rfl rfl 0 (by decide) (hts (.fieldLink RX0 9 "ZHeads$Head" "row" "LZHeads$Row;") (by decide +kernel)) (fun _ h9 => h9) rfl dX0_objects_1 ?_
  refine zr_bipush hx hb dX0_objects_4 (by decide) ?_
  refine zc_V (As := [.int (zi_n 10)]) (rest := []) ⟨hx, hb, hml, hown, hts⟩ (c_Row_two_k l D q a cA F n hF (by omega) 10 10 rfl (by omega)) (cwV 1 hts gX0_objects_X2_two rfl rfl rfl (by decide +kernel) ⟨(Nat.le_of_ble_eq_true rfl), (Nat.le_of_ble_eq_true rfl)⟩) hP hK [1, 2] [0] rfl rfl (ci := 3) rfl rfl rfl rfl hl.1 rfl (Nat.le_of_ble_eq_true rfl) dX0_objects_6 ⟨Nat.zero_le _, Nat.zero_le _⟩ (fun r hr1 => ?_)
  obtain ⟨rfl, b_1⟩ := hr1
  exact W.iret (v := zi_n (zh_t F 10)) hx hb hr (fun t ht hW => ⟨_, rfl, ⟨rfl, by omega⟩, ht⟩) (fun q hq => nomatch hq) dX0_objects_9

theorem in_X0_words_X0 : ∀ w ∈ u_ws RX0 TX0 1, w ∈ wsX0_words := by decide +kernel
set_option maxHeartbeats 4000000 in
set_option maxRecDepth 100000 in
theorem c_Hd_words (l : Launch) (D : va_G) (hh q a : Nat) (cA : ClassId) (F : Nat → Int) (n : Int) (hF : zi_By F) (hn : 0 ≤ n ∧ n ≤ 600) (h64 : 64 ≤ n) : Met l yX0_words wsX0_words ({ frames := 1, cells := 0, slots := 0, locals := 21 }) (va_Pc [.ref hh] (zp_Q D vwCl [(hh, .inr (2, [.ref q])), (q, .inr (3, [.ref a, .int (zi_n n)])), (a, .inl (cA, 600, .inl (zi_F F)))] [(cA, .int)])) (vp_Si (fun r => r = zi_n (zh_t F 8) ∧ 0 ≤ (zh_t F 8) ∧ (zh_t F 8) ≤ 65535)) 0 0 (fun _ => False) := by
  refine Met.ofW (cc := cX0_words) (maxL := 1) (ret := (some .int)) (by decide) rfl ?_
  intro p e s m args below meth c s₁ B hml hv
  obtain ⟨rfl, hP, hK⟩ := hv
  have hx := B.exec
  have hb := B.bytes
  have hr := B.returns
  have hts := atoms_spec (ws := wsX0_words) B.pre
  have hown : s.vm.findClass RX0 = some m.cls := findClass_of_methodNamed B.named
  have hlocks := B.notSynchronized
  have hl := lv_entry ([.ref hh]) (n := 1) (Nat.le_of_ble_eq_true rfl)
  rw [lg_entry_eq]
  generalize (lg_sl ([.ref hh]) ++ List.replicate (1 - (lg_sl ([.ref hh])).length) Slot.unset).toArray = ls at hl ⊢
  have hl : lv_has ls 1 [(0, .ref hh)] := hl
  refine lv_aload_n hx hb dX0_words_0 rfl (lv_at hl 0 rfl) ?_
  refine va_get (D := D) (ci := 2) (v := .ref q) (C := RX0) (T := TX0) (N := 1) hx hb hts in_X0_words_X0 hown hK hP 0 rfl rfl 0 (by decide) (hts (.fieldLink RX0 9 "ZHeads$Head" "row" "LZHeads$Row;") (by decide +kernel)) (fun _ h9 => h9) rfl dX0_words_1 ?_
  refine zr_bipush hx hb dX0_words_4 (by decide) ?_
  refine zc_V (As := [.int (zi_n 8)]) (rest := []) ⟨hx, hb, hml, hown, hts⟩ (c_Row_two_k l D q a cA F n hF (by omega) 8 8 rfl (by omega)) (cwV 1 hts gX0_words_X2_two rfl rfl rfl (by decide +kernel) ⟨(Nat.le_of_ble_eq_true rfl), (Nat.le_of_ble_eq_true rfl)⟩) hP hK [1, 2] [0] rfl rfl (ci := 3) rfl rfl rfl rfl hl.1 rfl (Nat.le_of_ble_eq_true rfl) dX0_words_6 ⟨Nat.zero_le _, Nat.zero_le _⟩ (fun r hr1 => ?_)
  obtain ⟨rfl, b_1⟩ := hr1
  exact W.iret (v := zi_n (zh_t F 8)) hx hb hr (fun t ht hW => ⟨_, rfl, ⟨rfl, by omega⟩, ht⟩) (fun q hq => nomatch hq) dX0_words_9

theorem in_X0_signs_X0 : ∀ w ∈ u_ws RX0 TX0 1, w ∈ wsX0_signs := by decide +kernel
set_option maxHeartbeats 4000000 in
set_option maxRecDepth 100000 in
theorem c_Hd_signs (l : Launch) (D : va_G) (hh q a : Nat) (cA : ClassId) (F : Nat → Int) (n : Int) (hF : zi_By F) (hn : 0 ≤ n ∧ n ≤ 600) (h64 : 64 ≤ n) : Met l yX0_signs wsX0_signs ({ frames := 2, cells := 0, slots := 0, locals := 41 }) (va_Pc [.ref hh] (zp_Q D vwCl [(hh, .inr (2, [.ref q])), (q, .inr (3, [.ref a, .int (zi_n n)])), (a, .inl (cA, 600, .inl (zi_F F)))] [(cA, .int)])) (vp_Si (fun r => r = zi_n (zh_sg F n) ∧ -1 ≤ (zh_sg F n) ∧ (zh_sg F n) ≤ 255)) 0 0 (fun _ => False) := by
  refine Met.ofW (cc := cX0_signs) (maxL := 1) (ret := (some .int)) (by decide) rfl ?_
  intro p e s m args below meth c s₁ B hml hv
  obtain ⟨rfl, hP, hK⟩ := hv
  have hx := B.exec
  have hb := B.bytes
  have hr := B.returns
  have hts := atoms_spec (ws := wsX0_signs) B.pre
  have hown : s.vm.findClass RX0 = some m.cls := findClass_of_methodNamed B.named
  have hlocks := B.notSynchronized
  have hl := lv_entry ([.ref hh]) (n := 1) (Nat.le_of_ble_eq_true rfl)
  rw [lg_entry_eq]
  generalize (lg_sl ([.ref hh]) ++ List.replicate (1 - (lg_sl ([.ref hh])).length) Slot.unset).toArray = ls at hl ⊢
  have hl : lv_has ls 1 [(0, .ref hh)] := hl
  refine lv_aload_n hx hb dX0_signs_0 rfl (lv_at hl 0 rfl) ?_
  refine va_get (D := D) (ci := 2) (v := .ref q) (C := RX0) (T := TX0) (N := 1) hx hb hts in_X0_signs_X0 hown hK hP 0 rfl rfl 0 (by decide) (hts (.fieldLink RX0 9 "ZHeads$Head" "row" "LZHeads$Row;") (by decide +kernel)) (fun _ h9 => h9) rfl dX0_signs_1 ?_
  refine lv_aload_n hx hb dX0_signs_4 rfl (lv_at hl 0 rfl) ?_
  refine zc_V (As := []) (rest := [.ref q]) ⟨hx, hb, hml, hown, hts⟩ (c_Hd_words l D hh q a cA F n hF (by omega) (by omega)) (cwV 0 hts gX0_signs_X0_words rfl rfl rfl (by decide +kernel) ⟨(Nat.le_of_ble_eq_true rfl), (Nat.le_of_ble_eq_true rfl)⟩) hP hK [0, 1, 2] [0] rfl rfl (ci := 2) rfl rfl rfl rfl hl.1 rfl (Nat.le_of_ble_eq_true rfl) dX0_signs_5 ⟨Nat.zero_le _, Nat.zero_le _⟩ (fun r hr1 => ?_)
  obtain ⟨rfl, b_1⟩ := hr1
  refine zc_V (As := [.int (zi_n (zh_t F 8))]) (rest := []) ⟨hx, hb, hml, hown, hts⟩ (c_Row_at l D q a cA F n hF (by omega) (zh_t F 8) (by omega)) (cwV 1 hts gX0_signs_X2_at rfl rfl rfl (by decide +kernel) ⟨(Nat.le_of_ble_eq_true rfl), (Nat.le_of_ble_eq_true rfl)⟩) hP hK [1, 2] [0] rfl rfl (ci := 3) rfl rfl rfl rfl hl.1 rfl (Nat.le_of_ble_eq_true rfl) dX0_signs_8 ⟨Nat.zero_le _, Nat.zero_le _⟩ (fun r hr1 => ?_)
  obtain ⟨rfl, b_2⟩ := hr1
  exact W.iret (v := zi_n (zh_at F n (zh_t F 8))) hx hb hr (fun t ht hW => ⟨_, rfl, zl_r (by rfl) (by omega), ht⟩) (fun q hq => nomatch hq) dX0_signs_11

theorem in_X0_entryBytes_X0 : ∀ w ∈ u_ws RX0 TX0 1, w ∈ wsX0_entryBytes := by decide +kernel
set_option maxHeartbeats 4000000 in
set_option maxRecDepth 100000 in
theorem c_Hd_entryBytes (l : Launch) (D : va_G) (hh q a : Nat) (cA : ClassId) (F : Nat → Int) (n : Int) (hF : zi_By F) (hn : 0 ≤ n ∧ n ≤ 600) (h64 : 64 ≤ n) : Met l yX0_entryBytes wsX0_entryBytes ({ frames := 3, cells := 0, slots := 0, locals := 61 }) (va_Pc [.ref hh] (zp_Q D vwCl [(hh, .inr (2, [.ref q])), (q, .inr (3, [.ref a, .int (zi_n n)])), (a, .inl (cA, 600, .inl (zi_F F)))] [(cA, .int)])) (vp_Si (fun r => r = zi_n (zh_eb F n) ∧ -1 ≤ (zh_eb F n) ∧ (zh_eb F n) ≤ 255)) 0 0 (fun _ => False) := by
  refine Met.ofW (cc := cX0_entryBytes) (maxL := 1) (ret := (some .int)) (by decide) rfl ?_
  intro p e s m args below meth c s₁ B hml hv
  obtain ⟨rfl, hP, hK⟩ := hv
  have hx := B.exec
  have hb := B.bytes
  have hr := B.returns
  have hts := atoms_spec (ws := wsX0_entryBytes) B.pre
  have hown : s.vm.findClass RX0 = some m.cls := findClass_of_methodNamed B.named
  have hlocks := B.notSynchronized
  have hl := lv_entry ([.ref hh]) (n := 1) (Nat.le_of_ble_eq_true rfl)
  rw [lg_entry_eq]
  generalize (lg_sl ([.ref hh]) ++ List.replicate (1 - (lg_sl ([.ref hh])).length) Slot.unset).toArray = ls at hl ⊢
  have hl : lv_has ls 1 [(0, .ref hh)] := hl
  refine lv_aload_n hx hb dX0_entryBytes_0 rfl (lv_at hl 0 rfl) ?_
  refine va_get (D := D) (ci := 2) (v := .ref q) (C := RX0) (T := TX0) (N := 1) hx hb hts in_X0_entryBytes_X0 hown hK hP 0 rfl rfl 0 (by decide) (hts (.fieldLink RX0 9 "ZHeads$Head" "row" "LZHeads$Row;") (by decide +kernel)) (fun _ h9 => h9) rfl dX0_entryBytes_1 ?_
  refine lv_aload_n hx hb dX0_entryBytes_4 rfl (lv_at hl 0 rfl) ?_
  refine zc_V (As := []) (rest := [.ref q]) ⟨hx, hb, hml, hown, hts⟩ (c_Hd_words l D hh q a cA F n hF (by omega) (by omega)) (cwV 0 hts gX0_entryBytes_X0_words rfl rfl rfl (by decide +kernel) ⟨(Nat.le_of_ble_eq_true rfl), (Nat.le_of_ble_eq_true rfl)⟩) hP hK [0, 1, 2] [0] rfl rfl (ci := 2) rfl rfl rfl rfl hl.1 rfl (Nat.le_of_ble_eq_true rfl) dX0_entryBytes_5 ⟨Nat.zero_le _, Nat.zero_le _⟩ (fun r hr1 => ?_)
  obtain ⟨rfl, b_1⟩ := hr1
  refine zr_iconst hx hb dX0_entryBytes_8 ?_
  refine zr_iadd hx hb dX0_entryBytes_9 ?_
  refine lv_aload_n hx hb dX0_entryBytes_10 rfl (lv_at hl 0 rfl) ?_
  refine zc_V (As := []) (rest := [.int (zi_n ((zh_t F 8) + 1)), .ref q]) ⟨hx, hb, hml, hown, hts⟩ (c_Hd_signs l D hh q a cA F n hF (by omega) (by omega)) (cwV 0 hts gX0_entryBytes_X0_signs rfl rfl rfl (by decide +kernel) ⟨(Nat.le_of_ble_eq_true rfl), (Nat.le_of_ble_eq_true rfl)⟩) hP hK [0, 1, 2] [0] rfl rfl (ci := 2) rfl rfl rfl rfl hl.1 rfl (Nat.le_of_ble_eq_true rfl) dX0_entryBytes_11 ⟨Nat.zero_le _, Nat.zero_le _⟩ (fun r hr1 => ?_)
  obtain ⟨rfl, b_2⟩ := hr1
  refine zr_iadd hx hb dX0_entryBytes_14 ?_
  refine zc_V (As := [.int (zi_n (((zh_t F 8) + 1) + (zh_sg F n)))]) (rest := []) ⟨hx, hb, hml, hown, hts⟩ (c_Row_at l D q a cA F n hF (by omega) (((zh_t F 8) + 1) + (zh_sg F n)) (by omega)) (cwV 1 hts gX0_entryBytes_X2_at rfl rfl rfl (by decide +kernel) ⟨(Nat.le_of_ble_eq_true rfl), (Nat.le_of_ble_eq_true rfl)⟩) hP hK [1, 2] [0] rfl rfl (ci := 3) rfl rfl rfl rfl hl.1 rfl (Nat.le_of_ble_eq_true rfl) dX0_entryBytes_15 ⟨Nat.zero_le _, Nat.zero_le _⟩ (fun r hr1 => ?_)
  obtain ⟨rfl, b_3⟩ := hr1
  exact W.iret (v := zi_n (zh_at F n (((zh_t F 8) + 1) + (zh_sg F n)))) hx hb hr (fun t ht hW => ⟨_, rfl, zl_r (by rfl) (by omega), ht⟩) (fun q hq => nomatch hq) dX0_entryBytes_18

theorem in_X0_entries_X0 : ∀ w ∈ u_ws RX0 TX0 1, w ∈ wsX0_entries := by decide +kernel
set_option maxHeartbeats 4000000 in
set_option maxRecDepth 100000 in
theorem c_Hd_entries (l : Launch) (D : va_G) (hh q a : Nat) (cA : ClassId) (F : Nat → Int) (n : Int) (hF : zi_By F) (hn : 0 ≤ n ∧ n ≤ 600) (h64 : 64 ≤ n) : Met l yX0_entries wsX0_entries ({ frames := 3, cells := 0, slots := 0, locals := 61 }) (va_Pc [.ref hh] (zp_Q D vwCl [(hh, .inr (2, [.ref q])), (q, .inr (3, [.ref a, .int (zi_n n)])), (a, .inl (cA, 600, .inl (zi_F F)))] [(cA, .int)])) (vp_Si (fun r => r = zi_n (zh_en F n) ∧ -32768 ≤ (zh_en F n) ∧ (zh_en F n) ≤ 32767)) 0 0 (fun _ => False) := by
  refine Met.ofW (cc := cX0_entries) (maxL := 1) (ret := (some .int)) (by decide) rfl ?_
  intro p e s m args below meth c s₁ B hml hv
  obtain ⟨rfl, hP, hK⟩ := hv
  have hx := B.exec
  have hb := B.bytes
  have hr := B.returns
  have hts := atoms_spec (ws := wsX0_entries) B.pre
  have hown : s.vm.findClass RX0 = some m.cls := findClass_of_methodNamed B.named
  have hlocks := B.notSynchronized
  have hl := lv_entry ([.ref hh]) (n := 1) (Nat.le_of_ble_eq_true rfl)
  rw [lg_entry_eq]
  generalize (lg_sl ([.ref hh]) ++ List.replicate (1 - (lg_sl ([.ref hh])).length) Slot.unset).toArray = ls at hl ⊢
  have hl : lv_has ls 1 [(0, .ref hh)] := hl
  refine lv_aload_n hx hb dX0_entries_0 rfl (lv_at hl 0 rfl) ?_
  refine va_get (D := D) (ci := 2) (v := .ref q) (C := RX0) (T := TX0) (N := 1) hx hb hts in_X0_entries_X0 hown hK hP 0 rfl rfl 0 (by decide) (hts (.fieldLink RX0 9 "ZHeads$Head" "row" "LZHeads$Row;") (by decide +kernel)) (fun _ h9 => h9) rfl dX0_entries_1 ?_
  refine lv_aload_n hx hb dX0_entries_4 rfl (lv_at hl 0 rfl) ?_
  refine zc_V (As := []) (rest := [.ref q]) ⟨hx, hb, hml, hown, hts⟩ (c_Hd_words l D hh q a cA F n hF (by omega) (by omega)) (cwV 0 hts gX0_entries_X0_words rfl rfl rfl (by decide +kernel) ⟨(Nat.le_of_ble_eq_true rfl), (Nat.le_of_ble_eq_true rfl)⟩) hP hK [0, 1, 2] [0] rfl rfl (ci := 2) rfl rfl rfl rfl hl.1 rfl (Nat.le_of_ble_eq_true rfl) dX0_entries_5 ⟨Nat.zero_le _, Nat.zero_le _⟩ (fun r hr1 => ?_)
  obtain ⟨rfl, b_1⟩ := hr1
  refine zr_iconst hx hb dX0_entries_8 ?_
  refine zr_iadd hx hb dX0_entries_9 ?_
  refine lv_aload_n hx hb dX0_entries_10 rfl (lv_at hl 0 rfl) ?_
  refine zc_V (As := []) (rest := [.int (zi_n ((zh_t F 8) + 2)), .ref q]) ⟨hx, hb, hml, hown, hts⟩ (c_Hd_signs l D hh q a cA F n hF (by omega) (by omega)) (cwV 0 hts gX0_entries_X0_signs rfl rfl rfl (by decide +kernel) ⟨(Nat.le_of_ble_eq_true rfl), (Nat.le_of_ble_eq_true rfl)⟩) hP hK [0, 1, 2] [0] rfl rfl (ci := 2) rfl rfl rfl rfl hl.1 rfl (Nat.le_of_ble_eq_true rfl) dX0_entries_11 ⟨Nat.zero_le _, Nat.zero_le _⟩ (fun r hr1 => ?_)
  obtain ⟨rfl, b_2⟩ := hr1
  refine zr_iadd hx hb dX0_entries_14 ?_
  refine zc_V (As := [.int (zi_n (((zh_t F 8) + 2) + (zh_sg F n)))]) (rest := []) ⟨hx, hb, hml, hown, hts⟩ (c_Row_two l D q a cA F n hF (by omega) (((zh_t F 8) + 2) + (zh_sg F n)) (by omega)) (cwV 1 hts gX0_entries_X2_two rfl rfl rfl (by decide +kernel) ⟨(Nat.le_of_ble_eq_true rfl), (Nat.le_of_ble_eq_true rfl)⟩) hP hK [1, 2] [0] rfl rfl (ci := 3) rfl rfl rfl rfl hl.1 rfl (Nat.le_of_ble_eq_true rfl) dX0_entries_15 ⟨Nat.zero_le _, Nat.zero_le _⟩ (fun r hr1 => ?_)
  obtain ⟨rfl, b_3⟩ := hr1
  refine zr_i2s hx hb dX0_entries_18 (by omega) ?_
  exact W.iret (v := zi_n (zi_sh (zh_two F n (((zh_t F 8) + 2) + (zh_sg F n))))) hx hb hr (fun t ht hW => ⟨_, rfl, zl_r (by rfl) (zi_sh_b _), ht⟩) (fun q hq => nomatch hq) dX0_entries_19

theorem in_X0_shorts_X0 : ∀ w ∈ u_ws RX0 TX0 1, w ∈ wsX0_shorts := by decide +kernel
set_option maxHeartbeats 4000000 in
set_option maxRecDepth 100000 in
theorem c_Hd_shorts (l : Launch) (D : va_G) (hh q a : Nat) (cA : ClassId) (F : Nat → Int) (n : Int) (hF : zi_By F) (hn : 0 ≤ n ∧ n ≤ 600) (h64 : 64 ≤ n) : Met l yX0_shorts wsX0_shorts ({ frames := 2, cells := 0, slots := 0, locals := 41 }) (va_Pc [.ref hh] (zp_Q D vwCl [(hh, .inr (2, [.ref q])), (q, .inr (3, [.ref a, .int (zi_n n)])), (a, .inl (cA, 600, .inl (zi_F F)))] [(cA, .int)])) (vp_Si (fun r => r = zi_n (zh_shorts F) ∧ 0 ≤ (zh_shorts F) ∧ (zh_shorts F) ≤ 65535)) 0 0 (fun _ => False) := by
  refine Met.ofW (cc := cX0_shorts) (maxL := 1) (ret := (some .int)) (by decide) rfl ?_
  intro p e s m args below meth c s₁ B hml hv
  obtain ⟨rfl, hP, hK⟩ := hv
  have hx := B.exec
  have hb := B.bytes
  have hr := B.returns
  have hts := atoms_spec (ws := wsX0_shorts) B.pre
  have hown : s.vm.findClass RX0 = some m.cls := findClass_of_methodNamed B.named
  have hlocks := B.notSynchronized
  have hl := lv_entry ([.ref hh]) (n := 1) (Nat.le_of_ble_eq_true rfl)
  rw [lg_entry_eq]
  generalize (lg_sl ([.ref hh]) ++ List.replicate (1 - (lg_sl ([.ref hh])).length) Slot.unset).toArray = ls at hl ⊢
  have hl : lv_has ls 1 [(0, .ref hh)] := hl
  refine lv_aload_n hx hb dX0_shorts_0 rfl (lv_at hl 0 rfl) ?_
  refine zc_V (As := []) (rest := []) ⟨hx, hb, hml, hown, hts⟩ (c_Hd_version l D hh q a cA F n hF (by omega) (by omega)) (cwV 0 hts gX0_shorts_X0_version rfl rfl rfl (by decide +kernel) ⟨(Nat.le_of_ble_eq_true rfl), (Nat.le_of_ble_eq_true rfl)⟩) hP hK [0, 1, 2] [0] rfl rfl (ci := 2) rfl rfl rfl rfl hl.1 rfl (Nat.le_of_ble_eq_true rfl) dX0_shorts_1 ⟨Nat.zero_le _, Nat.zero_le _⟩ (fun r hr1 => ?_)
  obtain ⟨rfl, b_1⟩ := hr1
  refine zr_iconst hx hb dX0_shorts_4 ?_
  refine zr_icmp_ne (tgt := 12) hx hb dX0_shorts_5 (by decide) (by omega) (by omega) (fun c_2 => ?_) (fun c_2 => ?_)
  · refine lv_aload_n hx hb dX0_shorts_12 rfl (lv_at hl 0 rfl) ?_
    refine va_get (D := D) (ci := 2) (v := .ref q) (C := RX0) (T := TX0) (N := 1) hx hb hts in_X0_shorts_X0 hown hK hP 0 rfl rfl 0 (by decide) (hts (.fieldLink RX0 9 "ZHeads$Head" "row" "LZHeads$Row;") (by decide +kernel)) (fun _ h9 => h9) rfl dX0_shorts_13 ?_
    refine zr_bipush hx hb dX0_shorts_16 (by decide) ?_
    refine zc_V (As := [.int (zi_n 24)]) (rest := []) ⟨hx, hb, hml, hown, hts⟩ (c_Row_two_k l D q a cA F n hF (by omega) 24 24 rfl (by omega)) (cwV 1 hts gX0_shorts_X2_two rfl rfl rfl (by decide +kernel) ⟨(Nat.le_of_ble_eq_true rfl), (Nat.le_of_ble_eq_true rfl)⟩) hP hK [1, 2] [0] rfl rfl (ci := 3) rfl rfl rfl rfl hl.1 rfl (Nat.le_of_ble_eq_true rfl) dX0_shorts_18 ⟨Nat.zero_le _, Nat.zero_le _⟩ (fun r hr1 => ?_)
    obtain ⟨rfl, b_3⟩ := hr1
    exact W.iret (v := zi_n (zh_t F 24)) hx hb hr (fun t ht hW => ⟨_, rfl, zl_r (by unfold zh_shorts; (repeat' split) <;> omega) (by omega), ht⟩) (fun q hq => nomatch hq) dX0_shorts_21
  · refine zr_iconst hx hb dX0_shorts_8 ?_
    refine lv_goto (tgt := 21) hx hb dX0_shorts_9 (by decide) ?_
    exact W.iret (v := zi_n 0) hx hb hr (fun t ht hW => ⟨_, rfl, zl_r (by unfold zh_shorts; (repeat' split) <;> omega) (by omega), ht⟩) (fun q hq => nomatch hq) dX0_shorts_21

theorem in_X0_start_X0 : ∀ w ∈ u_ws RX0 TX0 1, w ∈ wsX0_start := by decide +kernel
set_option maxHeartbeats 4000000 in
set_option maxRecDepth 100000 in
theorem c_Hd_start (l : Launch) (D : va_G) (hh q a : Nat) (cA : ClassId) (F : Nat → Int) (n : Int) (hF : zi_By F) (hn : 0 ≤ n ∧ n ≤ 600) (h64 : 64 ≤ n) : Met l yX0_start wsX0_start ({ frames := 2, cells := 0, slots := 0, locals := 41 }) (va_Pc [.ref hh] (zp_Q D vwCl [(hh, .inr (2, [.ref q])), (q, .inr (3, [.ref a, .int (zi_n n)])), (a, .inl (cA, 600, .inl (zi_F F)))] [(cA, .int)])) (vp_Si (fun r => r = zi_n (zh_start F) ∧ 0 ≤ (zh_start F) ∧ (zh_start F) ≤ 786420)) 0 0 (fun _ => False) := by
  refine Met.ofW (cc := cX0_start) (maxL := 1) (ret := (some .int)) (by decide) rfl ?_
  intro p e s m args below meth c s₁ B hml hv
  obtain ⟨rfl, hP, hK⟩ := hv
  have hx := B.exec
  have hb := B.bytes
  have hr := B.returns
  have hts := atoms_spec (ws := wsX0_start) B.pre
  have hown : s.vm.findClass RX0 = some m.cls := findClass_of_methodNamed B.named
  have hlocks := B.notSynchronized
  have hl := lv_entry ([.ref hh]) (n := 1) (Nat.le_of_ble_eq_true rfl)
  rw [lg_entry_eq]
  generalize (lg_sl ([.ref hh]) ++ List.replicate (1 - (lg_sl ([.ref hh])).length) Slot.unset).toArray = ls at hl ⊢
  have hl : lv_has ls 1 [(0, .ref hh)] := hl
  refine lv_aload_n hx hb dX0_start_0 rfl (lv_at hl 0 rfl) ?_
  refine zc_V (As := []) (rest := []) ⟨hx, hb, hml, hown, hts⟩ (c_Hd_version l D hh q a cA F n hF (by omega) (by omega)) (cwV 0 hts gX0_start_X0_version rfl rfl rfl (by decide +kernel) ⟨(Nat.le_of_ble_eq_true rfl), (Nat.le_of_ble_eq_true rfl)⟩) hP hK [0, 1, 2] [0] rfl rfl (ci := 2) rfl rfl rfl rfl hl.1 rfl (Nat.le_of_ble_eq_true rfl) dX0_start_1 ⟨Nat.zero_le _, Nat.zero_le _⟩ (fun r hr1 => ?_)
  obtain ⟨rfl, b_1⟩ := hr1
  refine zr_bipush hx hb dX0_start_4 (by decide) ?_
  refine zr_icmp_ne (tgt := 36) hx hb dX0_start_6 (by decide) (by omega) (by omega) (fun c_2 => ?_) (fun c_2 => ?_)
  · refine lv_aload_n hx hb dX0_start_36 rfl (lv_at hl 0 rfl) ?_
    refine va_get (D := D) (ci := 2) (v := .ref q) (C := RX0) (T := TX0) (N := 1) hx hb hts in_X0_start_X0 hown hK hP 0 rfl rfl 0 (by decide) (hts (.fieldLink RX0 9 "ZHeads$Head" "row" "LZHeads$Row;") (by decide +kernel)) (fun _ h9 => h9) rfl dX0_start_37 ?_
    refine zr_bipush hx hb dX0_start_40 (by decide) ?_
    refine zc_V (As := [.int (zi_n 6)]) (rest := []) ⟨hx, hb, hml, hown, hts⟩ (c_Row_two_k l D q a cA F n hF (by omega) 6 6 rfl (by omega)) (cwV 1 hts gX0_start_X2_two rfl rfl rfl (by decide +kernel) ⟨(Nat.le_of_ble_eq_true rfl), (Nat.le_of_ble_eq_true rfl)⟩) hP hK [1, 2] [0] rfl rfl (ci := 3) rfl rfl rfl rfl hl.1 rfl (Nat.le_of_ble_eq_true rfl) dX0_start_42 ⟨Nat.zero_le _, Nat.zero_le _⟩ (fun r hr1 => ?_)
    obtain ⟨rfl, b_3⟩ := hr1
    exact W.iret (v := zi_n (zh_t F 6)) hx hb hr (fun t ht hW => ⟨_, rfl, zl_r (by unfold zh_start; (repeat' split) <;> omega) (by omega), ht⟩) (fun q hq => nomatch hq) dX0_start_45
  · refine zr_iconst hx hb dX0_start_9 ?_
    refine lv_aload_n hx hb dX0_start_10 rfl (lv_at hl 0 rfl) ?_
    refine va_get (D := D) (ci := 2) (v := .ref q) (C := RX0) (T := TX0) (N := 1) hx hb hts in_X0_start_X0 hown hK hP 0 rfl rfl 0 (by decide) (hts (.fieldLink RX0 9 "ZHeads$Head" "row" "LZHeads$Row;") (by decide +kernel)) (fun _ h9 => h9) rfl dX0_start_11 ?_
    refine zr_bipush hx hb dX0_start_14 (by decide) ?_
    refine zc_V (As := [.int (zi_n 6)]) (rest := [.int (zi_n 4)]) ⟨hx, hb, hml, hown, hts⟩ (c_Row_two_k l D q a cA F n hF (by omega) 6 6 rfl (by omega)) (cwV 1 hts gX0_start_X2_two rfl rfl rfl (by decide +kernel) ⟨(Nat.le_of_ble_eq_true rfl), (Nat.le_of_ble_eq_true rfl)⟩) hP hK [1, 2] [0] rfl rfl (ci := 3) rfl rfl rfl rfl hl.1 rfl (Nat.le_of_ble_eq_true rfl) dX0_start_16 ⟨Nat.zero_le _, Nat.zero_le _⟩ (fun r hr1 => ?_)
    obtain ⟨rfl, b_4⟩ := hr1
    refine zr_imul hx hb dX0_start_19 ?_
    refine zr_bipush hx hb dX0_start_20 (by decide) ?_
    refine lv_aload_n hx hb dX0_start_22 rfl (lv_at hl 0 rfl) ?_
    refine va_get (D := D) (ci := 2) (v := .ref q) (C := RX0) (T := TX0) (N := 1) hx hb hts in_X0_start_X0 hown hK hP 0 rfl rfl 0 (by decide) (hts (.fieldLink RX0 9 "ZHeads$Head" "row" "LZHeads$Row;") (by decide +kernel)) (fun _ h9 => h9) rfl dX0_start_23 ?_
    refine zr_bipush hx hb dX0_start_26 (by decide) ?_
    refine zc_V (As := [.int (zi_n 40)]) (rest := [.int (zi_n 8), .int (zi_n (4 * (zh_t F 6)))]) ⟨hx, hb, hml, hown, hts⟩ (c_Row_two_k l D q a cA F n hF (by omega) 40 40 rfl (by omega)) (cwV 1 hts gX0_start_X2_two rfl rfl rfl (by decide +kernel) ⟨(Nat.le_of_ble_eq_true rfl), (Nat.le_of_ble_eq_true rfl)⟩) hP hK [1, 2] [0] rfl rfl (ci := 3) rfl rfl rfl rfl hl.1 rfl (Nat.le_of_ble_eq_true rfl) dX0_start_28 ⟨Nat.zero_le _, Nat.zero_le _⟩ (fun r hr1 => ?_)
    obtain ⟨rfl, b_5⟩ := hr1
    refine zr_imul hx hb dX0_start_31 ?_
    refine zr_iadd hx hb dX0_start_32 ?_
    refine lv_goto (tgt := 45) hx hb dX0_start_33 (by decide) ?_
    exact W.iret (v := zi_n ((4 * (zh_t F 6)) + (8 * (zh_t F 40)))) hx hb hr (fun t ht hW => ⟨_, rfl, zl_r (by unfold zh_start; (repeat' split) <;> omega) (by omega), ht⟩) (fun q hq => nomatch hq) dX0_start_45

theorem in_X0_letters_X0 : ∀ w ∈ u_ws RX0 TX0 1, w ∈ wsX0_letters := by decide +kernel
set_option maxHeartbeats 4000000 in
set_option maxRecDepth 100000 in
theorem c_Hd_letters (l : Launch) (D : va_G) (hh q a : Nat) (cA : ClassId) (F : Nat → Int) (n : Int) (hF : zi_By F) (hn : 0 ≤ n ∧ n ≤ 600) (h64 : 64 ≤ n) : Met l yX0_letters wsX0_letters ({ frames := 2, cells := 0, slots := 0, locals := 41 }) (va_Pc [.ref hh] (zp_Q D vwCl [(hh, .inr (2, [.ref q])), (q, .inr (3, [.ref a, .int (zi_n n)])), (a, .inl (cA, 600, .inl (zi_F F)))] [(cA, .int)])) (vp_Si (fun r => r = zi_n (zh_letters F) ∧ 0 ≤ (zh_letters F) ∧ (zh_letters F) ≤ 65535)) 0 0 (fun _ => False) := by
  refine Met.ofW (cc := cX0_letters) (maxL := 1) (ret := (some .int)) (by decide) rfl ?_
  intro p e s m args below meth c s₁ B hml hv
  obtain ⟨rfl, hP, hK⟩ := hv
  have hx := B.exec
  have hb := B.bytes
  have hr := B.returns
  have hts := atoms_spec (ws := wsX0_letters) B.pre
  have hown : s.vm.findClass RX0 = some m.cls := findClass_of_methodNamed B.named
  have hlocks := B.notSynchronized
  have hl := lv_entry ([.ref hh]) (n := 1) (Nat.le_of_ble_eq_true rfl)
  rw [lg_entry_eq]
  generalize (lg_sl ([.ref hh]) ++ List.replicate (1 - (lg_sl ([.ref hh])).length) Slot.unset).toArray = ls at hl ⊢
  have hl : lv_has ls 1 [(0, .ref hh)] := hl
  refine lv_aload_n hx hb dX0_letters_0 rfl (lv_at hl 0 rfl) ?_
  refine zc_V (As := []) (rest := []) ⟨hx, hb, hml, hown, hts⟩ (c_Hd_version l D hh q a cA F n hF (by omega) (by omega)) (cwV 0 hts gX0_letters_X0_version rfl rfl rfl (by decide +kernel) ⟨(Nat.le_of_ble_eq_true rfl), (Nat.le_of_ble_eq_true rfl)⟩) hP hK [0, 1, 2] [0] rfl rfl (ci := 2) rfl rfl rfl rfl hl.1 rfl (Nat.le_of_ble_eq_true rfl) dX0_letters_1 ⟨Nat.zero_le _, Nat.zero_le _⟩ (fun r hr1 => ?_)
  obtain ⟨rfl, b_1⟩ := hr1
  refine zr_iconst hx hb dX0_letters_4 ?_
  refine zr_icmp_ge (tgt := 12) hx hb dX0_letters_5 (by decide) (by omega) (by omega) (fun c_2 => ?_) (fun c_2 => ?_)
  · refine lv_aload_n hx hb dX0_letters_12 rfl (lv_at hl 0 rfl) ?_
    refine va_get (D := D) (ci := 2) (v := .ref q) (C := RX0) (T := TX0) (N := 1) hx hb hts in_X0_letters_X0 hown hK hP 0 rfl rfl 0 (by decide) (hts (.fieldLink RX0 9 "ZHeads$Head" "row" "LZHeads$Row;") (by decide +kernel)) (fun _ h9 => h9) rfl dX0_letters_13 ?_
    refine zr_bipush hx hb dX0_letters_16 (by decide) ?_
    refine zc_V (As := [.int (zi_n 52)]) (rest := []) ⟨hx, hb, hml, hown, hts⟩ (c_Row_two_k l D q a cA F n hF (by omega) 52 52 rfl (by omega)) (cwV 1 hts gX0_letters_X2_two rfl rfl rfl (by decide +kernel) ⟨(Nat.le_of_ble_eq_true rfl), (Nat.le_of_ble_eq_true rfl)⟩) hP hK [1, 2] [0] rfl rfl (ci := 3) rfl rfl rfl rfl hl.1 rfl (Nat.le_of_ble_eq_true rfl) dX0_letters_18 ⟨Nat.zero_le _, Nat.zero_le _⟩ (fun r hr1 => ?_)
    obtain ⟨rfl, b_3⟩ := hr1
    exact W.iret (v := zi_n (zh_t F 52)) hx hb hr (fun t ht hW => ⟨_, rfl, zl_r (by unfold zh_letters; (repeat' split) <;> omega) (by omega), ht⟩) (fun q hq => nomatch hq) dX0_letters_21
  · refine zr_iconst hx hb dX0_letters_8 ?_
    refine lv_goto (tgt := 21) hx hb dX0_letters_9 (by decide) ?_
    exact W.iret (v := zi_n 0) hx hb hr (fun t ht hW => ⟨_, rfl, zl_r (by unfold zh_letters; (repeat' split) <;> omega) (by omega), ht⟩) (fun q hq => nomatch hq) dX0_letters_21

theorem in_X0_ends_X0 : ∀ w ∈ u_ws RX0 TX0 1, w ∈ wsX0_ends := by decide +kernel
set_option maxHeartbeats 4000000 in
set_option maxRecDepth 100000 in
theorem c_Hd_ends (l : Launch) (D : va_G) (hh q a : Nat) (cA : ClassId) (F : Nat → Int) (n : Int) (hF : zi_By F) (hn : 0 ≤ n ∧ n ≤ 600) (h64 : 64 ≤ n) : Met l yX0_ends wsX0_ends ({ frames := 2, cells := 0, slots := 0, locals := 41 }) (va_Pc [.ref hh] (zp_Q D vwCl [(hh, .inr (2, [.ref q])), (q, .inr (3, [.ref a, .int (zi_n n)])), (a, .inl (cA, 600, .inl (zi_F F)))] [(cA, .int)])) (vp_Si (fun r => r = zi_n (zh_ends F) ∧ 0 ≤ (zh_ends F) ∧ (zh_ends F) ≤ 65535)) 0 0 (fun _ => False) := by
  refine Met.ofW (cc := cX0_ends) (maxL := 1) (ret := (some .int)) (by decide) rfl ?_
  intro p e s m args below meth c s₁ B hml hv
  obtain ⟨rfl, hP, hK⟩ := hv
  have hx := B.exec
  have hb := B.bytes
  have hr := B.returns
  have hts := atoms_spec (ws := wsX0_ends) B.pre
  have hown : s.vm.findClass RX0 = some m.cls := findClass_of_methodNamed B.named
  have hlocks := B.notSynchronized
  have hl := lv_entry ([.ref hh]) (n := 1) (Nat.le_of_ble_eq_true rfl)
  rw [lg_entry_eq]
  generalize (lg_sl ([.ref hh]) ++ List.replicate (1 - (lg_sl ([.ref hh])).length) Slot.unset).toArray = ls at hl ⊢
  have hl : lv_has ls 1 [(0, .ref hh)] := hl
  refine lv_aload_n hx hb dX0_ends_0 rfl (lv_at hl 0 rfl) ?_
  refine zc_V (As := []) (rest := []) ⟨hx, hb, hml, hown, hts⟩ (c_Hd_version l D hh q a cA F n hF (by omega) (by omega)) (cwV 0 hts gX0_ends_X0_version rfl rfl rfl (by decide +kernel) ⟨(Nat.le_of_ble_eq_true rfl), (Nat.le_of_ble_eq_true rfl)⟩) hP hK [0, 1, 2] [0] rfl rfl (ci := 2) rfl rfl rfl rfl hl.1 rfl (Nat.le_of_ble_eq_true rfl) dX0_ends_1 ⟨Nat.zero_le _, Nat.zero_le _⟩ (fun r hr1 => ?_)
  obtain ⟨rfl, b_1⟩ := hr1
  refine zr_iconst hx hb dX0_ends_4 ?_
  refine zr_icmp_ge (tgt := 12) hx hb dX0_ends_5 (by decide) (by omega) (by omega) (fun c_2 => ?_) (fun c_2 => ?_)
  · refine lv_aload_n hx hb dX0_ends_12 rfl (lv_at hl 0 rfl) ?_
    refine va_get (D := D) (ci := 2) (v := .ref q) (C := RX0) (T := TX0) (N := 1) hx hb hts in_X0_ends_X0 hown hK hP 0 rfl rfl 0 (by decide) (hts (.fieldLink RX0 9 "ZHeads$Head" "row" "LZHeads$Row;") (by decide +kernel)) (fun _ h9 => h9) rfl dX0_ends_13 ?_
    refine zr_bipush hx hb dX0_ends_16 (by decide) ?_
    refine zc_V (As := [.int (zi_n 46)]) (rest := []) ⟨hx, hb, hml, hown, hts⟩ (c_Row_two_k l D q a cA F n hF (by omega) 46 46 rfl (by omega)) (cwV 1 hts gX0_ends_X2_two rfl rfl rfl (by decide +kernel) ⟨(Nat.le_of_ble_eq_true rfl), (Nat.le_of_ble_eq_true rfl)⟩) hP hK [1, 2] [0] rfl rfl (ci := 3) rfl rfl rfl rfl hl.1 rfl (Nat.le_of_ble_eq_true rfl) dX0_ends_18 ⟨Nat.zero_le _, Nat.zero_le _⟩ (fun r hr1 => ?_)
    obtain ⟨rfl, b_3⟩ := hr1
    exact W.iret (v := zi_n (zh_t F 46)) hx hb hr (fun t ht hW => ⟨_, rfl, zl_r (by unfold zh_ends; (repeat' split) <;> omega) (by omega), ht⟩) (fun q hq => nomatch hq) dX0_ends_21
  · refine zr_iconst hx hb dX0_ends_8 ?_
    refine lv_goto (tgt := 21) hx hb dX0_ends_9 (by decide) ?_
    exact W.iret (v := zi_n 0) hx hb hr (fun t ht hW => ⟨_, rfl, zl_r (by unfold zh_ends; (repeat' split) <;> omega) (by omega), ht⟩) (fun q hq => nomatch hq) dX0_ends_21

theorem in_X0_more_X0 : ∀ w ∈ u_ws RX0 TX0 1, w ∈ wsX0_more := by decide +kernel
set_option maxHeartbeats 4000000 in
set_option maxRecDepth 100000 in
theorem c_Hd_more (l : Launch) (D : va_G) (hh q a : Nat) (cA : ClassId) (F : Nat → Int) (n : Int) (hF : zi_By F) (hn : 0 ≤ n ∧ n ≤ 600) (h64 : 64 ≤ n) : Met l yX0_more wsX0_more ({ frames := 2, cells := 0, slots := 0, locals := 41 }) (va_Pc [.ref hh] (zp_Q D vwCl [(hh, .inr (2, [.ref q])), (q, .inr (3, [.ref a, .int (zi_n n)])), (a, .inl (cA, 600, .inl (zi_F F)))] [(cA, .int)])) (vp_Si (fun r => r = zi_n (zh_more F) ∧ 0 ≤ (zh_more F) ∧ (zh_more F) ≤ 65535)) 0 0 (fun _ => False) := by
  refine Met.ofW (cc := cX0_more) (maxL := 1) (ret := (some .int)) (by decide) rfl ?_
  intro p e s m args below meth c s₁ B hml hv
  obtain ⟨rfl, hP, hK⟩ := hv
  have hx := B.exec
  have hb := B.bytes
  have hr := B.returns
  have hts := atoms_spec (ws := wsX0_more) B.pre
  have hown : s.vm.findClass RX0 = some m.cls := findClass_of_methodNamed B.named
  have hlocks := B.notSynchronized
  have hl := lv_entry ([.ref hh]) (n := 1) (Nat.le_of_ble_eq_true rfl)
  rw [lg_entry_eq]
  generalize (lg_sl ([.ref hh]) ++ List.replicate (1 - (lg_sl ([.ref hh])).length) Slot.unset).toArray = ls at hl ⊢
  have hl : lv_has ls 1 [(0, .ref hh)] := hl
  refine lv_aload_n hx hb dX0_more_0 rfl (lv_at hl 0 rfl) ?_
  refine zc_V (As := []) (rest := []) ⟨hx, hb, hml, hown, hts⟩ (c_Hd_version l D hh q a cA F n hF (by omega) (by omega)) (cwV 0 hts gX0_more_X0_version rfl rfl rfl (by decide +kernel) ⟨(Nat.le_of_ble_eq_true rfl), (Nat.le_of_ble_eq_true rfl)⟩) hP hK [0, 1, 2] [0] rfl rfl (ci := 2) rfl rfl rfl rfl hl.1 rfl (Nat.le_of_ble_eq_true rfl) dX0_more_1 ⟨Nat.zero_le _, Nat.zero_le _⟩ (fun r hr1 => ?_)
  obtain ⟨rfl, b_1⟩ := hr1
  refine zr_iconst hx hb dX0_more_4 ?_
  refine zr_icmp_ge (tgt := 12) hx hb dX0_more_5 (by decide) (by omega) (by omega) (fun c_2 => ?_) (fun c_2 => ?_)
  · refine lv_aload_n hx hb dX0_more_12 rfl (lv_at hl 0 rfl) ?_
    refine va_get (D := D) (ci := 2) (v := .ref q) (C := RX0) (T := TX0) (N := 1) hx hb hts in_X0_more_X0 hown hK hP 0 rfl rfl 0 (by decide) (hts (.fieldLink RX0 9 "ZHeads$Head" "row" "LZHeads$Row;") (by decide +kernel)) (fun _ h9 => h9) rfl dX0_more_13 ?_
    refine zr_bipush hx hb dX0_more_16 (by decide) ?_
    refine zc_V (As := [.int (zi_n 54)]) (rest := []) ⟨hx, hb, hml, hown, hts⟩ (c_Row_two_k l D q a cA F n hF (by omega) 54 54 rfl (by omega)) (cwV 1 hts gX0_more_X2_two rfl rfl rfl (by decide +kernel) ⟨(Nat.le_of_ble_eq_true rfl), (Nat.le_of_ble_eq_true rfl)⟩) hP hK [1, 2] [0] rfl rfl (ci := 3) rfl rfl rfl rfl hl.1 rfl (Nat.le_of_ble_eq_true rfl) dX0_more_18 ⟨Nat.zero_le _, Nat.zero_le _⟩ (fun r hr1 => ?_)
    obtain ⟨rfl, b_3⟩ := hr1
    exact W.iret (v := zi_n (zh_t F 54)) hx hb hr (fun t ht hW => ⟨_, rfl, zl_r (by unfold zh_more; (repeat' split) <;> omega) (by omega), ht⟩) (fun q hq => nomatch hq) dX0_more_21
  · refine zr_iconst hx hb dX0_more_8 ?_
    refine lv_goto (tgt := 21) hx hb dX0_more_9 (by decide) ?_
    exact W.iret (v := zi_n 0) hx hb hr (fun t ht hW => ⟨_, rfl, zl_r (by unfold zh_more; (repeat' split) <;> omega) (by omega), ht⟩) (fun q hq => nomatch hq) dX0_more_21

theorem in_X0_moreWords_X0 : ∀ w ∈ u_ws RX0 TX0 1, w ∈ wsX0_moreWords := by decide +kernel
set_option maxHeartbeats 4000000 in
set_option maxRecDepth 100000 in
theorem c_Hd_moreWords (l : Launch) (D : va_G) (hh q a : Nat) (cA : ClassId) (F : Nat → Int) (n : Int) (hF : zi_By F) (hn : 0 ≤ n ∧ n ≤ 600) (h64 : 64 ≤ n) : Met l yX0_moreWords wsX0_moreWords ({ frames := 3, cells := 0, slots := 0, locals := 61 }) (va_Pc [.ref hh] (zp_Q D vwCl [(hh, .inr (2, [.ref q])), (q, .inr (3, [.ref a, .int (zi_n n)])), (a, .inl (cA, 600, .inl (zi_F F)))] [(cA, .int)])) (vp_Si (fun r => r = zi_n (zh_mw F n) ∧ -1 ≤ (zh_mw F n) ∧ (zh_mw F n) ≤ 65535)) 0 0 (fun _ => False) := by
  refine Met.ofW (cc := cX0_moreWords) (maxL := 2) (ret := (some .int)) (by decide) rfl ?_
  intro p e s m args below meth c s₁ B hml hv
  obtain ⟨rfl, hP, hK⟩ := hv
  have hx := B.exec
  have hb := B.bytes
  have hr := B.returns
  have hts := atoms_spec (ws := wsX0_moreWords) B.pre
  have hown : s.vm.findClass RX0 = some m.cls := findClass_of_methodNamed B.named
  have hlocks := B.notSynchronized
  have hl := lv_entry ([.ref hh]) (n := 2) (Nat.le_of_ble_eq_true rfl)
  rw [lg_entry_eq]
  generalize (lg_sl ([.ref hh]) ++ List.replicate (2 - (lg_sl ([.ref hh])).length) Slot.unset).toArray = ls at hl ⊢
  have hl : lv_has ls 2 [(0, .ref hh)] := hl
  refine lv_aload_n hx hb dX0_moreWords_0 rfl (lv_at hl 0 rfl) ?_
  refine zc_V (As := []) (rest := []) ⟨hx, hb, hml, hown, hts⟩ (c_Hd_more l D hh q a cA F n hF (by omega) (by omega)) (cwV 0 hts gX0_moreWords_X0_more rfl rfl rfl (by decide +kernel) ⟨(Nat.le_of_ble_eq_true rfl), (Nat.le_of_ble_eq_true rfl)⟩) hP hK [0, 1, 2] [0] rfl rfl (ci := 2) rfl rfl rfl rfl hl.1 rfl (Nat.le_of_ble_eq_true rfl) dX0_moreWords_1 ⟨Nat.zero_le _, Nat.zero_le _⟩ (fun r hr1 => ?_)
  obtain ⟨rfl, b_1⟩ := hr1
  refine lv_istore_n (lv' := [(1, .int (zi_n (zh_more F))), (0, .ref hh)]) hx hb dX0_moreWords_4 rfl hl (by decide) rfl (fun ls hl => ?_)
  refine lv_iload_n hx hb dX0_moreWords_5 rfl (lv_at hl 0 rfl) ?_
  refine zr_if_ne (tgt := 13) hx hb dX0_moreWords_6 (by decide) (by omega) (fun c_2 => ?_) (fun c_2 => ?_)
  · refine lv_aload_n hx hb dX0_moreWords_13 rfl (lv_at hl 1 rfl) ?_
    refine va_get (D := D) (ci := 2) (v := .ref q) (C := RX0) (T := TX0) (N := 1) hx hb hts in_X0_moreWords_X0 hown hK hP 0 rfl rfl 0 (by decide) (hts (.fieldLink RX0 9 "ZHeads$Head" "row" "LZHeads$Row;") (by decide +kernel)) (fun _ h9 => h9) rfl dX0_moreWords_14 ?_
    refine lv_iload_n hx hb dX0_moreWords_17 rfl (lv_at hl 0 rfl) ?_
    refine zc_V (As := [.int (zi_n (zh_more F))]) (rest := []) ⟨hx, hb, hml, hown, hts⟩ (c_Row_two l D q a cA F n hF (by omega) (zh_more F) (by omega)) (cwV 1 hts gX0_moreWords_X2_two rfl rfl rfl (by decide +kernel) ⟨(Nat.le_of_ble_eq_true rfl), (Nat.le_of_ble_eq_true rfl)⟩) hP hK [1, 2] [0] rfl rfl (ci := 3) rfl rfl rfl rfl hl.1 rfl (Nat.le_of_ble_eq_true rfl) dX0_moreWords_18 ⟨Nat.zero_le _, Nat.zero_le _⟩ (fun r hr1 => ?_)
    obtain ⟨rfl, b_3⟩ := hr1
    exact W.iret (v := zi_n (zh_two F n (zh_more F))) hx hb hr (fun t ht hW => ⟨_, rfl, zl_r (by unfold zh_mw; (repeat' split) <;> omega) (by omega), ht⟩) (fun q hq => nomatch hq) dX0_moreWords_21
  · refine zr_iconst hx hb dX0_moreWords_9 ?_
    refine lv_goto (tgt := 21) hx hb dX0_moreWords_10 (by decide) ?_
    exact W.iret (v := zi_n 0) hx hb hr (fun t ht hW => ⟨_, rfl, zl_r (by unfold zh_mw; (repeat' split) <;> omega) (by omega), ht⟩) (fun q hq => nomatch hq) dX0_moreWords_21

theorem in_X0_thirdWord_X0 : ∀ w ∈ u_ws RX0 TX0 1, w ∈ wsX0_thirdWord := by decide +kernel
set_option maxHeartbeats 4000000 in
set_option maxRecDepth 100000 in
theorem c_Hd_thirdWord (l : Launch) (D : va_G) (hh q a : Nat) (cA : ClassId) (F : Nat → Int) (n : Int) (hF : zi_By F) (hn : 0 ≤ n ∧ n ≤ 600) (h64 : 64 ≤ n) : Met l yX0_thirdWord wsX0_thirdWord ({ frames := 3, cells := 0, slots := 0, locals := 61 }) (va_Pc [.ref hh] (zp_Q D vwCl [(hh, .inr (2, [.ref q])), (q, .inr (3, [.ref a, .int (zi_n n)])), (a, .inl (cA, 600, .inl (zi_F F)))] [(cA, .int)])) (vp_Si (fun r => r = zi_n (zh_third F n) ∧ -1 ≤ (zh_third F n) ∧ (zh_third F n) ≤ 65535)) 0 0 (fun _ => False) := by
  refine Met.ofW (cc := cX0_thirdWord) (maxL := 2) (ret := (some .int)) (by decide) rfl ?_
  intro p e s m args below meth c s₁ B hml hv
  obtain ⟨rfl, hP, hK⟩ := hv
  have hx := B.exec
  have hb := B.bytes
  have hr := B.returns
  have hts := atoms_spec (ws := wsX0_thirdWord) B.pre
  have hown : s.vm.findClass RX0 = some m.cls := findClass_of_methodNamed B.named
  have hlocks := B.notSynchronized
  have hl := lv_entry ([.ref hh]) (n := 2) (Nat.le_of_ble_eq_true rfl)
  rw [lg_entry_eq]
  generalize (lg_sl ([.ref hh]) ++ List.replicate (2 - (lg_sl ([.ref hh])).length) Slot.unset).toArray = ls at hl ⊢
  have hl : lv_has ls 2 [(0, .ref hh)] := hl
  refine lv_aload_n hx hb dX0_thirdWord_0 rfl (lv_at hl 0 rfl) ?_
  refine zc_V (As := []) (rest := []) ⟨hx, hb, hml, hown, hts⟩ (c_Hd_more l D hh q a cA F n hF (by omega) (by omega)) (cwV 0 hts gX0_thirdWord_X0_more rfl rfl rfl (by decide +kernel) ⟨(Nat.le_of_ble_eq_true rfl), (Nat.le_of_ble_eq_true rfl)⟩) hP hK [0, 1, 2] [0] rfl rfl (ci := 2) rfl rfl rfl rfl hl.1 rfl (Nat.le_of_ble_eq_true rfl) dX0_thirdWord_1 ⟨Nat.zero_le _, Nat.zero_le _⟩ (fun r hr1 => ?_)
  obtain ⟨rfl, b_1⟩ := hr1
  refine lv_istore_n (lv' := [(1, .int (zi_n (zh_more F))), (0, .ref hh)]) hx hb dX0_thirdWord_4 rfl hl (by decide) rfl (fun ls hl => ?_)
  refine lv_iload_n hx hb dX0_thirdWord_5 rfl (lv_at hl 0 rfl) ?_
  refine zr_if_eq (tgt := 21) hx hb dX0_thirdWord_6 (by decide) (by omega) (fun c_2 => ?_) (fun c_2 => ?_)
  · refine zr_iconst hx hb dX0_thirdWord_21 ?_
    refine lv_goto (tgt := 36) hx hb dX0_thirdWord_22 (by decide) ?_
    exact W.iret (v := zi_n 0) hx hb hr (fun t ht hW => ⟨_, rfl, zl_r (by unfold zh_third; (repeat' split) <;> omega) (by omega), ht⟩) (fun q hq => nomatch hq) dX0_thirdWord_36
  · refine lv_aload_n hx hb dX0_thirdWord_9 rfl (lv_at hl 1 rfl) ?_
    refine va_get (D := D) (ci := 2) (v := .ref q) (C := RX0) (T := TX0) (N := 1) hx hb hts in_X0_thirdWord_X0 hown hK hP 0 rfl rfl 0 (by decide) (hts (.fieldLink RX0 9 "ZHeads$Head" "row" "LZHeads$Row;") (by decide +kernel)) (fun _ h9 => h9) rfl dX0_thirdWord_10 ?_
    refine lv_iload_n hx hb dX0_thirdWord_13 rfl (lv_at hl 0 rfl) ?_
    refine zc_V (As := [.int (zi_n (zh_more F))]) (rest := []) ⟨hx, hb, hml, hown, hts⟩ (c_Row_two l D q a cA F n hF (by omega) (zh_more F) (by omega)) (cwV 1 hts gX0_thirdWord_X2_two rfl rfl rfl (by decide +kernel) ⟨(Nat.le_of_ble_eq_true rfl), (Nat.le_of_ble_eq_true rfl)⟩) hP hK [1, 2] [0] rfl rfl (ci := 3) rfl rfl rfl rfl hl.1 rfl (Nat.le_of_ble_eq_true rfl) dX0_thirdWord_14 ⟨Nat.zero_le _, Nat.zero_le _⟩ (fun r hr1 => ?_)
    obtain ⟨rfl, b_3⟩ := hr1
    refine zr_iconst hx hb dX0_thirdWord_17 ?_
    refine zr_icmp_ge (tgt := 25) hx hb dX0_thirdWord_18 (by decide) (by omega) (by omega) (fun c_4 => ?_) (fun c_4 => ?_)
    · refine lv_aload_n hx hb dX0_thirdWord_25 rfl (lv_at hl 1 rfl) ?_
      refine va_get (D := D) (ci := 2) (v := .ref q) (C := RX0) (T := TX0) (N := 1) hx hb hts in_X0_thirdWord_X0 hown hK hP 0 rfl rfl 0 (by decide) (hts (.fieldLink RX0 9 "ZHeads$Head" "row" "LZHeads$Row;") (by decide +kernel)) (fun _ h9 => h9) rfl dX0_thirdWord_26 ?_
      refine lv_iload_n hx hb dX0_thirdWord_29 rfl (lv_at hl 0 rfl) ?_
      refine zr_bipush hx hb dX0_thirdWord_30 (by decide) ?_
      refine zr_iadd hx hb dX0_thirdWord_32 ?_
      refine zc_V (As := [.int (zi_n ((zh_more F) + 6))]) (rest := []) ⟨hx, hb, hml, hown, hts⟩ (c_Row_two l D q a cA F n hF (by omega) ((zh_more F) + 6) (by omega)) (cwV 1 hts gX0_thirdWord_X2_two rfl rfl rfl (by decide +kernel) ⟨(Nat.le_of_ble_eq_true rfl), (Nat.le_of_ble_eq_true rfl)⟩) hP hK [1, 2] [0] rfl rfl (ci := 3) rfl rfl rfl rfl hl.1 rfl (Nat.le_of_ble_eq_true rfl) dX0_thirdWord_33 ⟨Nat.zero_le _, Nat.zero_le _⟩ (fun r hr1 => ?_)
      obtain ⟨rfl, b_5⟩ := hr1
      exact W.iret (v := zi_n (zh_two F n ((zh_more F) + 6))) hx hb hr (fun t ht hW => ⟨_, rfl, zl_r (by unfold zh_third; (repeat' split) <;> omega) (by omega), ht⟩) (fun q hq => nomatch hq) dX0_thirdWord_36
    · refine zr_iconst hx hb dX0_thirdWord_21 ?_
      refine lv_goto (tgt := 36) hx hb dX0_thirdWord_22 (by decide) ?_
      exact W.iret (v := zi_n 0) hx hb hr (fun t ht hW => ⟨_, rfl, zl_r (by unfold zh_third; (repeat' split) <;> omega) (by omega), ht⟩) (fun q hq => nomatch hq) dX0_thirdWord_36

theorem in_X0_unpacked_X0 : ∀ w ∈ u_ws RX0 TX0 1, w ∈ wsX0_unpacked := by decide +kernel
set_option maxHeartbeats 4000000 in
set_option maxRecDepth 100000 in
theorem c_Hd_unpacked (l : Launch) (D : va_G) (hh q a : Nat) (cA : ClassId) (F : Nat → Int) (n : Int) (hF : zi_By F) (hn : 0 ≤ n ∧ n ≤ 600) (p0 : Int) (p1 : Int) (h64 : 64 ≤ n) (hp : 0 ≤ p0 ∧ p0 ≤ 65535) (hq : p1 = 0 ∨ p1 = 1) : Met l yX0_unpacked wsX0_unpacked ({ frames := 2, cells := 0, slots := 0, locals := 41 }) (va_Pc [.ref hh, .int (zi_n p0), .int (zi_n p1)] (zp_Q D vwCl [(hh, .inr (2, [.ref q])), (q, .inr (3, [.ref a, .int (zi_n n)])), (a, .inl (cA, 600, .inl (zi_F F)))] [(cA, .int)])) (vp_Si (fun r => r = zi_n (zh_unp F p0 p1) ∧ 0 ≤ (zh_unp F p0 p1) ∧ (zh_unp F p0 p1) ≤ 786420)) 0 0 (fun _ => False) := by
  refine Met.ofW (cc := cX0_unpacked) (maxL := 4) (ret := (some .int)) (by decide) rfl ?_
  intro p e s m args below meth c s₁ B hml hv
  obtain ⟨rfl, hP, hK⟩ := hv
  have hx := B.exec
  have hb := B.bytes
  have hr := B.returns
  have hts := atoms_spec (ws := wsX0_unpacked) B.pre
  have hown : s.vm.findClass RX0 = some m.cls := findClass_of_methodNamed B.named
  have hlocks := B.notSynchronized
  have hl := lv_entry ([.ref hh, .int (zi_n p0), .int (zi_n p1)]) (n := 4) (Nat.le_of_ble_eq_true rfl)
  rw [lg_entry_eq]
  generalize (lg_sl ([.ref hh, .int (zi_n p0), .int (zi_n p1)]) ++ List.replicate (4 - (lg_sl ([.ref hh, .int (zi_n p0), .int (zi_n p1)])).length) Slot.unset).toArray = ls at hl ⊢
  have hl : lv_has ls 4 [(0, .ref hh), (1, .int (zi_n p0)), (2, .int (zi_n p1))] := hl
  refine lv_aload_n hx hb dX0_unpacked_0 rfl (lv_at hl 0 rfl) ?_
  refine zc_V (As := []) (rest := []) ⟨hx, hb, hml, hown, hts⟩ (c_Hd_version l D hh q a cA F n hF (by omega) (by omega)) (cwV 0 hts gX0_unpacked_X0_version rfl rfl rfl (by decide +kernel) ⟨(Nat.le_of_ble_eq_true rfl), (Nat.le_of_ble_eq_true rfl)⟩) hP hK [0, 1, 2] [0] rfl rfl (ci := 2) rfl rfl rfl rfl hl.1 rfl (Nat.le_of_ble_eq_true rfl) dX0_unpacked_1 ⟨Nat.zero_le _, Nat.zero_le _⟩ (fun r hr1 => ?_)
  obtain ⟨rfl, b_1⟩ := hr1
  refine lv_istore_n (lv' := [(3, .int (zi_n (F 0))), (0, .ref hh), (1, .int (zi_n p0)), (2, .int (zi_n p1))]) hx hb dX0_unpacked_4 rfl hl (by decide) rfl (fun ls hl => ?_)
  refine lv_iload_n hx hb dX0_unpacked_5 rfl (lv_at hl 0 rfl) ?_
  refine zr_iconst hx hb dX0_unpacked_6 ?_
  refine zr_icmp_gt (tgt := 14) hx hb dX0_unpacked_7 (by decide) (by omega) (by omega) (fun c_2 => ?_) (fun c_2 => ?_)
  · refine lv_iload_n hx hb dX0_unpacked_14 rfl (lv_at hl 0 rfl) ?_
    refine zr_iconst hx hb dX0_unpacked_15 ?_
    refine zr_icmp_gt (tgt := 23) hx hb dX0_unpacked_16 (by decide) (by omega) (by omega) (fun c_3 => ?_) (fun c_3 => ?_)
    · refine lv_iload_n hx hb dX0_unpacked_23 rfl (lv_at hl 0 rfl) ?_
      refine zr_bipush hx hb dX0_unpacked_24 (by decide) ?_
      refine zr_icmp_ne (tgt := 36) hx hb dX0_unpacked_26 (by decide) (by omega) (by omega) (fun c_4 => ?_) (fun c_4 => ?_)
      · refine zr_iconst hx hb dX0_unpacked_36 ?_
        refine lv_iload_n hx hb dX0_unpacked_37 rfl (lv_at hl 2 rfl) ?_
        refine zr_imul hx hb dX0_unpacked_38 ?_
        refine zr_bipush hx hb dX0_unpacked_39 (by decide) ?_
        refine lv_aload_n hx hb dX0_unpacked_41 rfl (lv_at hl 1 rfl) ?_
        refine va_get (D := D) (ci := 2) (v := .ref q) (C := RX0) (T := TX0) (N := 1) hx hb hts in_X0_unpacked_X0 hown hK hP 0 rfl rfl 0 (by decide) (hts (.fieldLink RX0 9 "ZHeads$Head" "row" "LZHeads$Row;") (by decide +kernel)) (fun _ h9 => h9) rfl dX0_unpacked_42 ?_
        refine lv_iload_n hx hb dX0_unpacked_45 rfl (lv_at hl 3 rfl) ?_
        refine zr_if_eq (tgt := 54) hx hb dX0_unpacked_46 (by decide) (by omega) (fun c_5 => ?_) (fun c_5 => ?_)
        · refine zr_bipush hx hb dX0_unpacked_54 (by decide) ?_
          refine zc_V (As := [.int (zi_n 40)]) (rest := [.int (zi_n 8), .int (zi_n (4 * p0))]) ⟨hx, hb, hml, hown, hts⟩ (c_Row_two_k l D q a cA F n hF (by omega) 40 40 rfl (by omega)) (cwV 1 hts gX0_unpacked_X2_two rfl rfl rfl (by decide +kernel) ⟨(Nat.le_of_ble_eq_true rfl), (Nat.le_of_ble_eq_true rfl)⟩) hP hK [1, 2] [0] rfl rfl (ci := 3) rfl rfl rfl rfl hl.1 rfl (Nat.le_of_ble_eq_true rfl) dX0_unpacked_56 ⟨Nat.zero_le _, Nat.zero_le _⟩ (fun r hr1 => ?_)
          obtain ⟨rfl, b_6⟩ := hr1
          refine zr_imul hx hb dX0_unpacked_59 ?_
          refine zr_iadd hx hb dX0_unpacked_60 ?_
          exact W.iret (v := zi_n ((4 * p0) + (8 * (zh_t F 40)))) hx hb hr (fun t ht hW => ⟨_, rfl, zl_r (by unfold zh_unp; (repeat' split) <;> omega) (by omega), ht⟩) (fun q hq => nomatch hq) dX0_unpacked_61
        · refine zr_bipush hx hb dX0_unpacked_49 (by decide) ?_
          refine lv_goto (tgt := 56) hx hb dX0_unpacked_51 (by decide) ?_
          refine zc_V (As := [.int (zi_n 42)]) (rest := [.int (zi_n 8), .int (zi_n (4 * p0))]) ⟨hx, hb, hml, hown, hts⟩ (c_Row_two_k l D q a cA F n hF (by omega) 42 42 rfl (by omega)) (cwV 1 hts gX0_unpacked_X2_two rfl rfl rfl (by decide +kernel) ⟨(Nat.le_of_ble_eq_true rfl), (Nat.le_of_ble_eq_true rfl)⟩) hP hK [1, 2] [0] rfl rfl (ci := 3) rfl rfl rfl rfl hl.1 rfl (Nat.le_of_ble_eq_true rfl) dX0_unpacked_56 ⟨Nat.zero_le _, Nat.zero_le _⟩ (fun r hr1 => ?_)
          obtain ⟨rfl, b_7⟩ := hr1
          refine zr_imul hx hb dX0_unpacked_59 ?_
          refine zr_iadd hx hb dX0_unpacked_60 ?_
          exact W.iret (v := zi_n ((4 * p0) + (8 * (zh_t F 42)))) hx hb hr (fun t ht hW => ⟨_, rfl, zl_r (by unfold zh_unp; (repeat' split) <;> omega) (by omega), ht⟩) (fun q hq => nomatch hq) dX0_unpacked_61
      · refine zr_bipush hx hb dX0_unpacked_29 (by decide) ?_
        refine lv_iload_n hx hb dX0_unpacked_31 rfl (lv_at hl 2 rfl) ?_
        refine zr_imul hx hb dX0_unpacked_32 ?_
        refine lv_goto (tgt := 61) hx hb dX0_unpacked_33 (by decide) ?_
        exact W.iret (v := zi_n (8 * p0)) hx hb hr (fun t ht hW => ⟨_, rfl, zl_r (by unfold zh_unp; (repeat' split) <;> omega) (by omega), ht⟩) (fun q hq => nomatch hq) dX0_unpacked_61
    · refine zr_iconst hx hb dX0_unpacked_19 ?_
      refine lv_iload_n hx hb dX0_unpacked_20 rfl (lv_at hl 2 rfl) ?_
      refine zr_imul hx hb dX0_unpacked_21 ?_
      exact W.iret (v := zi_n (4 * p0)) hx hb hr (fun t ht hW => ⟨_, rfl, zl_r (by unfold zh_unp; (repeat' split) <;> omega) (by omega), ht⟩) (fun q hq => nomatch hq) dX0_unpacked_22
  · refine zr_iconst hx hb dX0_unpacked_10 ?_
    refine lv_iload_n hx hb dX0_unpacked_11 rfl (lv_at hl 2 rfl) ?_
    refine zr_imul hx hb dX0_unpacked_12 ?_
    exact W.iret (v := zi_n (2 * p0)) hx hb hr (fun t ht hW => ⟨_, rfl, zl_r (by unfold zh_unp; (repeat' split) <;> omega) (by omega), ht⟩) (fun q hq => nomatch hq) dX0_unpacked_13

set_option maxHeartbeats 4000000 in
set_option maxRecDepth 100000 in
theorem c_Hd_isWithin (l : Launch) (p0 : Int) (p1 : Int) (p2 : Int) (h0 : zi_R p0) (h1 : zi_R p1) (h2 : zi_R p2) : Met l yX0_isWithin wsX0_isWithin ({ frames := 0, cells := 0, slots := 0, locals := 0 }) (va_Pc [.int (zi_n p0), .int (zi_n p1), .int (zi_n p2)] (fun _ => True)) (vp_Si (fun r => (r = zi_n 1 ∧ (p1 ≤ p0 ∧ p0 ≤ p2)) ∨ (r = zi_n 0 ∧ ¬ (p1 ≤ p0 ∧ p0 ≤ p2)))) 0 0 (fun _ => False) := by
  refine Met.ofW (cc := cX0_isWithin) (maxL := 3) (ret := (some .boolean)) (by decide) rfl ?_
  intro p e s m args below meth c s₁ B hml hv
  obtain ⟨rfl, -⟩ := hv
  have hx := B.exec
  have hb := B.bytes
  have hr := B.returns
  have hts := atoms_spec (ws := wsX0_isWithin) B.pre
  have hown : s.vm.findClass RX0 = some m.cls := findClass_of_methodNamed B.named
  have hlocks := B.notSynchronized
  have hl := lv_entry ([.int (zi_n p0), .int (zi_n p1), .int (zi_n p2)]) (n := 3) (Nat.le_of_ble_eq_true rfl)
  rw [lg_entry_eq]
  generalize (lg_sl ([.int (zi_n p0), .int (zi_n p1), .int (zi_n p2)]) ++ List.replicate (3 - (lg_sl ([.int (zi_n p0), .int (zi_n p1), .int (zi_n p2)])).length) Slot.unset).toArray = ls at hl ⊢
  have hl : lv_has ls 3 [(0, .int (zi_n p0)), (1, .int (zi_n p1)), (2, .int (zi_n p2))] := hl
  refine lv_iload_n hx hb dX0_isWithin_0 rfl (lv_at hl 0 rfl) ?_
  refine lv_iload_n hx hb dX0_isWithin_1 rfl (lv_at hl 1 rfl) ?_
  refine zr_icmp_lt (tgt := 14) hx hb dX0_isWithin_2 (by decide) (by omega) (by omega) (fun c_1 => ?_) (fun c_1 => ?_)
  · refine zr_iconst hx hb dX0_isWithin_14 ?_
    exact W.zret (v := zi_n 0) (ty := .boolean) hx hb hr zl_b0 (fun t ht hW => ⟨_, rfl, zl_f (by omega), ht⟩) (fun q hq => nomatch hq) dX0_isWithin_15
  · refine lv_iload_n hx hb dX0_isWithin_5 rfl (lv_at hl 0 rfl) ?_
    refine lv_iload_n hx hb dX0_isWithin_6 rfl (lv_at hl 2 rfl) ?_
    refine zr_icmp_gt (tgt := 14) hx hb dX0_isWithin_7 (by decide) (by omega) (by omega) (fun c_2 => ?_) (fun c_2 => ?_)
    · refine zr_iconst hx hb dX0_isWithin_14 ?_
      exact W.zret (v := zi_n 0) (ty := .boolean) hx hb hr zl_b0 (fun t ht hW => ⟨_, rfl, zl_f (by omega), ht⟩) (fun q hq => nomatch hq) dX0_isWithin_15
    · refine zr_iconst hx hb dX0_isWithin_10 ?_
      refine lv_goto (tgt := 15) hx hb dX0_isWithin_11 (by decide) ?_
      exact W.zret (v := zi_n 1) (ty := .boolean) hx hb hr zl_b1 (fun t ht hW => ⟨_, rfl, zl_t (by omega), ht⟩) (fun q hq => nomatch hq) dX0_isWithin_15

set_option maxHeartbeats 4000000 in
set_option maxRecDepth 100000 in
theorem c_Hd_fits (l : Launch) (p0 : Int) (p1 : Int) (p2 : Int) (h0 : zi_R p0) (h1 : zi_R p1) (h2 : zi_R p2) (h3 : zi_R (p0 + p1)) : Met l yX0_fits wsX0_fits ({ frames := 0, cells := 0, slots := 0, locals := 0 }) (va_Pc [.int (zi_n p0), .int (zi_n p1), .int (zi_n p2)] (fun _ => True)) (vp_Si (fun r => (r = zi_n 1 ∧ (64 ≤ p0 ∧ p0 + p1 ≤ p2)) ∨ (r = zi_n 0 ∧ ¬ (64 ≤ p0 ∧ p0 + p1 ≤ p2)))) 0 0 (fun _ => False) := by
  refine Met.ofW (cc := cX0_fits) (maxL := 3) (ret := (some .boolean)) (by decide) rfl ?_
  intro p e s m args below meth c s₁ B hml hv
  obtain ⟨rfl, -⟩ := hv
  have hx := B.exec
  have hb := B.bytes
  have hr := B.returns
  have hts := atoms_spec (ws := wsX0_fits) B.pre
  have hown : s.vm.findClass RX0 = some m.cls := findClass_of_methodNamed B.named
  have hlocks := B.notSynchronized
  have hl := lv_entry ([.int (zi_n p0), .int (zi_n p1), .int (zi_n p2)]) (n := 3) (Nat.le_of_ble_eq_true rfl)
  rw [lg_entry_eq]
  generalize (lg_sl ([.int (zi_n p0), .int (zi_n p1), .int (zi_n p2)]) ++ List.replicate (3 - (lg_sl ([.int (zi_n p0), .int (zi_n p1), .int (zi_n p2)])).length) Slot.unset).toArray = ls at hl ⊢
  have hl : lv_has ls 3 [(0, .int (zi_n p0)), (1, .int (zi_n p1)), (2, .int (zi_n p2))] := hl
  refine lv_iload_n hx hb dX0_fits_0 rfl (lv_at hl 0 rfl) ?_
  refine zr_bipush hx hb dX0_fits_1 (by decide) ?_
  refine zr_icmp_lt (tgt := 17) hx hb dX0_fits_3 (by decide) (by omega) (by omega) (fun c_1 => ?_) (fun c_1 => ?_)
  · refine zr_iconst hx hb dX0_fits_17 ?_
    exact W.zret (v := zi_n 0) (ty := .boolean) hx hb hr zl_b0 (fun t ht hW => ⟨_, rfl, zl_f (by omega), ht⟩) (fun q hq => nomatch hq) dX0_fits_18
  · refine lv_iload_n hx hb dX0_fits_6 rfl (lv_at hl 0 rfl) ?_
    refine lv_iload_n hx hb dX0_fits_7 rfl (lv_at hl 1 rfl) ?_
    refine zr_iadd hx hb dX0_fits_8 ?_
    refine lv_iload_n hx hb dX0_fits_9 rfl (lv_at hl 2 rfl) ?_
    refine zr_icmp_gt (tgt := 17) hx hb dX0_fits_10 (by decide) (by omega) (by omega) (fun c_2 => ?_) (fun c_2 => ?_)
    · refine zr_iconst hx hb dX0_fits_17 ?_
      exact W.zret (v := zi_n 0) (ty := .boolean) hx hb hr zl_b0 (fun t ht hW => ⟨_, rfl, zl_f (by omega), ht⟩) (fun q hq => nomatch hq) dX0_fits_18
    · refine zr_iconst hx hb dX0_fits_13 ?_
      refine lv_goto (tgt := 18) hx hb dX0_fits_14 (by decide) ?_
      exact W.zret (v := zi_n 1) (ty := .boolean) hx hb hr zl_b1 (fun t ht hW => ⟨_, rfl, zl_t (by omega), ht⟩) (fun q hq => nomatch hq) dX0_fits_18

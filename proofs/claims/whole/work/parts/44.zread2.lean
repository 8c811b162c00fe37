theorem in_X3_global_X3 : ∀ w ∈ u_ws RX3 TX3 5, w ∈ wsX3_global := by decide +kernel
set_option maxHeartbeats 4000000 in
set_option maxRecDepth 100000 in
theorem c_Z_global (l : Launch) (D : va_G) (x q q2 hh a a2 : Nat) (cA cB : ClassId) (F G : Nat → Int) (n k rd br : Int) (hF : zi_By F) (hn : 0 ≤ n ∧ n ≤ 600) (hG : zi_By G) (hk : 0 ≤ k ∧ k ≤ 600) (hrd : rd = 0 ∨ rd = 1) (hbr : 0 ≤ br ∧ br ≤ 15) (p0 : Int) (hR : rd = 1 → (64 ≤ n ∧ k = n) ∧ (1 ≤ F 0 ∧ F 0 ≤ 8) ∧ (64 ≤ zh_len F n ∧ zh_len F n ≤ n) ∧ (64 ≤ zh_t F 14 ∧ zh_t F 14 ≤ zh_len F n) ∧ (64 ≤ zh_t F 12 ∧ zh_t F 12 + 480 ≤ zh_t F 14) ∧ (64 ≤ zh_t F 8 ∧ 0 ≤ zh_sg F n ∧ 4 ≤ zh_eb F n)) (hp : rd = 0 ∨ (0 ≤ p0 ∧ p0 ≤ 239)) : Met l yX3_global wsX3_global ({ frames := 2, cells := 0, slots := 0, locals := 41 }) (va_Pc [.ref x, .int (zi_n p0)] (zp_Q D vwCl [(x, .inr (4, [.ref q, .ref q2, .ref hh, .int (zi_n rd), .int (zi_n br)])), (q, .inr (3, [.ref a, .int (zi_n n)])), (q2, .inr (3, [.ref a2, .int (zi_n k)])), (hh, .inr (2, [.ref q])), (a, .inl (cA, 600, .inl (zi_F F))), (a2, .inl (cB, 600, .inl (zi_F G)))] [(cA, .int), (cB, .int)])) (vp_Si (fun r => r = zi_n (zh_gloE F G k rd p0) ∧ -32768 ≤ (zh_gloE F G k rd p0) ∧ (zh_gloE F G k rd p0) ≤ 32767)) 0 0 (fun _ => False) := by
  refine Met.ofW (cc := cX3_global) (maxL := 2) (ret := (some .int)) (by decide) rfl ?_
  intro p e s m args below meth c s₁ B hml hv
  obtain ⟨rfl, hP, hK⟩ := hv
  have hx := B.exec
  have hb := B.bytes
  have hr := B.returns
  have hts := atoms_spec (ws := wsX3_global) B.pre
  have hown : s.vm.findClass RX3 = some m.cls := findClass_of_methodNamed B.named
  have hlocks := B.notSynchronized
  have hl := lv_entry ([.ref x, .int (zi_n p0)]) (n := 2) (Nat.le_of_ble_eq_true rfl)
  rw [lg_entry_eq]
  generalize (lg_sl ([.ref x, .int (zi_n p0)]) ++ List.replicate (2 - (lg_sl ([.ref x, .int (zi_n p0)])).length) Slot.unset).toArray = ls at hl ⊢
  have hl : lv_has ls 2 [(0, .ref x), (1, .int (zi_n p0))] := hl
  refine lv_aload_n hx hb dX3_global_0 rfl (lv_at hl 0 rfl) ?_
  refine va_get (D := D) (ci := 4) (v := .int (zi_n rd)) (C := RX3) (T := TX3) (N := 5) hx hb hts in_X3_global_X3 hown hK hP 0 rfl rfl 3 (by decide) (hts (.fieldLink RX3 28 "ZHeads" "isRead" "Z") (by decide +kernel)) (fun _ h9 => h9) rfl dX3_global_1 ?_
  refine zr_if_ne (tgt := 10) hx hb dX3_global_4 (by decide) (by omega) (fun c_1 => ?_) (fun c_1 => ?_)
  · have hR1 := hR (by omega)
    refine lv_iload_n hx hb dX3_global_10 rfl (lv_at hl 1 rfl) ?_
    refine zr_if_lt (tgt := 21) hx hb dX3_global_11 (by decide) (by omega) (fun c => False.elim (by omega)) (fun c_2 => ?_)
    refine lv_iload_n hx hb dX3_global_14 rfl (lv_at hl 1 rfl) ?_
    refine zr_sipush hx hb dX3_global_15 (by decide) ?_
    refine zr_icmp_lt (tgt := 31) hx hb dX3_global_18 (by decide) (by omega) (by omega) (fun c_3 => ?_) (fun c => False.elim (by omega))
    refine lv_aload_n hx hb dX3_global_31 rfl (lv_at hl 0 rfl) ?_
    refine va_get (D := D) (ci := 4) (v := .ref q2) (C := RX3) (T := TX3) (N := 5) hx hb hts in_X3_global_X3 hown hK hP 0 rfl rfl 1 (by decide) (hts (.fieldLink RX3 16 "ZHeads" "memory" "LZHeads$Row;") (by decide +kernel)) (fun _ h9 => h9) rfl dX3_global_32 ?_
    refine lv_aload_n hx hb dX3_global_35 rfl (lv_at hl 0 rfl) ?_
    refine va_get (D := D) (ci := 4) (v := .ref hh) (C := RX3) (T := TX3) (N := 5) hx hb hts in_X3_global_X3 hown hK hP 0 rfl rfl 2 (by decide) (hts (.fieldLink RX3 24 "ZHeads" "head" "LZHeads$Head;") (by decide +kernel)) (fun _ h9 => h9) rfl dX3_global_36 ?_
    refine zc_V (As := []) (rest := [.ref q2]) ⟨hx, hb, hml, hown, hts⟩ (c_Hd_globals l D hh q a cA F n hF (by omega) (by omega)) (cwV 0 hts gX3_global_X0_globals rfl rfl rfl (by decide +kernel) ⟨(Nat.le_of_ble_eq_true rfl), (Nat.le_of_ble_eq_true rfl)⟩) hP hK [3, 1, 4] [0] rfl rfl (ci := 2) rfl rfl rfl rfl hl.1 rfl (Nat.le_of_ble_eq_true rfl) dX3_global_39 ⟨Nat.zero_le _, Nat.zero_le _⟩ (fun r hr1 => ?_)
    obtain ⟨rfl, b_4⟩ := hr1
    refine zr_iconst hx hb dX3_global_42 ?_
    refine lv_iload_n hx hb dX3_global_43 rfl (lv_at hl 1 rfl) ?_
    refine zr_imul hx hb dX3_global_44 ?_
    refine zr_iadd hx hb dX3_global_45 ?_
    refine zc_V (As := [.int (zi_n ((zh_t F 12) + (2 * p0)))]) (rest := []) ⟨hx, hb, hml, hown, hts⟩ (c_Row_two l D q2 a2 cB G k hG (by omega) ((zh_t F 12) + (2 * p0)) (by omega)) (cwV 1 hts gX3_global_X2_two rfl rfl rfl (by decide +kernel) ⟨(Nat.le_of_ble_eq_true rfl), (Nat.le_of_ble_eq_true rfl)⟩) hP hK [2, 5] [1] rfl rfl (ci := 3) rfl rfl rfl rfl hl.1 rfl (Nat.le_of_ble_eq_true rfl) dX3_global_46 ⟨Nat.zero_le _, Nat.zero_le _⟩ (fun r hr1 => ?_)
    obtain ⟨rfl, b_5⟩ := hr1
    refine zr_i2s hx hb dX3_global_49 (by omega) ?_
    exact W.iret (v := zi_n (zi_sh (zh_two G k ((zh_t F 12) + (2 * p0))))) hx hb hr (fun t ht hW => ⟨_, rfl, zl_r (by unfold zh_gloE; rw [if_neg (by omega)]) (zi_sh_b _ |> fun h => by omega), ht⟩) (fun q hq => nomatch hq) dX3_global_50
  · refine zr_bipush hx hb dX3_global_7 (by decide) ?_
    exact W.iret (v := zi_n (-11)) hx hb hr (fun t ht hW => ⟨_, rfl, zl_r (by unfold zh_gloE; (repeat' split) <;> omega) (by omega), ht⟩) (fun q hq => nomatch hq) dX3_global_9

theorem in_X3_load_X3 : ∀ w ∈ u_ws RX3 TX3 5, w ∈ wsX3_load := by decide +kernel
set_option maxHeartbeats 4000000 in
set_option maxRecDepth 100000 in
theorem c_Z_load (l : Launch) (D : va_G) (x q q2 hh a a2 : Nat) (cA cB : ClassId) (F G : Nat → Int) (n k rd br : Int) (hF : zi_By F) (hn : 0 ≤ n ∧ n ≤ 600) (hG : zi_By G) (hk : 0 ≤ k ∧ k ≤ 600) (hrd : rd = 0 ∨ rd = 1) (hbr : 0 ≤ br ∧ br ≤ 15) (p0 : Int) (hR : rd = 1 → (64 ≤ n ∧ k = n) ∧ (1 ≤ F 0 ∧ F 0 ≤ 8) ∧ (64 ≤ zh_len F n ∧ zh_len F n ≤ n) ∧ (64 ≤ zh_t F 14 ∧ zh_t F 14 ≤ zh_len F n) ∧ (64 ≤ zh_t F 12 ∧ zh_t F 12 + 480 ≤ zh_t F 14) ∧ (64 ≤ zh_t F 8 ∧ 0 ≤ zh_sg F n ∧ 4 ≤ zh_eb F n)) (rp0 : zi_R p0) (hp : rd = 0 ∨ (0 ≤ p0 ∧ p0 < k)) : Met l yX3_load wsX3_load ({ frames := 1, cells := 0, slots := 0, locals := 21 }) (va_Pc [.ref x, .int (zi_n p0)] (zp_Q D vwCl [(x, .inr (4, [.ref q, .ref q2, .ref hh, .int (zi_n rd), .int (zi_n br)])), (q, .inr (3, [.ref a, .int (zi_n n)])), (q2, .inr (3, [.ref a2, .int (zi_n k)])), (hh, .inr (2, [.ref q])), (a, .inl (cA, 600, .inl (zi_F F))), (a2, .inl (cB, 600, .inl (zi_F G)))] [(cA, .int), (cB, .int)])) (vp_Si (fun r => r = zi_n (zh_ldE G k rd p0) ∧ -11 ≤ (zh_ldE G k rd p0) ∧ (zh_ldE G k rd p0) ≤ 255)) 0 0 (fun _ => False) := by
  refine Met.ofW (cc := cX3_load) (maxL := 2) (ret := (some .int)) (by decide) rfl ?_
  intro p e s m args below meth c s₁ B hml hv
  obtain ⟨rfl, hP, hK⟩ := hv
  have hx := B.exec
  have hb := B.bytes
  have hr := B.returns
  have hts := atoms_spec (ws := wsX3_load) B.pre
  have hown : s.vm.findClass RX3 = some m.cls := findClass_of_methodNamed B.named
  have hlocks := B.notSynchronized
  have hl := lv_entry ([.ref x, .int (zi_n p0)]) (n := 2) (Nat.le_of_ble_eq_true rfl)
  rw [lg_entry_eq]
  generalize (lg_sl ([.ref x, .int (zi_n p0)]) ++ List.replicate (2 - (lg_sl ([.ref x, .int (zi_n p0)])).length) Slot.unset).toArray = ls at hl ⊢
  have hl : lv_has ls 2 [(0, .ref x), (1, .int (zi_n p0))] := hl
  refine lv_aload_n hx hb dX3_load_0 rfl (lv_at hl 0 rfl) ?_
  refine va_get (D := D) (ci := 4) (v := .int (zi_n rd)) (C := RX3) (T := TX3) (N := 5) hx hb hts in_X3_load_X3 hown hK hP 0 rfl rfl 3 (by decide) (hts (.fieldLink RX3 28 "ZHeads" "isRead" "Z") (by decide +kernel)) (fun _ h9 => h9) rfl dX3_load_1 ?_
  refine zr_if_ne (tgt := 10) hx hb dX3_load_4 (by decide) (by omega) (fun c_1 => ?_) (fun c_1 => ?_)
  · have hR1 := hR (by omega)
    refine lv_aload_n hx hb dX3_load_10 rfl (lv_at hl 0 rfl) ?_
    refine va_get (D := D) (ci := 4) (v := .ref q2) (C := RX3) (T := TX3) (N := 5) hx hb hts in_X3_load_X3 hown hK hP 0 rfl rfl 1 (by decide) (hts (.fieldLink RX3 16 "ZHeads" "memory" "LZHeads$Row;") (by decide +kernel)) (fun _ h9 => h9) rfl dX3_load_11 ?_
    refine lv_iload_n hx hb dX3_load_14 rfl (lv_at hl 1 rfl) ?_
    refine zc_V (As := [.int (zi_n p0)]) (rest := []) ⟨hx, hb, hml, hown, hts⟩ (c_Row_has l D q2 a2 cB G k hG (by omega) p0 (by omega)) (cwV 1 hts gX3_load_X2_has rfl rfl rfl (by decide +kernel) ⟨(Nat.le_of_ble_eq_true rfl), (Nat.le_of_ble_eq_true rfl)⟩) hP hK [2, 5] [1] rfl rfl (ci := 3) rfl rfl rfl rfl hl.1 rfl (Nat.le_of_ble_eq_true rfl) dX3_load_15 ⟨Nat.zero_le _, Nat.zero_le _⟩ (fun r hr1 => ?_)
    rcases hr1 with ⟨rfl, c_2⟩ | ⟨rfl, c_2⟩
    · refine zr_if_ne (tgt := 31) hx hb dX3_load_18 (by decide) (by omega) (fun c_3 => ?_) (fun c => absurd c (by decide))
      refine lv_aload_n hx hb dX3_load_31 rfl (lv_at hl 0 rfl) ?_
      refine va_get (D := D) (ci := 4) (v := .ref q2) (C := RX3) (T := TX3) (N := 5) hx hb hts in_X3_load_X3 hown hK hP 0 rfl rfl 1 (by decide) (hts (.fieldLink RX3 16 "ZHeads" "memory" "LZHeads$Row;") (by decide +kernel)) (fun _ h9 => h9) rfl dX3_load_32 ?_
      refine lv_iload_n hx hb dX3_load_35 rfl (lv_at hl 1 rfl) ?_
      refine zc_V (As := [.int (zi_n p0)]) (rest := []) ⟨hx, hb, hml, hown, hts⟩ (c_Row_at l D q2 a2 cB G k hG (by omega) p0 (by omega)) (cwV 1 hts gX3_load_X2_at rfl rfl rfl (by decide +kernel) ⟨(Nat.le_of_ble_eq_true rfl), (Nat.le_of_ble_eq_true rfl)⟩) hP hK [2, 5] [1] rfl rfl (ci := 3) rfl rfl rfl rfl hl.1 rfl (Nat.le_of_ble_eq_true rfl) dX3_load_36 ⟨Nat.zero_le _, Nat.zero_le _⟩ (fun r hr1 => ?_)
      obtain ⟨rfl, b_4⟩ := hr1
      exact W.iret (v := zi_n (zh_at G k p0)) hx hb hr (fun t ht hW => ⟨_, rfl, zl_r (by unfold zh_ldE; (repeat' split) <;> omega) (by omega), ht⟩) (fun q hq => nomatch hq) dX3_load_39
    · exfalso; omega
  · refine zr_bipush hx hb dX3_load_7 (by decide) ?_
    exact W.iret (v := zi_n (-11)) hx hb hr (fun t ht hW => ⟨_, rfl, zl_r (by unfold zh_ldE; (repeat' split) <;> omega) (by omega), ht⟩) (fun q hq => nomatch hq) dX3_load_9

theorem in_X3_first_X3 : ∀ w ∈ u_ws RX3 TX3 5, w ∈ wsX3_first := by decide +kernel
set_option maxHeartbeats 4000000 in
set_option maxRecDepth 100000 in
theorem c_Z_first (l : Launch) (D : va_G) (x q q2 hh a a2 : Nat) (cA cB : ClassId) (F G : Nat → Int) (n k rd br : Int) (hF : zi_By F) (hn : 0 ≤ n ∧ n ≤ 600) (hG : zi_By G) (hk : 0 ≤ k ∧ k ≤ 600) (hrd : rd = 0 ∨ rd = 1) (hbr : 0 ≤ br ∧ br ≤ 15) (p0 : Int) (p1 : Int) (hR : rd = 1 → (64 ≤ n ∧ k = n) ∧ (1 ≤ F 0 ∧ F 0 ≤ 8) ∧ (64 ≤ zh_len F n ∧ zh_len F n ≤ n) ∧ (64 ≤ zh_t F 14 ∧ zh_t F 14 ≤ zh_len F n) ∧ (64 ≤ zh_t F 12 ∧ zh_t F 12 + 480 ≤ zh_t F 14) ∧ (64 ≤ zh_t F 8 ∧ 0 ≤ zh_sg F n ∧ 4 ≤ zh_eb F n)) (rp0 : zi_R p0) (bp1 : p1 = 0 ∨ p1 = 1) (hp : rd = 0 ∨ ¬ (0 ≤ p0 ∧ p0 ≤ 65535) ∨ (0 ≤ zh_unp F p0 p1 ∧ zh_unp F p0 p1 < k)) : Met l yX3_first wsX3_first ({ frames := 3, cells := 0, slots := 0, locals := 64 }) (va_Pc [.ref x, .int (zi_n p0), .int (zi_n p1)] (zp_Q D vwCl [(x, .inr (4, [.ref q, .ref q2, .ref hh, .int (zi_n rd), .int (zi_n br)])), (q, .inr (3, [.ref a, .int (zi_n n)])), (q2, .inr (3, [.ref a2, .int (zi_n k)])), (hh, .inr (2, [.ref q])), (a, .inl (cA, 600, .inl (zi_F F))), (a2, .inl (cB, 600, .inl (zi_F G)))] [(cA, .int), (cB, .int)])) (vp_Si (fun r => r = zi_n (zh_fiE1 F G k rd p0 p1) ∧ -12 ≤ (zh_fiE1 F G k rd p0 p1) ∧ (zh_fiE1 F G k rd p0 p1) ≤ 255)) 0 0 (fun _ => False) := by
  refine Met.ofW (cc := cX3_first) (maxL := 4) (ret := (some .int)) (by decide) rfl ?_
  intro p e s m args below meth c s₁ B hml hv
  obtain ⟨rfl, hP, hK⟩ := hv
  have hx := B.exec
  have hb := B.bytes
  have hr := B.returns
  have hts := atoms_spec (ws := wsX3_first) B.pre
  have hown : s.vm.findClass RX3 = some m.cls := findClass_of_methodNamed B.named
  have hlocks := B.notSynchronized
  have hl := lv_entry ([.ref x, .int (zi_n p0), .int (zi_n p1)]) (n := 4) (Nat.le_of_ble_eq_true rfl)
  rw [lg_entry_eq]
  generalize (lg_sl ([.ref x, .int (zi_n p0), .int (zi_n p1)]) ++ List.replicate (4 - (lg_sl ([.ref x, .int (zi_n p0), .int (zi_n p1)])).length) Slot.unset).toArray = ls at hl ⊢
  have hl : lv_has ls 4 [(0, .ref x), (1, .int (zi_n p0)), (2, .int (zi_n p1))] := hl
  refine lv_aload_n hx hb dX3_first_0 rfl (lv_at hl 0 rfl) ?_
  refine va_get (D := D) (ci := 4) (v := .int (zi_n rd)) (C := RX3) (T := TX3) (N := 5) hx hb hts in_X3_first_X3 hown hK hP 0 rfl rfl 3 (by decide) (hts (.fieldLink RX3 28 "ZHeads" "isRead" "Z") (by decide +kernel)) (fun _ h9 => h9) rfl dX3_first_1 ?_
  refine zr_if_ne (tgt := 10) hx hb dX3_first_4 (by decide) (by omega) (fun c_1 => ?_) (fun c_1 => ?_)
  · have hR1 := hR (by omega)
    refine lv_iload_n hx hb dX3_first_10 rfl (lv_at hl 1 rfl) ?_
    refine zc_S (As := [.int (zi_n p0)]) (rest := []) ⟨hx, hb, hml, hown, hts⟩ (c_Z_isTwo l p0 (by omega)) (va_cwS 1 hts gX3_first_X3_isTwo rfl rfl rfl (by decide +kernel) ⟨(Nat.le_of_ble_eq_true rfl), (Nat.le_of_ble_eq_true rfl)⟩) rfl hl.1 rfl (Nat.le_of_ble_eq_true rfl) dX3_first_11 ⟨Nat.zero_le _, Nat.zero_le _⟩ (fun r hr1 => ?_)
    rcases hr1 with ⟨rfl, c_2⟩ | ⟨rfl, c_2⟩
    · refine zr_if_ne (tgt := 20) hx hb dX3_first_14 (by decide) (by omega) (fun c_3 => ?_) (fun c => absurd c (by decide))
      refine lv_aload_n hx hb dX3_first_20 rfl (lv_at hl 0 rfl) ?_
      refine va_get (D := D) (ci := 4) (v := .ref hh) (C := RX3) (T := TX3) (N := 5) hx hb hts in_X3_first_X3 hown hK hP 0 rfl rfl 2 (by decide) (hts (.fieldLink RX3 24 "ZHeads" "head" "LZHeads$Head;") (by decide +kernel)) (fun _ h9 => h9) rfl dX3_first_21 ?_
      refine lv_iload_n hx hb dX3_first_24 rfl (lv_at hl 1 rfl) ?_
      refine lv_iload_n hx hb dX3_first_25 rfl (lv_at hl 2 rfl) ?_
      refine zc_V (As := [.int (zi_n p0), .int (zi_n p1)]) (rest := []) ⟨hx, hb, hml, hown, hts⟩ (c_Hd_unpacked l D hh q a cA F n hF (by omega) p0 p1 (by omega) (by omega) (by omega)) (cwV 2 hts gX3_first_X0_unpacked rfl rfl rfl (by decide +kernel) ⟨(Nat.le_of_ble_eq_true rfl), (Nat.le_of_ble_eq_true rfl)⟩) hP hK [3, 1, 4] [0] rfl rfl (ci := 2) rfl rfl rfl rfl hl.1 rfl (Nat.le_of_ble_eq_true rfl) dX3_first_26 ⟨Nat.zero_le _, Nat.zero_le _⟩ (fun r hr1 => ?_)
      obtain ⟨rfl, b_4⟩ := hr1
      refine lv_istore_n (lv' := [(3, .int (zi_n (zh_unp F p0 p1))), (0, .ref x), (1, .int (zi_n p0)), (2, .int (zi_n p1))]) hx hb dX3_first_29 rfl hl (by decide) rfl (fun ls hl => ?_)
      refine lv_aload_n hx hb dX3_first_30 rfl (lv_at hl 1 rfl) ?_
      refine va_get (D := D) (ci := 4) (v := .ref q2) (C := RX3) (T := TX3) (N := 5) hx hb hts in_X3_first_X3 hown hK hP 0 rfl rfl 1 (by decide) (hts (.fieldLink RX3 16 "ZHeads" "memory" "LZHeads$Row;") (by decide +kernel)) (fun _ h9 => h9) rfl dX3_first_31 ?_
      refine lv_iload_n hx hb dX3_first_34 rfl (lv_at hl 0 rfl) ?_
      refine zc_V (As := [.int (zi_n (zh_unp F p0 p1))]) (rest := []) ⟨hx, hb, hml, hown, hts⟩ (c_Row_has l D q2 a2 cB G k hG (by omega) (zh_unp F p0 p1) (by omega)) (cwV 1 hts gX3_first_X2_has rfl rfl rfl (by decide +kernel) ⟨(Nat.le_of_ble_eq_true rfl), (Nat.le_of_ble_eq_true rfl)⟩) hP hK [2, 5] [1] rfl rfl (ci := 3) rfl rfl rfl rfl hl.1 rfl (Nat.le_of_ble_eq_true rfl) dX3_first_35 ⟨Nat.zero_le _, Nat.zero_le _⟩ (fun r hr1 => ?_)
      rcases hr1 with ⟨rfl, c_5⟩ | ⟨rfl, c_5⟩
      · refine zr_if_ne (tgt := 51) hx hb dX3_first_38 (by decide) (by omega) (fun c_6 => ?_) (fun c => absurd c (by decide))
        refine lv_aload_n hx hb dX3_first_51 rfl (lv_at hl 1 rfl) ?_
        refine va_get (D := D) (ci := 4) (v := .ref q2) (C := RX3) (T := TX3) (N := 5) hx hb hts in_X3_first_X3 hown hK hP 0 rfl rfl 1 (by decide) (hts (.fieldLink RX3 16 "ZHeads" "memory" "LZHeads$Row;") (by decide +kernel)) (fun _ h9 => h9) rfl dX3_first_52 ?_
        refine lv_iload_n hx hb dX3_first_55 rfl (lv_at hl 0 rfl) ?_
        refine zc_V (As := [.int (zi_n (zh_unp F p0 p1))]) (rest := []) ⟨hx, hb, hml, hown, hts⟩ (c_Row_at l D q2 a2 cB G k hG (by omega) (zh_unp F p0 p1) (by omega)) (cwV 1 hts gX3_first_X2_at rfl rfl rfl (by decide +kernel) ⟨(Nat.le_of_ble_eq_true rfl), (Nat.le_of_ble_eq_true rfl)⟩) hP hK [2, 5] [1] rfl rfl (ci := 3) rfl rfl rfl rfl hl.1 rfl (Nat.le_of_ble_eq_true rfl) dX3_first_56 ⟨Nat.zero_le _, Nat.zero_le _⟩ (fun r hr1 => ?_)
        obtain ⟨rfl, b_7⟩ := hr1
        exact W.iret (v := zi_n (zh_at G k (zh_unp F p0 p1))) hx hb hr (fun t ht hW => ⟨_, rfl, zl_r (by unfold zh_fiE1; (repeat' split) <;> omega) (by omega), ht⟩) (fun q hq => nomatch hq) dX3_first_59
      · exfalso; omega
    · refine zr_if_ne (tgt := 20) hx hb dX3_first_14 (by decide) (by omega) (fun c => absurd c (by decide)) (fun c_8 => ?_)
      refine zr_bipush hx hb dX3_first_17 (by decide) ?_
      exact W.iret (v := zi_n (-12)) hx hb hr (fun t ht hW => ⟨_, rfl, zl_r (by unfold zh_fiE1; (repeat' split) <;> omega) (by omega), ht⟩) (fun q hq => nomatch hq) dX3_first_19
  · refine zr_bipush hx hb dX3_first_7 (by decide) ?_
    exact W.iret (v := zi_n (-11)) hx hb hr (fun t ht hW => ⟨_, rfl, zl_r (by unfold zh_fiE1; (repeat' split) <;> omega) (by omega), ht⟩) (fun q hq => nomatch hq) dX3_first_9

theorem in_X3_sign_X3 : ∀ w ∈ u_ws RX3 TX3 5, w ∈ wsX3_sign := by decide +kernel
set_option maxHeartbeats 4000000 in
set_option maxRecDepth 100000 in
theorem c_Z_sign (l : Launch) (D : va_G) (x q q2 hh a a2 : Nat) (cA cB : ClassId) (F G : Nat → Int) (n k rd br : Int) (hF : zi_By F) (hn : 0 ≤ n ∧ n ≤ 600) (hG : zi_By G) (hk : 0 ≤ k ∧ k ≤ 600) (hrd : rd = 0 ∨ rd = 1) (hbr : 0 ≤ br ∧ br ≤ 15) (p0 : Int) (hR : rd = 1 → (64 ≤ n ∧ k = n) ∧ (1 ≤ F 0 ∧ F 0 ≤ 8) ∧ (64 ≤ zh_len F n ∧ zh_len F n ≤ n) ∧ (64 ≤ zh_t F 14 ∧ zh_t F 14 ≤ zh_len F n) ∧ (64 ≤ zh_t F 12 ∧ zh_t F 12 + 480 ≤ zh_t F 14) ∧ (64 ≤ zh_t F 8 ∧ 0 ≤ zh_sg F n ∧ 4 ≤ zh_eb F n)) (rp0 : zi_R p0) (hp : rd = 0 ∨ (0 ≤ p0 ∧ p0 < zh_sg F n)) : Met l yX3_sign wsX3_sign ({ frames := 3, cells := 0, slots := 0, locals := 61 }) (va_Pc [.ref x, .int (zi_n p0)] (zp_Q D vwCl [(x, .inr (4, [.ref q, .ref q2, .ref hh, .int (zi_n rd), .int (zi_n br)])), (q, .inr (3, [.ref a, .int (zi_n n)])), (q2, .inr (3, [.ref a2, .int (zi_n k)])), (hh, .inr (2, [.ref q])), (a, .inl (cA, 600, .inl (zi_F F))), (a2, .inl (cB, 600, .inl (zi_F G)))] [(cA, .int), (cB, .int)])) (vp_Si (fun r => r = zi_n (zh_sgE F n rd p0) ∧ -11 ≤ (zh_sgE F n rd p0) ∧ (zh_sgE F n rd p0) ≤ 255)) 0 0 (fun _ => False) := by
  refine Met.ofW (cc := cX3_sign) (maxL := 2) (ret := (some .int)) (by decide) rfl ?_
  intro p e s m args below meth c s₁ B hml hv
  obtain ⟨rfl, hP, hK⟩ := hv
  have hx := B.exec
  have hb := B.bytes
  have hr := B.returns
  have hts := atoms_spec (ws := wsX3_sign) B.pre
  have hown : s.vm.findClass RX3 = some m.cls := findClass_of_methodNamed B.named
  have hlocks := B.notSynchronized
  have hl := lv_entry ([.ref x, .int (zi_n p0)]) (n := 2) (Nat.le_of_ble_eq_true rfl)
  rw [lg_entry_eq]
  generalize (lg_sl ([.ref x, .int (zi_n p0)]) ++ List.replicate (2 - (lg_sl ([.ref x, .int (zi_n p0)])).length) Slot.unset).toArray = ls at hl ⊢
  have hl : lv_has ls 2 [(0, .ref x), (1, .int (zi_n p0))] := hl
  refine lv_aload_n hx hb dX3_sign_0 rfl (lv_at hl 0 rfl) ?_
  refine va_get (D := D) (ci := 4) (v := .int (zi_n rd)) (C := RX3) (T := TX3) (N := 5) hx hb hts in_X3_sign_X3 hown hK hP 0 rfl rfl 3 (by decide) (hts (.fieldLink RX3 28 "ZHeads" "isRead" "Z") (by decide +kernel)) (fun _ h9 => h9) rfl dX3_sign_1 ?_
  refine zr_if_ne (tgt := 10) hx hb dX3_sign_4 (by decide) (by omega) (fun c_1 => ?_) (fun c_1 => ?_)
  · have hR1 := hR (by omega)
    refine lv_iload_n hx hb dX3_sign_10 rfl (lv_at hl 1 rfl) ?_
    refine zr_if_lt (tgt := 25) hx hb dX3_sign_11 (by decide) (by omega) (fun c => False.elim (by omega)) (fun c_2 => ?_)
    refine lv_iload_n hx hb dX3_sign_14 rfl (lv_at hl 1 rfl) ?_
    refine lv_aload_n hx hb dX3_sign_15 rfl (lv_at hl 0 rfl) ?_
    refine va_get (D := D) (ci := 4) (v := .ref hh) (C := RX3) (T := TX3) (N := 5) hx hb hts in_X3_sign_X3 hown hK hP 0 rfl rfl 2 (by decide) (hts (.fieldLink RX3 24 "ZHeads" "head" "LZHeads$Head;") (by decide +kernel)) (fun _ h9 => h9) rfl dX3_sign_16 ?_
    refine zc_V (As := []) (rest := [.int (zi_n p0)]) ⟨hx, hb, hml, hown, hts⟩ (c_Hd_signs l D hh q a cA F n hF (by omega) (by omega)) (cwV 0 hts gX3_sign_X0_signs rfl rfl rfl (by decide +kernel) ⟨(Nat.le_of_ble_eq_true rfl), (Nat.le_of_ble_eq_true rfl)⟩) hP hK [3, 1, 4] [0] rfl rfl (ci := 2) rfl rfl rfl rfl hl.1 rfl (Nat.le_of_ble_eq_true rfl) dX3_sign_19 ⟨Nat.zero_le _, Nat.zero_le _⟩ (fun r hr1 => ?_)
    obtain ⟨rfl, b_3⟩ := hr1
    refine zr_icmp_lt (tgt := 35) hx hb dX3_sign_22 (by decide) (by omega) (by omega) (fun c_4 => ?_) (fun c => False.elim (by omega))
    refine lv_aload_n hx hb dX3_sign_35 rfl (lv_at hl 0 rfl) ?_
    refine va_get (D := D) (ci := 4) (v := .ref q) (C := RX3) (T := TX3) (N := 5) hx hb hts in_X3_sign_X3 hown hK hP 0 rfl rfl 0 (by decide) (hts (.fieldLink RX3 10 "ZHeads" "file" "LZHeads$Row;") (by decide +kernel)) (fun _ h9 => h9) rfl dX3_sign_36 ?_
    refine lv_aload_n hx hb dX3_sign_39 rfl (lv_at hl 0 rfl) ?_
    refine va_get (D := D) (ci := 4) (v := .ref hh) (C := RX3) (T := TX3) (N := 5) hx hb hts in_X3_sign_X3 hown hK hP 0 rfl rfl 2 (by decide) (hts (.fieldLink RX3 24 "ZHeads" "head" "LZHeads$Head;") (by decide +kernel)) (fun _ h9 => h9) rfl dX3_sign_40 ?_
    refine zc_V (As := []) (rest := [.ref q]) ⟨hx, hb, hml, hown, hts⟩ (c_Hd_words l D hh q a cA F n hF (by omega) (by omega)) (cwV 0 hts gX3_sign_X0_words rfl rfl rfl (by decide +kernel) ⟨(Nat.le_of_ble_eq_true rfl), (Nat.le_of_ble_eq_true rfl)⟩) hP hK [3, 1, 4] [0] rfl rfl (ci := 2) rfl rfl rfl rfl hl.1 rfl (Nat.le_of_ble_eq_true rfl) dX3_sign_43 ⟨Nat.zero_le _, Nat.zero_le _⟩ (fun r hr1 => ?_)
    obtain ⟨rfl, b_5⟩ := hr1
    refine zr_iconst hx hb dX3_sign_46 ?_
    refine zr_iadd hx hb dX3_sign_47 ?_
    refine lv_iload_n hx hb dX3_sign_48 rfl (lv_at hl 1 rfl) ?_
    refine zr_iadd hx hb dX3_sign_49 ?_
    refine zc_V (As := [.int (zi_n (((zh_t F 8) + 1) + p0))]) (rest := []) ⟨hx, hb, hml, hown, hts⟩ (c_Row_at l D q a cA F n hF (by omega) (((zh_t F 8) + 1) + p0) (by omega)) (cwV 1 hts gX3_sign_X2_at rfl rfl rfl (by decide +kernel) ⟨(Nat.le_of_ble_eq_true rfl), (Nat.le_of_ble_eq_true rfl)⟩) hP hK [1, 4] [0] rfl rfl (ci := 3) rfl rfl rfl rfl hl.1 rfl (Nat.le_of_ble_eq_true rfl) dX3_sign_50 ⟨Nat.zero_le _, Nat.zero_le _⟩ (fun r hr1 => ?_)
    obtain ⟨rfl, b_6⟩ := hr1
    exact W.iret (v := zi_n (zh_at F n (((zh_t F 8) + 1) + p0))) hx hb hr (fun t ht hW => ⟨_, rfl, zl_r (by unfold zh_sgE; (repeat' split) <;> omega) (by omega), ht⟩) (fun q hq => nomatch hq) dX3_sign_53
  · refine zr_bipush hx hb dX3_sign_7 (by decide) ?_
    exact W.iret (v := zi_n (-11)) hx hb hr (fun t ht hW => ⟨_, rfl, zl_r (by unfold zh_sgE; (repeat' split) <;> omega) (by omega), ht⟩) (fun q hq => nomatch hq) dX3_sign_9

theorem in_X3_ratio_X3 : ∀ w ∈ u_ws RX3 TX3 5, w ∈ wsX3_ratio := by decide +kernel
set_option maxHeartbeats 4000000 in
set_option maxRecDepth 100000 in
theorem c_Z_ratio (l : Launch) (D : va_G) (x q q2 hh a a2 : Nat) (cA cB : ClassId) (F G : Nat → Int) (n k rd br : Int) (hF : zi_By F) (hn : 0 ≤ n ∧ n ≤ 600) (hG : zi_By G) (hk : 0 ≤ k ∧ k ≤ 600) (hrd : rd = 0 ∨ rd = 1) (hbr : 0 ≤ br ∧ br ≤ 15) (p0 : Int) (hR : rd = 1 → (64 ≤ n ∧ k = n) ∧ (1 ≤ F 0 ∧ F 0 ≤ 8) ∧ (64 ≤ zh_len F n ∧ zh_len F n ≤ n) ∧ (64 ≤ zh_t F 14 ∧ zh_t F 14 ≤ zh_len F n) ∧ (64 ≤ zh_t F 12 ∧ zh_t F 12 + 480 ≤ zh_t F 14) ∧ (64 ≤ zh_t F 8 ∧ 0 ≤ zh_sg F n ∧ 4 ≤ zh_eb F n)) (bp0 : p0 = 0 ∨ p0 = 1) (hp : rd = 0 ∨ zh_dv F n p0 ≠ 0) : Met l yX3_ratio wsX3_ratio ({ frames := 4, cells := 0, slots := 0, locals := 83 }) (va_Pc [.ref x, .int (zi_n p0)] (zp_Q D vwCl [(x, .inr (4, [.ref q, .ref q2, .ref hh, .int (zi_n rd), .int (zi_n br)])), (q, .inr (3, [.ref a, .int (zi_n n)])), (q2, .inr (3, [.ref a2, .int (zi_n k)])), (hh, .inr (2, [.ref q])), (a, .inl (cA, 600, .inl (zi_F F))), (a2, .inl (cB, 600, .inl (zi_F G)))] [(cA, .int), (cB, .int)])) (vp_Si (fun r => r = zi_n (zh_raE F n rd p0) ∧ -600 ≤ (zh_raE F n rd p0) ∧ (zh_raE F n rd p0) ≤ 600)) 0 0 (fun _ => False) := by
  refine Met.ofW (cc := cX3_ratio) (maxL := 3) (ret := (some .int)) (by decide) rfl ?_
  intro p e s m args below meth c s₁ B hml hv
  obtain ⟨rfl, hP, hK⟩ := hv
  have hx := B.exec
  have hb := B.bytes
  have hr := B.returns
  have hts := atoms_spec (ws := wsX3_ratio) B.pre
  have hown : s.vm.findClass RX3 = some m.cls := findClass_of_methodNamed B.named
  have hlocks := B.notSynchronized
  have hl := lv_entry ([.ref x, .int (zi_n p0)]) (n := 3) (Nat.le_of_ble_eq_true rfl)
  rw [lg_entry_eq]
  generalize (lg_sl ([.ref x, .int (zi_n p0)]) ++ List.replicate (3 - (lg_sl ([.ref x, .int (zi_n p0)])).length) Slot.unset).toArray = ls at hl ⊢
  have hl : lv_has ls 3 [(0, .ref x), (1, .int (zi_n p0))] := hl
  have hdv : zh_dv F n p0 = if p0 = 0 then zh_eb F n else zh_en F n := rfl
  have hdv2 : (p0 = 0 ∧ zh_dv F n p0 = zh_eb F n) ∨ (p0 ≠ 0 ∧ zh_dv F n p0 = zh_en F n) := by rw [hdv]; by_cases c : p0 = 0 <;> simp [c]
  clear hdv
  refine lv_aload_n hx hb dX3_ratio_0 rfl (lv_at hl 0 rfl) ?_
  refine va_get (D := D) (ci := 4) (v := .int (zi_n rd)) (C := RX3) (T := TX3) (N := 5) hx hb hts in_X3_ratio_X3 hown hK hP 0 rfl rfl 3 (by decide) (hts (.fieldLink RX3 28 "ZHeads" "isRead" "Z") (by decide +kernel)) (fun _ h9 => h9) rfl dX3_ratio_1 ?_
  refine zr_if_ne (tgt := 10) hx hb dX3_ratio_4 (by decide) (by omega) (fun c_1 => ?_) (fun c_1 => ?_)
  · have hR1 := hR (by omega)
    have q1 := zh_tdiv_b (a := zh_len F n) (b := zh_en F n) (by omega)
    have q2 := zh_tdiv_b (a := zh_len F n) (b := zh_eb F n) (by omega)
    refine lv_iload_n hx hb dX3_ratio_10 rfl (lv_at hl 1 rfl) ?_
    refine zr_if_eq (tgt := 24) hx hb dX3_ratio_11 (by decide) (by omega) (fun c_2 => ?_) (fun c_2 => ?_)
    · refine lv_aload_n hx hb dX3_ratio_24 rfl (lv_at hl 0 rfl) ?_
      refine va_get (D := D) (ci := 4) (v := .ref hh) (C := RX3) (T := TX3) (N := 5) hx hb hts in_X3_ratio_X3 hown hK hP 0 rfl rfl 2 (by decide) (hts (.fieldLink RX3 24 "ZHeads" "head" "LZHeads$Head;") (by decide +kernel)) (fun _ h9 => h9) rfl dX3_ratio_25 ?_
      refine zc_V (As := []) (rest := []) ⟨hx, hb, hml, hown, hts⟩ (c_Hd_entryBytes l D hh q a cA F n hF (by omega) (by omega)) (cwV 0 hts gX3_ratio_X0_entryBytes rfl rfl rfl (by decide +kernel) ⟨(Nat.le_of_ble_eq_true rfl), (Nat.le_of_ble_eq_true rfl)⟩) hP hK [3, 1, 4] [0] rfl rfl (ci := 2) rfl rfl rfl rfl hl.1 rfl (Nat.le_of_ble_eq_true rfl) dX3_ratio_28 ⟨Nat.zero_le _, Nat.zero_le _⟩ (fun r hr1 => ?_)
      obtain ⟨rfl, b_3⟩ := hr1
      refine lv_istore_n (lv' := [(2, .int (zi_n (zh_eb F n))), (0, .ref x), (1, .int (zi_n p0))]) hx hb dX3_ratio_31 rfl hl (by decide) rfl (fun ls hl => ?_)
      refine lv_iload_n hx hb dX3_ratio_32 rfl (lv_at hl 0 rfl) ?_
      refine zr_if_ne (tgt := 46) hx hb dX3_ratio_33 (by decide) (by omega) (fun c_4 => ?_) (fun c => False.elim (by omega))
      refine lv_aload_n hx hb dX3_ratio_46 rfl (lv_at hl 1 rfl) ?_
      refine va_get (D := D) (ci := 4) (v := .ref hh) (C := RX3) (T := TX3) (N := 5) hx hb hts in_X3_ratio_X3 hown hK hP 0 rfl rfl 2 (by decide) (hts (.fieldLink RX3 24 "ZHeads" "head" "LZHeads$Head;") (by decide +kernel)) (fun _ h9 => h9) rfl dX3_ratio_47 ?_
      refine zc_V (As := []) (rest := []) ⟨hx, hb, hml, hown, hts⟩ (c_Hd_length l D hh q a cA F n hF (by omega) (by omega)) (cwV 0 hts gX3_ratio_X0_length rfl rfl rfl (by decide +kernel) ⟨(Nat.le_of_ble_eq_true rfl), (Nat.le_of_ble_eq_true rfl)⟩) hP hK [3, 1, 4] [0] rfl rfl (ci := 2) rfl rfl rfl rfl hl.1 rfl (Nat.le_of_ble_eq_true rfl) dX3_ratio_50 ⟨Nat.zero_le _, Nat.zero_le _⟩ (fun r hr1 => ?_)
      obtain ⟨rfl, b_5⟩ := hr1
      refine lv_iload_n hx hb dX3_ratio_53 rfl (lv_at hl 0 rfl) ?_
      refine zr_idiv hx hb dX3_ratio_54 (by omega) (by omega) (by omega) (by omega) ?_
      exact W.iret (v := zi_n ((zh_len F n).tdiv (zh_eb F n))) hx hb hr (fun t ht hW => ⟨_, rfl, zl_r (by unfold zh_raE zh_dv; (repeat' split) <;> omega) (by omega), ht⟩) (fun q hq => nomatch hq) dX3_ratio_55
    · refine lv_aload_n hx hb dX3_ratio_14 rfl (lv_at hl 0 rfl) ?_
      refine va_get (D := D) (ci := 4) (v := .ref hh) (C := RX3) (T := TX3) (N := 5) hx hb hts in_X3_ratio_X3 hown hK hP 0 rfl rfl 2 (by decide) (hts (.fieldLink RX3 24 "ZHeads" "head" "LZHeads$Head;") (by decide +kernel)) (fun _ h9 => h9) rfl dX3_ratio_15 ?_
      refine zc_V (As := []) (rest := []) ⟨hx, hb, hml, hown, hts⟩ (c_Hd_entries l D hh q a cA F n hF (by omega) (by omega)) (cwV 0 hts gX3_ratio_X0_entries rfl rfl rfl (by decide +kernel) ⟨(Nat.le_of_ble_eq_true rfl), (Nat.le_of_ble_eq_true rfl)⟩) hP hK [3, 1, 4] [0] rfl rfl (ci := 2) rfl rfl rfl rfl hl.1 rfl (Nat.le_of_ble_eq_true rfl) dX3_ratio_18 ⟨Nat.zero_le _, Nat.zero_le _⟩ (fun r hr1 => ?_)
      obtain ⟨rfl, b_6⟩ := hr1
      refine lv_goto (tgt := 31) hx hb dX3_ratio_21 (by decide) ?_
      refine lv_istore_n (lv' := [(2, .int (zi_n (zh_en F n))), (0, .ref x), (1, .int (zi_n p0))]) hx hb dX3_ratio_31 rfl hl (by decide) rfl (fun ls hl => ?_)
      refine lv_iload_n hx hb dX3_ratio_32 rfl (lv_at hl 0 rfl) ?_
      refine zr_if_ne (tgt := 46) hx hb dX3_ratio_33 (by decide) (by omega) (fun c_7 => ?_) (fun c => False.elim (by omega))
      refine lv_aload_n hx hb dX3_ratio_46 rfl (lv_at hl 1 rfl) ?_
      refine va_get (D := D) (ci := 4) (v := .ref hh) (C := RX3) (T := TX3) (N := 5) hx hb hts in_X3_ratio_X3 hown hK hP 0 rfl rfl 2 (by decide) (hts (.fieldLink RX3 24 "ZHeads" "head" "LZHeads$Head;") (by decide +kernel)) (fun _ h9 => h9) rfl dX3_ratio_47 ?_
      refine zc_V (As := []) (rest := []) ⟨hx, hb, hml, hown, hts⟩ (c_Hd_length l D hh q a cA F n hF (by omega) (by omega)) (cwV 0 hts gX3_ratio_X0_length rfl rfl rfl (by decide +kernel) ⟨(Nat.le_of_ble_eq_true rfl), (Nat.le_of_ble_eq_true rfl)⟩) hP hK [3, 1, 4] [0] rfl rfl (ci := 2) rfl rfl rfl rfl hl.1 rfl (Nat.le_of_ble_eq_true rfl) dX3_ratio_50 ⟨Nat.zero_le _, Nat.zero_le _⟩ (fun r hr1 => ?_)
      obtain ⟨rfl, b_8⟩ := hr1
      refine lv_iload_n hx hb dX3_ratio_53 rfl (lv_at hl 0 rfl) ?_
      refine zr_idiv hx hb dX3_ratio_54 (by omega) (by omega) (by omega) (by omega) ?_
      exact W.iret (v := zi_n ((zh_len F n).tdiv (zh_en F n))) hx hb hr (fun t ht hW => ⟨_, rfl, zl_r (by unfold zh_raE zh_dv; (repeat' split) <;> omega) (by omega), ht⟩) (fun q hq => nomatch hq) dX3_ratio_55
  · refine zr_bipush hx hb dX3_ratio_7 (by decide) ?_
    exact W.iret (v := zi_n (-11)) hx hb hr (fun t ht hW => ⟨_, rfl, zl_r (by unfold zh_raE zh_dv; (repeat' split) <;> omega) (by omega), ht⟩) (fun q hq => nomatch hq) dX3_ratio_9

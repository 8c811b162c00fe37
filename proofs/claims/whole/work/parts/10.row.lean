theorem in_X2_count_X2 : ∀ w ∈ u_ws RX2 TX2 2, w ∈ wsX2_count := by decide +kernel
set_option maxHeartbeats 4000000 in
set_option maxRecDepth 100000 in
theorem c_Row_count (l : Launch) (D : va_G) (q a : Nat) (cA : ClassId) (F : Nat → Int) (n : Int) (hF : zi_By F) (hn : 0 ≤ n ∧ n ≤ 600) : Met l yX2_count wsX2_count ({ frames := 0, cells := 0, slots := 0, locals := 0 }) (va_Pc [.ref q] (zp_Q D vwCl [(q, .inr (3, [.ref a, .int (zi_n n)])), (a, .inl (cA, 600, .inl (zi_F F)))] [(cA, .int)])) (vp_Si (fun r => r = zi_n n ∧ 0 ≤ n ∧ n ≤ 600)) 0 0 (fun _ => False) := by
  refine Met.ofW (cc := cX2_count) (maxL := 1) (ret := (some .int)) (by decide) rfl ?_
  intro p e s m args below meth c s₁ B hml hv
  obtain ⟨rfl, hP, hK⟩ := hv
  have hx := B.exec
  have hb := B.bytes
  have hr := B.returns
  have hts := atoms_spec (ws := wsX2_count) B.pre
  have hown : s.vm.findClass RX2 = some m.cls := findClass_of_methodNamed B.named
  have hlocks := B.notSynchronized
  have hl := lv_entry ([.ref q]) (n := 1) (Nat.le_of_ble_eq_true rfl)
  rw [lg_entry_eq]
  generalize (lg_sl ([.ref q]) ++ List.replicate (1 - (lg_sl ([.ref q])).length) Slot.unset).toArray = ls at hl ⊢
  have hl : lv_has ls 1 [(0, .ref q)] := hl
  refine lv_aload_n hx hb dX2_count_0 rfl (lv_at hl 0 rfl) ?_
  refine va_get (D := D) (ci := 3) (v := .int (zi_n n)) (C := RX2) (T := TX2) (N := 2) hx hb hts in_X2_count_X2 hown hK hP 0 rfl rfl 1 (by decide) (hts (.fieldLink RX2 15 "ZHeads$Row" "count" "I") (by decide +kernel)) (fun _ h9 => h9) rfl dX2_count_1 ?_
  exact W.iret (v := zi_n n) hx hb hr (fun t ht hW => ⟨_, rfl, ⟨rfl, by omega⟩, ht⟩) (fun q hq => nomatch hq) dX2_count_4

theorem in_X2_room_X2 : ∀ w ∈ u_ws RX2 TX2 2, w ∈ wsX2_room := by decide +kernel
set_option maxHeartbeats 4000000 in
set_option maxRecDepth 100000 in
theorem c_Row_room (l : Launch) (D : va_G) (q a : Nat) (cA : ClassId) (F : Nat → Int) (n : Int) (hF : zi_By F) (hn : 0 ≤ n ∧ n ≤ 600) : Met l yX2_room wsX2_room ({ frames := 0, cells := 0, slots := 0, locals := 0 }) (va_Pc [.ref q] (zp_Q D vwCl [(q, .inr (3, [.ref a, .int (zi_n n)])), (a, .inl (cA, 600, .inl (zi_F F)))] [(cA, .int)])) (vp_Si (fun r => r = zi_n (600 - n) ∧ 0 ≤ (600 - n) ∧ (600 - n) ≤ 600)) 0 0 (fun _ => False) := by
  refine Met.ofW (cc := cX2_room) (maxL := 1) (ret := (some .int)) (by decide) rfl ?_
  intro p e s m args below meth c s₁ B hml hv
  obtain ⟨rfl, hP, hK⟩ := hv
  have hx := B.exec
  have hb := B.bytes
  have hr := B.returns
  have hts := atoms_spec (ws := wsX2_room) B.pre
  have hown : s.vm.findClass RX2 = some m.cls := findClass_of_methodNamed B.named
  have hlocks := B.notSynchronized
  have hl := lv_entry ([.ref q]) (n := 1) (Nat.le_of_ble_eq_true rfl)
  rw [lg_entry_eq]
  generalize (lg_sl ([.ref q]) ++ List.replicate (1 - (lg_sl ([.ref q])).length) Slot.unset).toArray = ls at hl ⊢
  have hl : lv_has ls 1 [(0, .ref q)] := hl
  refine zr_sipush hx hb dX2_room_0 (by decide) ?_
  refine lv_aload_n hx hb dX2_room_3 rfl (lv_at hl 0 rfl) ?_
  refine va_get (D := D) (ci := 3) (v := .int (zi_n n)) (C := RX2) (T := TX2) (N := 2) hx hb hts in_X2_room_X2 hown hK hP 0 rfl rfl 1 (by decide) (hts (.fieldLink RX2 15 "ZHeads$Row" "count" "I") (by decide +kernel)) (fun _ h9 => h9) rfl dX2_room_4 ?_
  refine zr_isub hx hb dX2_room_7 ?_
  exact W.iret (v := zi_n (600 - n)) hx hb hr (fun t ht hW => ⟨_, rfl, ⟨rfl, by omega⟩, ht⟩) (fun q hq => nomatch hq) dX2_room_8

theorem in_X2_has_X2 : ∀ w ∈ u_ws RX2 TX2 2, w ∈ wsX2_has := by decide +kernel
set_option maxHeartbeats 4000000 in
set_option maxRecDepth 100000 in
theorem c_Row_has (l : Launch) (D : va_G) (q a : Nat) (cA : ClassId) (F : Nat → Int) (n : Int) (hF : zi_By F) (hn : 0 ≤ n ∧ n ≤ 600) (p0 : Int) (hp : zi_R p0) : Met l yX2_has wsX2_has ({ frames := 0, cells := 0, slots := 0, locals := 0 }) (va_Pc [.ref q, .int (zi_n p0)] (zp_Q D vwCl [(q, .inr (3, [.ref a, .int (zi_n n)])), (a, .inl (cA, 600, .inl (zi_F F)))] [(cA, .int)])) (vp_Si (fun r => (r = zi_n 1 ∧ (0 ≤ p0 ∧ p0 < n)) ∨ (r = zi_n 0 ∧ ¬ (0 ≤ p0 ∧ p0 < n)))) 0 0 (fun _ => False) := by
  refine Met.ofW (cc := cX2_has) (maxL := 2) (ret := (some .boolean)) (by decide) rfl ?_
  intro p e s m args below meth c s₁ B hml hv
  obtain ⟨rfl, hP, hK⟩ := hv
  have hx := B.exec
  have hb := B.bytes
  have hr := B.returns
  have hts := atoms_spec (ws := wsX2_has) B.pre
  have hown : s.vm.findClass RX2 = some m.cls := findClass_of_methodNamed B.named
  have hlocks := B.notSynchronized
  have hl := lv_entry ([.ref q, .int (zi_n p0)]) (n := 2) (Nat.le_of_ble_eq_true rfl)
  rw [lg_entry_eq]
  generalize (lg_sl ([.ref q, .int (zi_n p0)]) ++ List.replicate (2 - (lg_sl ([.ref q, .int (zi_n p0)])).length) Slot.unset).toArray = ls at hl ⊢
  have hl : lv_has ls 2 [(0, .ref q), (1, .int (zi_n p0))] := hl
  refine lv_iload_n hx hb dX2_has_0 rfl (lv_at hl 1 rfl) ?_
  refine zr_if_lt (tgt := 25) hx hb dX2_has_1 (by decide) (by omega) (fun c_1 => ?_) (fun c_1 => ?_)
  · refine zr_iconst hx hb dX2_has_25 ?_
    exact W.zret (v := zi_n 0) (ty := .boolean) hx hb hr zl_b0 (fun t ht hW => ⟨_, rfl, zl_f (by omega), ht⟩) (fun q hq => nomatch hq) dX2_has_26
  · refine lv_iload_n hx hb dX2_has_4 rfl (lv_at hl 1 rfl) ?_
    refine lv_aload_n hx hb dX2_has_5 rfl (lv_at hl 0 rfl) ?_
    refine va_get (D := D) (ci := 3) (v := .int (zi_n n)) (C := RX2) (T := TX2) (N := 2) hx hb hts in_X2_has_X2 hown hK hP 0 rfl rfl 1 (by decide) (hts (.fieldLink RX2 15 "ZHeads$Row" "count" "I") (by decide +kernel)) (fun _ h9 => h9) rfl dX2_has_6 ?_
    refine zr_icmp_ge (tgt := 25) hx hb dX2_has_9 (by decide) (by omega) (by omega) (fun c_2 => ?_) (fun c_2 => ?_)
    · refine zr_iconst hx hb dX2_has_25 ?_
      exact W.zret (v := zi_n 0) (ty := .boolean) hx hb hr zl_b0 (fun t ht hW => ⟨_, rfl, zl_f (by omega), ht⟩) (fun q hq => nomatch hq) dX2_has_26
    · refine lv_iload_n hx hb dX2_has_12 rfl (lv_at hl 1 rfl) ?_
      refine lv_aload_n hx hb dX2_has_13 rfl (lv_at hl 0 rfl) ?_
      refine va_get (D := D) (ci := 3) (v := .ref a) (C := RX2) (T := TX2) (N := 2) hx hb hts in_X2_has_X2 hown hK hP 0 rfl rfl 0 (by decide) (hts (.fieldLink RX2 9 "ZHeads$Row" "cells" "[I") (by decide +kernel)) (fun _ h9 => h9) rfl dX2_has_14 ?_
      refine zr_alen hx hb hK hP 1 0 rfl rfl 600 rfl dX2_has_17 ?_
      refine zr_icmp_ge (tgt := 25) hx hb dX2_has_18 (by decide) (by omega) (by omega) (fun c_3 => ?_) (fun c_3 => ?_)
      · refine zr_iconst hx hb dX2_has_25 ?_
        exact W.zret (v := zi_n 0) (ty := .boolean) hx hb hr zl_b0 (fun t ht hW => ⟨_, rfl, zl_f (by omega), ht⟩) (fun q hq => nomatch hq) dX2_has_26
      · refine zr_iconst hx hb dX2_has_21 ?_
        refine lv_goto (tgt := 26) hx hb dX2_has_22 (by decide) ?_
        exact W.zret (v := zi_n 1) (ty := .boolean) hx hb hr zl_b1 (fun t ht hW => ⟨_, rfl, zl_t (by omega), ht⟩) (fun q hq => nomatch hq) dX2_has_26

theorem in_X2_at_X2 : ∀ w ∈ u_ws RX2 TX2 2, w ∈ wsX2_at := by decide +kernel
set_option maxHeartbeats 4000000 in
set_option maxRecDepth 100000 in
theorem c_Row_at_k (l : Launch) (D : va_G) (q a : Nat) (cA : ClassId) (F : Nat → Int) (n : Int) (hF : zi_By F) (hn : 0 ≤ n ∧ n ≤ 600) (p0 : Int) (kk : Nat) (hp : p0 = (kk : Int)) (hq : p0 < n) : Met l yX2_at wsX2_at ({ frames := 0, cells := 0, slots := 0, locals := 0 }) (va_Pc [.ref q, .int (zi_n p0)] (zp_Q D vwCl [(q, .inr (3, [.ref a, .int (zi_n n)])), (a, .inl (cA, 600, .inl (zi_F F)))] [(cA, .int)])) (vp_Si (fun r => r = zi_n (F kk) ∧ 0 ≤ (F kk) ∧ (F kk) ≤ 255)) 0 0 (fun _ => False) := by
  refine Met.ofW (cc := cX2_at) (maxL := 2) (ret := (some .int)) (by decide) rfl ?_
  intro p e s m args below meth c s₁ B hml hv
  obtain ⟨rfl, hP, hK⟩ := hv
  have hx := B.exec
  have hb := B.bytes
  have hr := B.returns
  have hts := atoms_spec (ws := wsX2_at) B.pre
  have hown : s.vm.findClass RX2 = some m.cls := findClass_of_methodNamed B.named
  have hlocks := B.notSynchronized
  have hl := lv_entry ([.ref q, .int (zi_n p0)]) (n := 2) (Nat.le_of_ble_eq_true rfl)
  rw [lg_entry_eq]
  generalize (lg_sl ([.ref q, .int (zi_n p0)]) ++ List.replicate (2 - (lg_sl ([.ref q, .int (zi_n p0)])).length) Slot.unset).toArray = ls at hl ⊢
  have hl : lv_has ls 2 [(0, .ref q), (1, .int (zi_n p0))] := hl
  refine lv_iload_n hx hb dX2_at_0 rfl (lv_at hl 1 rfl) ?_
  refine zr_if_lt (tgt := 30) hx hb dX2_at_1 (by decide) (by omega) (fun c => False.elim (by omega)) (fun c_1 => ?_)
  refine lv_iload_n hx hb dX2_at_4 rfl (lv_at hl 1 rfl) ?_
  refine lv_aload_n hx hb dX2_at_5 rfl (lv_at hl 0 rfl) ?_
  refine va_get (D := D) (ci := 3) (v := .int (zi_n n)) (C := RX2) (T := TX2) (N := 2) hx hb hts in_X2_at_X2 hown hK hP 0 rfl rfl 1 (by decide) (hts (.fieldLink RX2 15 "ZHeads$Row" "count" "I") (by decide +kernel)) (fun _ h9 => h9) rfl dX2_at_6 ?_
  refine zr_icmp_ge (tgt := 30) hx hb dX2_at_9 (by decide) (by omega) (by omega) (fun c => False.elim (by omega)) (fun c_2 => ?_)
  refine lv_iload_n hx hb dX2_at_12 rfl (lv_at hl 1 rfl) ?_
  refine lv_aload_n hx hb dX2_at_13 rfl (lv_at hl 0 rfl) ?_
  refine va_get (D := D) (ci := 3) (v := .ref a) (C := RX2) (T := TX2) (N := 2) hx hb hts in_X2_at_X2 hown hK hP 0 rfl rfl 0 (by decide) (hts (.fieldLink RX2 9 "ZHeads$Row" "cells" "[I") (by decide +kernel)) (fun _ h9 => h9) rfl dX2_at_14 ?_
  refine zr_alen hx hb hK hP 1 0 rfl rfl 600 rfl dX2_at_17 ?_
  refine zr_icmp_ge (tgt := 30) hx hb dX2_at_18 (by decide) (by omega) (by omega) (fun c => False.elim (by omega)) (fun c_3 => ?_)
  refine lv_aload_n hx hb dX2_at_21 rfl (lv_at hl 0 rfl) ?_
  refine va_get (D := D) (ci := 3) (v := .ref a) (C := RX2) (T := TX2) (N := 2) hx hb hts in_X2_at_X2 hown hK hP 0 rfl rfl 0 (by decide) (hts (.fieldLink RX2 9 "ZHeads$Row" "cells" "[I") (by decide +kernel)) (fun _ h9 => h9) rfl dX2_at_22 ?_
  refine lv_iload_n hx hb dX2_at_25 rfl (lv_at hl 1 rfl) ?_
  refine zr_iald hx hb hK hP 1 0 rfl rfl (by decide) (by omega) dX2_at_26 ?_
  have b_4 := hF p0.toNat
  refine lv_goto (tgt := 31) hx hb dX2_at_27 (by decide) ?_
  exact W.iret (v := zi_n (F p0.toNat)) hx hb hr (fun t ht hW => ⟨_, rfl, zl_r (by rw [show p0.toNat = kk by omega]) (by omega), ht⟩) (fun q hq => nomatch hq) dX2_at_31

set_option maxHeartbeats 4000000 in
set_option maxRecDepth 100000 in
theorem c_Row_at (l : Launch) (D : va_G) (q a : Nat) (cA : ClassId) (F : Nat → Int) (n : Int) (hF : zi_By F) (hn : 0 ≤ n ∧ n ≤ 600) (p0 : Int) (hp : zi_R p0) : Met l yX2_at wsX2_at ({ frames := 0, cells := 0, slots := 0, locals := 0 }) (va_Pc [.ref q, .int (zi_n p0)] (zp_Q D vwCl [(q, .inr (3, [.ref a, .int (zi_n n)])), (a, .inl (cA, 600, .inl (zi_F F)))] [(cA, .int)])) (vp_Si (fun r => r = zi_n (zh_at F n p0) ∧ -1 ≤ (zh_at F n p0) ∧ (zh_at F n p0) ≤ 255)) 0 0 (fun _ => False) := by
  refine Met.ofW (cc := cX2_at) (maxL := 2) (ret := (some .int)) (by decide) rfl ?_
  intro p e s m args below meth c s₁ B hml hv
  obtain ⟨rfl, hP, hK⟩ := hv
  have hx := B.exec
  have hb := B.bytes
  have hr := B.returns
  have hts := atoms_spec (ws := wsX2_at) B.pre
  have hown : s.vm.findClass RX2 = some m.cls := findClass_of_methodNamed B.named
  have hlocks := B.notSynchronized
  have hl := lv_entry ([.ref q, .int (zi_n p0)]) (n := 2) (Nat.le_of_ble_eq_true rfl)
  rw [lg_entry_eq]
  generalize (lg_sl ([.ref q, .int (zi_n p0)]) ++ List.replicate (2 - (lg_sl ([.ref q, .int (zi_n p0)])).length) Slot.unset).toArray = ls at hl ⊢
  have hl : lv_has ls 2 [(0, .ref q), (1, .int (zi_n p0))] := hl
  refine lv_iload_n hx hb dX2_at_0 rfl (lv_at hl 1 rfl) ?_
  refine zr_if_lt (tgt := 30) hx hb dX2_at_1 (by decide) (by omega) (fun c_1 => ?_) (fun c_1 => ?_)
  · refine zr_iconst hx hb dX2_at_30 ?_
    exact W.iret (v := zi_n (-1)) hx hb hr (fun t ht hW => ⟨_, rfl, zl_r (by unfold zh_at; split <;> omega) (by omega), ht⟩) (fun q hq => nomatch hq) dX2_at_31
  · refine lv_iload_n hx hb dX2_at_4 rfl (lv_at hl 1 rfl) ?_
    refine lv_aload_n hx hb dX2_at_5 rfl (lv_at hl 0 rfl) ?_
    refine va_get (D := D) (ci := 3) (v := .int (zi_n n)) (C := RX2) (T := TX2) (N := 2) hx hb hts in_X2_at_X2 hown hK hP 0 rfl rfl 1 (by decide) (hts (.fieldLink RX2 15 "ZHeads$Row" "count" "I") (by decide +kernel)) (fun _ h9 => h9) rfl dX2_at_6 ?_
    refine zr_icmp_ge (tgt := 30) hx hb dX2_at_9 (by decide) (by omega) (by omega) (fun c_2 => ?_) (fun c_2 => ?_)
    · refine zr_iconst hx hb dX2_at_30 ?_
      exact W.iret (v := zi_n (-1)) hx hb hr (fun t ht hW => ⟨_, rfl, zl_r (by unfold zh_at; split <;> omega) (by omega), ht⟩) (fun q hq => nomatch hq) dX2_at_31
    · refine lv_iload_n hx hb dX2_at_12 rfl (lv_at hl 1 rfl) ?_
      refine lv_aload_n hx hb dX2_at_13 rfl (lv_at hl 0 rfl) ?_
      refine va_get (D := D) (ci := 3) (v := .ref a) (C := RX2) (T := TX2) (N := 2) hx hb hts in_X2_at_X2 hown hK hP 0 rfl rfl 0 (by decide) (hts (.fieldLink RX2 9 "ZHeads$Row" "cells" "[I") (by decide +kernel)) (fun _ h9 => h9) rfl dX2_at_14 ?_
      refine zr_alen hx hb hK hP 1 0 rfl rfl 600 rfl dX2_at_17 ?_
      refine zr_icmp_ge (tgt := 30) hx hb dX2_at_18 (by decide) (by omega) (by omega) (fun c_3 => ?_) (fun c_3 => ?_)
      · refine zr_iconst hx hb dX2_at_30 ?_
        exact W.iret (v := zi_n (-1)) hx hb hr (fun t ht hW => ⟨_, rfl, zl_r (by unfold zh_at; split <;> omega) (by omega), ht⟩) (fun q hq => nomatch hq) dX2_at_31
      · refine lv_aload_n hx hb dX2_at_21 rfl (lv_at hl 0 rfl) ?_
        refine va_get (D := D) (ci := 3) (v := .ref a) (C := RX2) (T := TX2) (N := 2) hx hb hts in_X2_at_X2 hown hK hP 0 rfl rfl 0 (by decide) (hts (.fieldLink RX2 9 "ZHeads$Row" "cells" "[I") (by decide +kernel)) (fun _ h9 => h9) rfl dX2_at_22 ?_
        refine lv_iload_n hx hb dX2_at_25 rfl (lv_at hl 1 rfl) ?_
        refine zr_iald hx hb hK hP 1 0 rfl rfl (by decide) (by omega) dX2_at_26 ?_
        have b_4 := hF p0.toNat
        refine lv_goto (tgt := 31) hx hb dX2_at_27 (by decide) ?_
        exact W.iret (v := zi_n (F p0.toNat)) hx hb hr (fun t ht hW => ⟨_, rfl, zl_r (by unfold zh_at; split <;> omega) (by omega), ht⟩) (fun q hq => nomatch hq) dX2_at_31

theorem in_X2_two_X2 : ∀ w ∈ u_ws RX2 TX2 2, w ∈ wsX2_two := by decide +kernel
set_option maxHeartbeats 4000000 in
set_option maxRecDepth 100000 in
theorem c_Row_two_k (l : Launch) (D : va_G) (q a : Nat) (cA : ClassId) (F : Nat → Int) (n : Int) (hF : zi_By F) (hn : 0 ≤ n ∧ n ≤ 600) (p0 : Int) (kk : Nat) (hp : p0 = (kk : Int)) (hq : p0 + 1 < n) : Met l yX2_two wsX2_two ({ frames := 0, cells := 0, slots := 0, locals := 0 }) (va_Pc [.ref q, .int (zi_n p0)] (zp_Q D vwCl [(q, .inr (3, [.ref a, .int (zi_n n)])), (a, .inl (cA, 600, .inl (zi_F F)))] [(cA, .int)])) (vp_Si (fun r => r = zi_n (zh_t F kk) ∧ 0 ≤ (zh_t F kk) ∧ (zh_t F kk) ≤ 65535)) 0 0 (fun _ => False) := by
  refine Met.ofW (cc := cX2_two) (maxL := 2) (ret := (some .int)) (by decide) rfl ?_
  intro p e s m args below meth c s₁ B hml hv
  obtain ⟨rfl, hP, hK⟩ := hv
  have hx := B.exec
  have hb := B.bytes
  have hr := B.returns
  have hts := atoms_spec (ws := wsX2_two) B.pre
  have hown : s.vm.findClass RX2 = some m.cls := findClass_of_methodNamed B.named
  have hlocks := B.notSynchronized
  have hl := lv_entry ([.ref q, .int (zi_n p0)]) (n := 2) (Nat.le_of_ble_eq_true rfl)
  rw [lg_entry_eq]
  generalize (lg_sl ([.ref q, .int (zi_n p0)]) ++ List.replicate (2 - (lg_sl ([.ref q, .int (zi_n p0)])).length) Slot.unset).toArray = ls at hl ⊢
  have hl : lv_has ls 2 [(0, .ref q), (1, .int (zi_n p0))] := hl
  refine lv_iload_n hx hb dX2_two_0 rfl (lv_at hl 1 rfl) ?_
  refine zr_if_lt (tgt := 25) hx hb dX2_two_1 (by decide) (by omega) (fun c => False.elim (by omega)) (fun c_1 => ?_)
  refine lv_iload_n hx hb dX2_two_4 rfl (lv_at hl 1 rfl) ?_
  refine lv_aload_n hx hb dX2_two_5 rfl (lv_at hl 0 rfl) ?_
  refine va_get (D := D) (ci := 3) (v := .int (zi_n n)) (C := RX2) (T := TX2) (N := 2) hx hb hts in_X2_two_X2 hown hK hP 0 rfl rfl 1 (by decide) (hts (.fieldLink RX2 15 "ZHeads$Row" "count" "I") (by decide +kernel)) (fun _ h9 => h9) rfl dX2_two_6 ?_
  refine zr_iconst hx hb dX2_two_9 ?_
  refine zr_isub hx hb dX2_two_10 ?_
  refine zr_icmp_ge (tgt := 25) hx hb dX2_two_11 (by decide) (by omega) (by omega) (fun c => False.elim (by omega)) (fun c_2 => ?_)
  refine lv_iload_n hx hb dX2_two_14 rfl (lv_at hl 1 rfl) ?_
  refine lv_aload_n hx hb dX2_two_15 rfl (lv_at hl 0 rfl) ?_
  refine va_get (D := D) (ci := 3) (v := .ref a) (C := RX2) (T := TX2) (N := 2) hx hb hts in_X2_two_X2 hown hK hP 0 rfl rfl 0 (by decide) (hts (.fieldLink RX2 9 "ZHeads$Row" "cells" "[I") (by decide +kernel)) (fun _ h9 => h9) rfl dX2_two_16 ?_
  refine zr_alen hx hb hK hP 1 0 rfl rfl 600 rfl dX2_two_19 ?_
  refine zr_iconst hx hb dX2_two_20 ?_
  refine zr_isub hx hb dX2_two_21 ?_
  refine zr_icmp_lt (tgt := 27) hx hb dX2_two_22 (by decide) (by omega) (by omega) (fun c_3 => ?_) (fun c => False.elim (by omega))
  refine lv_aload_n hx hb dX2_two_27 rfl (lv_at hl 0 rfl) ?_
  refine va_get (D := D) (ci := 3) (v := .ref a) (C := RX2) (T := TX2) (N := 2) hx hb hts in_X2_two_X2 hown hK hP 0 rfl rfl 0 (by decide) (hts (.fieldLink RX2 9 "ZHeads$Row" "cells" "[I") (by decide +kernel)) (fun _ h9 => h9) rfl dX2_two_28 ?_
  refine lv_iload_n hx hb dX2_two_31 rfl (lv_at hl 1 rfl) ?_
  refine zr_iald hx hb hK hP 1 0 rfl rfl (by decide) (by omega) dX2_two_32 ?_
  have b_4 := hF p0.toNat
  refine zr_sipush hx hb dX2_two_33 (by decide) ?_
  refine zr_imul hx hb dX2_two_36 ?_
  refine lv_aload_n hx hb dX2_two_37 rfl (lv_at hl 0 rfl) ?_
  refine va_get (D := D) (ci := 3) (v := .ref a) (C := RX2) (T := TX2) (N := 2) hx hb hts in_X2_two_X2 hown hK hP 0 rfl rfl 0 (by decide) (hts (.fieldLink RX2 9 "ZHeads$Row" "cells" "[I") (by decide +kernel)) (fun _ h9 => h9) rfl dX2_two_38 ?_
  refine lv_iload_n hx hb dX2_two_41 rfl (lv_at hl 1 rfl) ?_
  refine zr_iconst hx hb dX2_two_42 ?_
  refine zr_iadd hx hb dX2_two_43 ?_
  refine zr_iald hx hb hK hP 1 0 rfl rfl (by decide) (by omega) dX2_two_44 ?_
  have b_5 := hF (p0 + 1).toNat
  refine zr_iadd hx hb dX2_two_45 ?_
  exact W.iret (v := zi_n (((F p0.toNat) * 256) + (F (p0 + 1).toNat))) hx hb hr (fun t ht hW => ⟨_, rfl, zl_r (by rw [show p0.toNat = kk by omega, show (p0 + 1).toNat = kk + 1 by omega]; rfl) (by omega), ht⟩) (fun q hq => nomatch hq) dX2_two_46

set_option maxHeartbeats 4000000 in
set_option maxRecDepth 100000 in
theorem c_Row_two (l : Launch) (D : va_G) (q a : Nat) (cA : ClassId) (F : Nat → Int) (n : Int) (hF : zi_By F) (hn : 0 ≤ n ∧ n ≤ 600) (p0 : Int) (hp : zi_R p0) : Met l yX2_two wsX2_two ({ frames := 0, cells := 0, slots := 0, locals := 0 }) (va_Pc [.ref q, .int (zi_n p0)] (zp_Q D vwCl [(q, .inr (3, [.ref a, .int (zi_n n)])), (a, .inl (cA, 600, .inl (zi_F F)))] [(cA, .int)])) (vp_Si (fun r => r = zi_n (zh_two F n p0) ∧ -1 ≤ (zh_two F n p0) ∧ (zh_two F n p0) ≤ 65535)) 0 0 (fun _ => False) := by
  refine Met.ofW (cc := cX2_two) (maxL := 2) (ret := (some .int)) (by decide) rfl ?_
  intro p e s m args below meth c s₁ B hml hv
  obtain ⟨rfl, hP, hK⟩ := hv
  have hx := B.exec
  have hb := B.bytes
  have hr := B.returns
  have hts := atoms_spec (ws := wsX2_two) B.pre
  have hown : s.vm.findClass RX2 = some m.cls := findClass_of_methodNamed B.named
  have hlocks := B.notSynchronized
  have hl := lv_entry ([.ref q, .int (zi_n p0)]) (n := 2) (Nat.le_of_ble_eq_true rfl)
  rw [lg_entry_eq]
  generalize (lg_sl ([.ref q, .int (zi_n p0)]) ++ List.replicate (2 - (lg_sl ([.ref q, .int (zi_n p0)])).length) Slot.unset).toArray = ls at hl ⊢
  have hl : lv_has ls 2 [(0, .ref q), (1, .int (zi_n p0))] := hl
  refine lv_iload_n hx hb dX2_two_0 rfl (lv_at hl 1 rfl) ?_
  refine zr_if_lt (tgt := 25) hx hb dX2_two_1 (by decide) (by omega) (fun c_1 => ?_) (fun c_1 => ?_)
  · refine zr_iconst hx hb dX2_two_25 ?_
    exact W.iret (v := zi_n (-1)) hx hb hr (fun t ht hW => ⟨_, rfl, zl_r (by unfold zh_two; split <;> omega) (by omega), ht⟩) (fun q hq => nomatch hq) dX2_two_26
  · refine lv_iload_n hx hb dX2_two_4 rfl (lv_at hl 1 rfl) ?_
    refine lv_aload_n hx hb dX2_two_5 rfl (lv_at hl 0 rfl) ?_
    refine va_get (D := D) (ci := 3) (v := .int (zi_n n)) (C := RX2) (T := TX2) (N := 2) hx hb hts in_X2_two_X2 hown hK hP 0 rfl rfl 1 (by decide) (hts (.fieldLink RX2 15 "ZHeads$Row" "count" "I") (by decide +kernel)) (fun _ h9 => h9) rfl dX2_two_6 ?_
    refine zr_iconst hx hb dX2_two_9 ?_
    refine zr_isub hx hb dX2_two_10 ?_
    refine zr_icmp_ge (tgt := 25) hx hb dX2_two_11 (by decide) (by omega) (by omega) (fun c_2 => ?_) (fun c_2 => ?_)
    · refine zr_iconst hx hb dX2_two_25 ?_
      exact W.iret (v := zi_n (-1)) hx hb hr (fun t ht hW => ⟨_, rfl, zl_r (by unfold zh_two; split <;> omega) (by omega), ht⟩) (fun q hq => nomatch hq) dX2_two_26
    · refine lv_iload_n hx hb dX2_two_14 rfl (lv_at hl 1 rfl) ?_
      refine lv_aload_n hx hb dX2_two_15 rfl (lv_at hl 0 rfl) ?_
      refine va_get (D := D) (ci := 3) (v := .ref a) (C := RX2) (T := TX2) (N := 2) hx hb hts in_X2_two_X2 hown hK hP 0 rfl rfl 0 (by decide) (hts (.fieldLink RX2 9 "ZHeads$Row" "cells" "[I") (by decide +kernel)) (fun _ h9 => h9) rfl dX2_two_16 ?_
      refine zr_alen hx hb hK hP 1 0 rfl rfl 600 rfl dX2_two_19 ?_
      refine zr_iconst hx hb dX2_two_20 ?_
      refine zr_isub hx hb dX2_two_21 ?_
      refine zr_icmp_lt (tgt := 27) hx hb dX2_two_22 (by decide) (by omega) (by omega) (fun c_3 => ?_) (fun c_3 => ?_)
      · refine lv_aload_n hx hb dX2_two_27 rfl (lv_at hl 0 rfl) ?_
        refine va_get (D := D) (ci := 3) (v := .ref a) (C := RX2) (T := TX2) (N := 2) hx hb hts in_X2_two_X2 hown hK hP 0 rfl rfl 0 (by decide) (hts (.fieldLink RX2 9 "ZHeads$Row" "cells" "[I") (by decide +kernel)) (fun _ h9 => h9) rfl dX2_two_28 ?_
        refine lv_iload_n hx hb dX2_two_31 rfl (lv_at hl 1 rfl) ?_
        refine zr_iald hx hb hK hP 1 0 rfl rfl (by decide) (by omega) dX2_two_32 ?_
        have b_4 := hF p0.toNat
        refine zr_sipush hx hb dX2_two_33 (by decide) ?_
        refine zr_imul hx hb dX2_two_36 ?_
        refine lv_aload_n hx hb dX2_two_37 rfl (lv_at hl 0 rfl) ?_
        refine va_get (D := D) (ci := 3) (v := .ref a) (C := RX2) (T := TX2) (N := 2) hx hb hts in_X2_two_X2 hown hK hP 0 rfl rfl 0 (by decide) (hts (.fieldLink RX2 9 "ZHeads$Row" "cells" "[I") (by decide +kernel)) (fun _ h9 => h9) rfl dX2_two_38 ?_
        refine lv_iload_n hx hb dX2_two_41 rfl (lv_at hl 1 rfl) ?_
        refine zr_iconst hx hb dX2_two_42 ?_
        refine zr_iadd hx hb dX2_two_43 ?_
        refine zr_iald hx hb hK hP 1 0 rfl rfl (by decide) (by omega) dX2_two_44 ?_
        have b_5 := hF (p0 + 1).toNat
        refine zr_iadd hx hb dX2_two_45 ?_
        exact W.iret (v := zi_n (((F p0.toNat) * 256) + (F (p0 + 1).toNat))) hx hb hr (fun t ht hW => ⟨_, rfl, zl_r (by unfold zh_two; split <;> omega) (by omega), ht⟩) (fun q hq => nomatch hq) dX2_two_46
      · refine zr_iconst hx hb dX2_two_25 ?_
        exact W.iret (v := zi_n (-1)) hx hb hr (fun t ht hW => ⟨_, rfl, zl_r (by unfold zh_two; split <;> omega) (by omega), ht⟩) (fun q hq => nomatch hq) dX2_two_26

set_option maxHeartbeats 4000000 in
set_option maxRecDepth 100000 in
theorem c_M_in (l : Launch) (p0 : Int) (p1 : Int) (p2 : Int) (rp0 : zi_R p0) (rp1 : zi_R p1) (rp2 : zi_R p2) : Met l yX4_in wsX4_in ({ frames := 0, cells := 0, slots := 0, locals := 0 }) (va_Pc [.int (zi_n p0), .int (zi_n p1), .int (zi_n p2)] (fun _ => True)) (vp_Si (fun r => (r = zi_n 1 ∧ (p1 ≤ p0 ∧ p0 ≤ p2)) ∨ (r = zi_n 0 ∧ ¬ (p1 ≤ p0 ∧ p0 ≤ p2)))) 0 0 (fun _ => False) := by
  refine Met.ofW (cc := cX4_in) (maxL := 3) (ret := (some .boolean)) (by decide) rfl ?_
  intro p e s m args below meth c s₁ B hml hv
  obtain ⟨rfl, -⟩ := hv
  have hx := B.exec
  have hb := B.bytes
  have hr := B.returns
  have hts := atoms_spec (ws := wsX4_in) B.pre
  have hown : s.vm.findClass RX4 = some m.cls := findClass_of_methodNamed B.named
  have hlocks := B.notSynchronized
  have hl := lv_entry ([.int (zi_n p0), .int (zi_n p1), .int (zi_n p2)]) (n := 3) (Nat.le_of_ble_eq_true rfl)
  rw [lg_entry_eq]
  generalize (lg_sl ([.int (zi_n p0), .int (zi_n p1), .int (zi_n p2)]) ++ List.replicate (3 - (lg_sl ([.int (zi_n p0), .int (zi_n p1), .int (zi_n p2)])).length) Slot.unset).toArray = ls at hl ⊢
  have hl : lv_has ls 3 [(0, .int (zi_n p0)), (1, .int (zi_n p1)), (2, .int (zi_n p2))] := hl
  refine lv_iload_n hx hb dX4_in_0 rfl (lv_at hl 0 rfl) ?_
  refine lv_iload_n hx hb dX4_in_1 rfl (lv_at hl 1 rfl) ?_
  refine zr_icmp_lt (tgt := 14) hx hb dX4_in_2 (by decide) (by omega) (by omega) (fun c_1 => ?_) (fun c_1 => ?_)
  · refine zr_iconst hx hb dX4_in_14 ?_
    exact W.zret (v := zi_n 0) (ty := .boolean) hx hb hr zl_b0 (fun t ht hW => ⟨_, rfl, zl_f (by omega), ht⟩) (fun q hq => nomatch hq) dX4_in_15
  · refine lv_iload_n hx hb dX4_in_5 rfl (lv_at hl 0 rfl) ?_
    refine lv_iload_n hx hb dX4_in_6 rfl (lv_at hl 2 rfl) ?_
    refine zr_icmp_gt (tgt := 14) hx hb dX4_in_7 (by decide) (by omega) (by omega) (fun c_2 => ?_) (fun c_2 => ?_)
    · refine zr_iconst hx hb dX4_in_14 ?_
      exact W.zret (v := zi_n 0) (ty := .boolean) hx hb hr zl_b0 (fun t ht hW => ⟨_, rfl, zl_f (by omega), ht⟩) (fun q hq => nomatch hq) dX4_in_15
    · refine zr_iconst hx hb dX4_in_10 ?_
      refine lv_goto (tgt := 15) hx hb dX4_in_11 (by decide) ?_
      exact W.zret (v := zi_n 1) (ty := .boolean) hx hb hr zl_b1 (fun t ht hW => ⟨_, rfl, zl_t (by omega), ht⟩) (fun q hq => nomatch hq) dX4_in_15

set_option maxHeartbeats 4000000 in
set_option maxRecDepth 100000 in
theorem c_M_scaleOf (l : Launch) (p0 : Int) (rp0 : zi_R p0) : Met l yX4_scaleOf wsX4_scaleOf ({ frames := 0, cells := 0, slots := 0, locals := 0 }) (va_Pc [.int (zi_n p0)] (fun _ => True)) (vp_Si (fun r => r = zi_n (zh_scale p0) ∧ 2 ≤ (zh_scale p0) ∧ (zh_scale p0) ≤ 8)) 0 0 (fun _ => False) := by
  refine Met.ofW (cc := cX4_scaleOf) (maxL := 1) (ret := (some .int)) (by decide) rfl ?_
  intro p e s m args below meth c s₁ B hml hv
  obtain ⟨rfl, -⟩ := hv
  have hx := B.exec
  have hb := B.bytes
  have hr := B.returns
  have hts := atoms_spec (ws := wsX4_scaleOf) B.pre
  have hown : s.vm.findClass RX4 = some m.cls := findClass_of_methodNamed B.named
  have hlocks := B.notSynchronized
  have hl := lv_entry ([.int (zi_n p0)]) (n := 1) (Nat.le_of_ble_eq_true rfl)
  rw [lg_entry_eq]
  generalize (lg_sl ([.int (zi_n p0)]) ++ List.replicate (1 - (lg_sl ([.int (zi_n p0)])).length) Slot.unset).toArray = ls at hl ⊢
  have hl : lv_has ls 1 [(0, .int (zi_n p0))] := hl
  refine lv_iload_n hx hb dX4_scaleOf_0 rfl (lv_at hl 0 rfl) ?_
  refine zr_iconst hx hb dX4_scaleOf_1 ?_
  refine zr_icmp_ge (tgt := 9) hx hb dX4_scaleOf_2 (by decide) (by omega) (by omega) (fun c_1 => ?_) (fun c_1 => ?_)
  · refine lv_iload_n hx hb dX4_scaleOf_9 rfl (lv_at hl 0 rfl) ?_
    refine zr_bipush hx hb dX4_scaleOf_10 (by decide) ?_
    refine zr_icmp_ge (tgt := 19) hx hb dX4_scaleOf_12 (by decide) (by omega) (by omega) (fun c_2 => ?_) (fun c_2 => ?_)
    · refine zr_bipush hx hb dX4_scaleOf_19 (by decide) ?_
      exact W.iret (v := zi_n 8) hx hb hr (fun t ht hW => ⟨_, rfl, zl_r (by unfold zh_scale; (repeat' split) <;> omega) (by omega), ht⟩) (fun q hq => nomatch hq) dX4_scaleOf_21
    · refine zr_iconst hx hb dX4_scaleOf_15 ?_
      refine lv_goto (tgt := 21) hx hb dX4_scaleOf_16 (by decide) ?_
      exact W.iret (v := zi_n 4) hx hb hr (fun t ht hW => ⟨_, rfl, zl_r (by unfold zh_scale; (repeat' split) <;> omega) (by omega), ht⟩) (fun q hq => nomatch hq) dX4_scaleOf_21
  · refine zr_iconst hx hb dX4_scaleOf_5 ?_
    refine lv_goto (tgt := 21) hx hb dX4_scaleOf_6 (by decide) ?_
    exact W.iret (v := zi_n 2) hx hb hr (fun t ht hW => ⟨_, rfl, zl_r (by unfold zh_scale; (repeat' split) <;> omega) (by omega), ht⟩) (fun q hq => nomatch hq) dX4_scaleOf_21

set_option maxHeartbeats 4000000 in
set_option maxRecDepth 100000 in
theorem c_M_fits (l : Launch) (p0 : Int) (p1 : Int) (p2 : Int) (rp0 : zi_R p0) (rp1 : zi_R p1) (rp2 : zi_R p2) (h3 : zi_R (p0 + p1)) : Met l yX4_fits wsX4_fits ({ frames := 0, cells := 0, slots := 0, locals := 0 }) (va_Pc [.int (zi_n p0), .int (zi_n p1), .int (zi_n p2)] (fun _ => True)) (vp_Si (fun r => (r = zi_n 1 ∧ (64 ≤ p0 ∧ p0 + p1 ≤ p2)) ∨ (r = zi_n 0 ∧ ¬ (64 ≤ p0 ∧ p0 + p1 ≤ p2)))) 0 0 (fun _ => False) := by
  refine Met.ofW (cc := cX4_fits) (maxL := 3) (ret := (some .boolean)) (by decide) rfl ?_
  intro p e s m args below meth c s₁ B hml hv
  obtain ⟨rfl, -⟩ := hv
  have hx := B.exec
  have hb := B.bytes
  have hr := B.returns
  have hts := atoms_spec (ws := wsX4_fits) B.pre
  have hown : s.vm.findClass RX4 = some m.cls := findClass_of_methodNamed B.named
  have hlocks := B.notSynchronized
  have hl := lv_entry ([.int (zi_n p0), .int (zi_n p1), .int (zi_n p2)]) (n := 3) (Nat.le_of_ble_eq_true rfl)
  rw [lg_entry_eq]
  generalize (lg_sl ([.int (zi_n p0), .int (zi_n p1), .int (zi_n p2)]) ++ List.replicate (3 - (lg_sl ([.int (zi_n p0), .int (zi_n p1), .int (zi_n p2)])).length) Slot.unset).toArray = ls at hl ⊢
  have hl : lv_has ls 3 [(0, .int (zi_n p0)), (1, .int (zi_n p1)), (2, .int (zi_n p2))] := hl
  refine lv_iload_n hx hb dX4_fits_0 rfl (lv_at hl 0 rfl) ?_
  refine zr_bipush hx hb dX4_fits_1 (by decide) ?_
  refine zr_icmp_lt (tgt := 17) hx hb dX4_fits_3 (by decide) (by omega) (by omega) (fun c_1 => ?_) (fun c_1 => ?_)
  · refine zr_iconst hx hb dX4_fits_17 ?_
    exact W.zret (v := zi_n 0) (ty := .boolean) hx hb hr zl_b0 (fun t ht hW => ⟨_, rfl, zl_f (by omega), ht⟩) (fun q hq => nomatch hq) dX4_fits_18
  · refine lv_iload_n hx hb dX4_fits_6 rfl (lv_at hl 0 rfl) ?_
    refine lv_iload_n hx hb dX4_fits_7 rfl (lv_at hl 1 rfl) ?_
    refine zr_iadd hx hb dX4_fits_8 ?_
    refine lv_iload_n hx hb dX4_fits_9 rfl (lv_at hl 2 rfl) ?_
    refine zr_icmp_gt (tgt := 17) hx hb dX4_fits_10 (by decide) (by omega) (by omega) (fun c_2 => ?_) (fun c_2 => ?_)
    · refine zr_iconst hx hb dX4_fits_17 ?_
      exact W.zret (v := zi_n 0) (ty := .boolean) hx hb hr zl_b0 (fun t ht hW => ⟨_, rfl, zl_f (by omega), ht⟩) (fun q hq => nomatch hq) dX4_fits_18
    · refine zr_iconst hx hb dX4_fits_13 ?_
      refine lv_goto (tgt := 18) hx hb dX4_fits_14 (by decide) ?_
      exact W.zret (v := zi_n 1) (ty := .boolean) hx hb hr zl_b1 (fun t ht hW => ⟨_, rfl, zl_t (by omega), ht⟩) (fun q hq => nomatch hq) dX4_fits_18

set_option maxHeartbeats 4000000 in
set_option maxRecDepth 100000 in
theorem c_M_isFlag (l : Launch) (p0 : Int) (p1 : Int) (rp0 : zi_R p0) (rp1 : zi_R p1) : Met l yX4_isFlag wsX4_isFlag ({ frames := 1, cells := 0, slots := 0, locals := 22 }) (va_Pc [.int (zi_n p0), .int (zi_n p1)] (fun _ => True)) (vp_Si (fun r => (r = zi_n 1 ∧ (zh_isF p0 p1)) ∨ (r = zi_n 0 ∧ ¬ (zh_isF p0 p1)))) 0 0 (fun _ => False) := by
  refine Met.ofW (cc := cX4_isFlag) (maxL := 2) (ret := (some .boolean)) (by decide) rfl ?_
  intro p e s m args below meth c s₁ B hml hv
  obtain ⟨rfl, -⟩ := hv
  have hx := B.exec
  have hb := B.bytes
  have hr := B.returns
  have hts := atoms_spec (ws := wsX4_isFlag) B.pre
  have hown : s.vm.findClass RX4 = some m.cls := findClass_of_methodNamed B.named
  have hlocks := B.notSynchronized
  have hl := lv_entry ([.int (zi_n p0), .int (zi_n p1)]) (n := 2) (Nat.le_of_ble_eq_true rfl)
  rw [lg_entry_eq]
  generalize (lg_sl ([.int (zi_n p0), .int (zi_n p1)]) ++ List.replicate (2 - (lg_sl ([.int (zi_n p0), .int (zi_n p1)])).length) Slot.unset).toArray = ls at hl ⊢
  have hl : lv_has ls 2 [(0, .int (zi_n p0)), (1, .int (zi_n p1))] := hl
  refine lv_iload_n hx hb dX4_isFlag_0 rfl (lv_at hl 0 rfl) ?_
  refine zr_iconst hx hb dX4_isFlag_1 ?_
  refine zr_icmp_ne (tgt := 15) hx hb dX4_isFlag_2 (by decide) (by omega) (by omega) (fun c_1 => ?_) (fun c_1 => ?_)
  · refine lv_iload_n hx hb dX4_isFlag_15 rfl (lv_at hl 0 rfl) ?_
    refine zr_iconst hx hb dX4_isFlag_16 ?_
    refine zr_icmp_ne (tgt := 34) hx hb dX4_isFlag_17 (by decide) (by omega) (by omega) (fun c_2 => ?_) (fun c_2 => ?_)
    · refine zr_iconst hx hb dX4_isFlag_34 ?_
      exact W.zret (v := zi_n 0) (ty := .boolean) hx hb hr zl_b0 (fun t ht hW => ⟨_, rfl, zl_f (by unfold zh_isF; omega), ht⟩) (fun q hq => nomatch hq) dX4_isFlag_35
    · refine lv_iload_n hx hb dX4_isFlag_20 rfl (lv_at hl 1 rfl) ?_
      refine zr_iconst hx hb dX4_isFlag_21 ?_
      refine zr_bipush hx hb dX4_isFlag_22 (by decide) ?_
      refine zc_S (As := [.int (zi_n p1), .int (zi_n 0), .int (zi_n 15)]) (rest := []) ⟨hx, hb, hml, hown, hts⟩ (c_M_in l p1 0 15 (by omega) (by omega) (by omega)) (va_cwS 3 hts gX4_isFlag_X4_in rfl rfl rfl (by decide +kernel) ⟨(Nat.le_of_ble_eq_true rfl), (Nat.le_of_ble_eq_true rfl)⟩) rfl hl.1 rfl (Nat.le_of_ble_eq_true rfl) dX4_isFlag_24 ⟨Nat.zero_le _, Nat.zero_le _⟩ (fun r hr1 => ?_)
      rcases hr1 with ⟨rfl, c_3⟩ | ⟨rfl, c_3⟩
      · refine zr_if_eq (tgt := 34) hx hb dX4_isFlag_27 (by decide) (by omega) (fun c => absurd c (by decide)) (fun c_4 => ?_)
        refine zr_iconst hx hb dX4_isFlag_30 ?_
        refine lv_goto (tgt := 35) hx hb dX4_isFlag_31 (by decide) ?_
        exact W.zret (v := zi_n 1) (ty := .boolean) hx hb hr zl_b1 (fun t ht hW => ⟨_, rfl, zl_t (by unfold zh_isF; omega), ht⟩) (fun q hq => nomatch hq) dX4_isFlag_35
      · refine zr_if_eq (tgt := 34) hx hb dX4_isFlag_27 (by decide) (by omega) (fun c_5 => ?_) (fun c => absurd c (by decide))
        refine zr_iconst hx hb dX4_isFlag_34 ?_
        exact W.zret (v := zi_n 0) (ty := .boolean) hx hb hr zl_b0 (fun t ht hW => ⟨_, rfl, zl_f (by unfold zh_isF; omega), ht⟩) (fun q hq => nomatch hq) dX4_isFlag_35
  · refine lv_iload_n hx hb dX4_isFlag_5 rfl (lv_at hl 1 rfl) ?_
    refine zr_iconst hx hb dX4_isFlag_6 ?_
    refine zr_bipush hx hb dX4_isFlag_7 (by decide) ?_
    refine zc_S (As := [.int (zi_n p1), .int (zi_n 0), .int (zi_n 7)]) (rest := []) ⟨hx, hb, hml, hown, hts⟩ (c_M_in l p1 0 7 (by omega) (by omega) (by omega)) (va_cwS 3 hts gX4_isFlag_X4_in rfl rfl rfl (by decide +kernel) ⟨(Nat.le_of_ble_eq_true rfl), (Nat.le_of_ble_eq_true rfl)⟩) rfl hl.1 rfl (Nat.le_of_ble_eq_true rfl) dX4_isFlag_9 ⟨Nat.zero_le _, Nat.zero_le _⟩ (fun r hr1 => ?_)
    rcases hr1 with ⟨rfl, c_6⟩ | ⟨rfl, c_6⟩
    · refine lv_goto (tgt := 35) hx hb dX4_isFlag_12 (by decide) ?_
      exact W.zret (v := zi_n 1) (ty := .boolean) hx hb hr zl_b1 (fun t ht hW => ⟨_, rfl, zl_t (by unfold zh_isF; omega), ht⟩) (fun q hq => nomatch hq) dX4_isFlag_35
    · refine lv_goto (tgt := 35) hx hb dX4_isFlag_12 (by decide) ?_
      exact W.zret (v := zi_n 0) (ty := .boolean) hx hb hr zl_b0 (fun t ht hW => ⟨_, rfl, zl_f (by unfold zh_isF; omega), ht⟩) (fun q hq => nomatch hq) dX4_isFlag_35

set_option maxHeartbeats 4000000 in
set_option maxRecDepth 100000 in
theorem c_M_placeOf (l : Launch) (p0 : Int) (p1 : Int) (rp0 : zi_R p0) (rp1 : zi_R p1) : Met l yX4_placeOf wsX4_placeOf ({ frames := 0, cells := 0, slots := 0, locals := 0 }) (va_Pc [.int (zi_n p0), .int (zi_n p1)] (fun _ => True)) (vp_Si (fun r => r = zi_n (zh_mp p0 p1) ∧ 1 ≤ (zh_mp p0 p1) ∧ (zh_mp p0 p1) ≤ 17)) 0 0 (fun _ => False) := by
  refine Met.ofW (cc := cX4_placeOf) (maxL := 2) (ret := (some .int)) (by decide) rfl ?_
  intro p e s m args below meth c s₁ B hml hv
  obtain ⟨rfl, -⟩ := hv
  have hx := B.exec
  have hb := B.bytes
  have hr := B.returns
  have hts := atoms_spec (ws := wsX4_placeOf) B.pre
  have hown : s.vm.findClass RX4 = some m.cls := findClass_of_methodNamed B.named
  have hlocks := B.notSynchronized
  have hl := lv_entry ([.int (zi_n p0), .int (zi_n p1)]) (n := 2) (Nat.le_of_ble_eq_true rfl)
  rw [lg_entry_eq]
  generalize (lg_sl ([.int (zi_n p0), .int (zi_n p1)]) ++ List.replicate (2 - (lg_sl ([.int (zi_n p0), .int (zi_n p1)])).length) Slot.unset).toArray = ls at hl ⊢
  have hl : lv_has ls 2 [(0, .int (zi_n p0)), (1, .int (zi_n p1))] := hl
  refine lv_iload_n hx hb dX4_placeOf_0 rfl (lv_at hl 0 rfl) ?_
  refine zr_iconst hx hb dX4_placeOf_1 ?_
  refine zr_icmp_ne (tgt := 9) hx hb dX4_placeOf_2 (by decide) (by omega) (by omega) (fun c_1 => ?_) (fun c_1 => ?_)
  · refine lv_iload_n hx hb dX4_placeOf_9 rfl (lv_at hl 1 rfl) ?_
    refine zr_bipush hx hb dX4_placeOf_10 (by decide) ?_
    refine zr_icmp_le (tgt := 20) hx hb dX4_placeOf_12 (by decide) (by omega) (by omega) (fun c_2 => ?_) (fun c_2 => ?_)
    · refine zr_bipush hx hb dX4_placeOf_20 (by decide) ?_
      exact W.iret (v := zi_n 17) hx hb hr (fun t ht hW => ⟨_, rfl, zl_r (by unfold zh_mp; (repeat' split) <;> omega) (by omega), ht⟩) (fun q hq => nomatch hq) dX4_placeOf_22
    · refine zr_bipush hx hb dX4_placeOf_15 (by decide) ?_
      refine lv_goto (tgt := 22) hx hb dX4_placeOf_17 (by decide) ?_
      exact W.iret (v := zi_n 16) hx hb hr (fun t ht hW => ⟨_, rfl, zl_r (by unfold zh_mp; (repeat' split) <;> omega) (by omega), ht⟩) (fun q hq => nomatch hq) dX4_placeOf_22
  · refine zr_iconst hx hb dX4_placeOf_5 ?_
    refine lv_goto (tgt := 22) hx hb dX4_placeOf_6 (by decide) ?_
    exact W.iret (v := zi_n 1) hx hb hr (fun t ht hW => ⟨_, rfl, zl_r (by unfold zh_mp; (repeat' split) <;> omega) (by omega), ht⟩) (fun q hq => nomatch hq) dX4_placeOf_22

set_option maxHeartbeats 4000000 in
set_option maxRecDepth 100000 in
theorem c_M_isWide (l : Launch) (p0 : Int) (rp0 : zi_R p0) : Met l yX4_isWide wsX4_isWide ({ frames := 0, cells := 0, slots := 0, locals := 0 }) (va_Pc [.int (zi_n p0)] (fun _ => True)) (vp_Si (fun r => (r = zi_n 1 ∧ (zh_wide p0)) ∨ (r = zi_n 0 ∧ ¬ (zh_wide p0)))) 0 0 (fun _ => False) := by
  refine Met.ofW (cc := cX4_isWide) (maxL := 1) (ret := (some .boolean)) (by decide) rfl ?_
  intro p e s m args below meth c s₁ B hml hv
  obtain ⟨rfl, -⟩ := hv
  have hx := B.exec
  have hb := B.bytes
  have hr := B.returns
  have hts := atoms_spec (ws := wsX4_isWide) B.pre
  have hown : s.vm.findClass RX4 = some m.cls := findClass_of_methodNamed B.named
  have hlocks := B.notSynchronized
  have hl := lv_entry ([.int (zi_n p0)]) (n := 1) (Nat.le_of_ble_eq_true rfl)
  rw [lg_entry_eq]
  generalize (lg_sl ([.int (zi_n p0)]) ++ List.replicate (1 - (lg_sl ([.int (zi_n p0)])).length) Slot.unset).toArray = ls at hl ⊢
  have hl : lv_has ls 1 [(0, .int (zi_n p0))] := hl
  refine lv_iload_n hx hb dX4_isWide_0 rfl (lv_at hl 0 rfl) ?_
  refine zr_iconst hx hb dX4_isWide_1 ?_
  refine zr_icmp_eq (tgt := 16) hx hb dX4_isWide_2 (by decide) (by omega) (by omega) (fun c_1 => ?_) (fun c_1 => ?_)
  · refine zr_iconst hx hb dX4_isWide_16 ?_
    refine lv_goto (tgt := 21) hx hb dX4_isWide_17 (by decide) ?_
    exact W.zret (v := zi_n 1) (ty := .boolean) hx hb hr zl_b1 (fun t ht hW => ⟨_, rfl, zl_t (by unfold zh_wide; omega), ht⟩) (fun q hq => nomatch hq) dX4_isWide_21
  · refine lv_iload_n hx hb dX4_isWide_5 rfl (lv_at hl 0 rfl) ?_
    refine zr_iconst hx hb dX4_isWide_6 ?_
    refine zr_icmp_eq (tgt := 16) hx hb dX4_isWide_7 (by decide) (by omega) (by omega) (fun c_2 => ?_) (fun c_2 => ?_)
    · refine zr_iconst hx hb dX4_isWide_16 ?_
      refine lv_goto (tgt := 21) hx hb dX4_isWide_17 (by decide) ?_
      exact W.zret (v := zi_n 1) (ty := .boolean) hx hb hr zl_b1 (fun t ht hW => ⟨_, rfl, zl_t (by unfold zh_wide; omega), ht⟩) (fun q hq => nomatch hq) dX4_isWide_21
    · refine lv_iload_n hx hb dX4_isWide_10 rfl (lv_at hl 0 rfl) ?_
      refine zr_bipush hx hb dX4_isWide_11 (by decide) ?_
      refine zr_icmp_ne (tgt := 20) hx hb dX4_isWide_13 (by decide) (by omega) (by omega) (fun c_3 => ?_) (fun c_3 => ?_)
      · refine zr_iconst hx hb dX4_isWide_20 ?_
        exact W.zret (v := zi_n 0) (ty := .boolean) hx hb hr zl_b0 (fun t ht hW => ⟨_, rfl, zl_f (by unfold zh_wide; omega), ht⟩) (fun q hq => nomatch hq) dX4_isWide_21
      · refine zr_iconst hx hb dX4_isWide_16 ?_
        refine lv_goto (tgt := 21) hx hb dX4_isWide_17 (by decide) ?_
        exact W.zret (v := zi_n 1) (ty := .boolean) hx hb hr zl_b1 (fun t ht hW => ⟨_, rfl, zl_t (by unfold zh_wide; omega), ht⟩) (fun q hq => nomatch hq) dX4_isWide_21

theorem in_X4_thrown_X4 : ∀ w ∈ u_ws RX4 TX4 9, w ∈ wsX4_thrown := by decide +kernel
set_option maxHeartbeats 4000000 in
set_option maxRecDepth 100000 in
theorem c_M_thrown (l : Launch) (D : va_G) (x a a2 a3 : Nat) (cA cB cC : ClassId) (F P G : Nat → Int) (n rd br v ln ft : Int) (hF : zi_By F) (hn : 0 ≤ n ∧ n ≤ 600) (hP0 : zi_By P) (hG : zi_By G) (hrd : rd = 0 ∨ rd = 1) (hbr : 0 ≤ br ∧ br ≤ 15) (hv0 : 0 ≤ v ∧ v ≤ 255) (hln : 0 ≤ ln ∧ ln ≤ 524280) (hft : 0 ≤ ft ∧ ft ≤ 1) : Met l yX4_thrown wsX4_thrown ({ frames := 0, cells := 0, slots := 0, locals := 0 }) (va_Pc [.ref x] (zp_Q D vwCl [(x, .inr (5, [.int (zi_n ft), .ref a, .int (zi_n n), .int (zi_n rd), .int (zi_n br), .ref a2, .ref a3, .int (zi_n v), .int (zi_n ln)])), (a, .inl (cA, 600, .inl (zi_F F))), (a2, .inl (cB, 600, .inl (zi_F P))), (a3, .inl (cC, 600, .inl (zi_F G)))] [(cA, .int), (cB, .int), (cC, .int)])) (vp_Si (fun r => r = zi_n ft ∧ 0 ≤ ft ∧ ft ≤ 1)) 0 0 (fun _ => False) := by
  refine Met.ofW (cc := cX4_thrown) (maxL := 1) (ret := (some .int)) (by decide) rfl ?_
  intro p e s m args below meth c s₁ B hml hv
  obtain ⟨rfl, hP, hK⟩ := hv
  have hx := B.exec
  have hb := B.bytes
  have hr := B.returns
  have hts := atoms_spec (ws := wsX4_thrown) B.pre
  have hown : s.vm.findClass RX4 = some m.cls := findClass_of_methodNamed B.named
  have hlocks := B.notSynchronized
  have hl := lv_entry ([.ref x]) (n := 1) (Nat.le_of_ble_eq_true rfl)
  rw [lg_entry_eq]
  generalize (lg_sl ([.ref x]) ++ List.replicate (1 - (lg_sl ([.ref x])).length) Slot.unset).toArray = ls at hl ⊢
  have hl : lv_has ls 1 [(0, .ref x)] := hl
  refine lv_aload_n hx hb dX4_thrown_0 rfl (lv_at hl 0 rfl) ?_
  refine va_get (D := D) (ci := 5) (v := .int (zi_n ft)) (C := RX4) (T := TX4) (N := 9) hx hb hts in_X4_thrown_X4 hown hK hP 0 rfl rfl 0 (by decide) (hts (.fieldLink RX4 19 "ZHeadsModel" "fault" "I") (by decide +kernel)) (fun _ h9 => h9) rfl dX4_thrown_1 ?_
  exact W.iret (v := zi_n ft) hx hb hr (fun t ht hW => ⟨_, rfl, ⟨rfl, by omega⟩, ht⟩) (fun q hq => nomatch hq) dX4_thrown_4

theorem in_X4_isThere_X4 : ∀ w ∈ u_ws RX4 TX4 9, w ∈ wsX4_isThere := by decide +kernel
set_option maxHeartbeats 4000000 in
set_option maxRecDepth 100000 in
theorem c_M_isThere (l : Launch) (D : va_G) (x a a2 a3 : Nat) (cA cB cC : ClassId) (F P G : Nat → Int) (n rd br v ln ft : Int) (hF : zi_By F) (hn : 0 ≤ n ∧ n ≤ 600) (hP0 : zi_By P) (hG : zi_By G) (hrd : rd = 0 ∨ rd = 1) (hbr : 0 ≤ br ∧ br ≤ 15) (hv0 : 0 ≤ v ∧ v ≤ 255) (hln : 0 ≤ ln ∧ ln ≤ 524280) (hft : 0 ≤ ft ∧ ft ≤ 1) (p0 : Int) (rp0 : zi_R p0) : Met l yX4_isThere wsX4_isThere ({ frames := 0, cells := 0, slots := 0, locals := 0 }) (va_Pc [.ref x, .int (zi_n p0)] (zp_Q D vwCl [(x, .inr (5, [.int (zi_n ft), .ref a, .int (zi_n n), .int (zi_n rd), .int (zi_n br), .ref a2, .ref a3, .int (zi_n v), .int (zi_n ln)])), (a, .inl (cA, 600, .inl (zi_F F))), (a2, .inl (cB, 600, .inl (zi_F P))), (a3, .inl (cC, 600, .inl (zi_F G)))] [(cA, .int), (cB, .int), (cC, .int)])) (vp_Si (fun r => (r = zi_n 1 ∧ (p0 < n)) ∨ (r = zi_n 0 ∧ ¬ (p0 < n)))) 0 0 (fun _ => False) := by
  refine Met.ofW (cc := cX4_isThere) (maxL := 2) (ret := (some .boolean)) (by decide) rfl ?_
  intro p e s m args below meth c s₁ B hml hv
  obtain ⟨rfl, hP, hK⟩ := hv
  have hx := B.exec
  have hb := B.bytes
  have hr := B.returns
  have hts := atoms_spec (ws := wsX4_isThere) B.pre
  have hown : s.vm.findClass RX4 = some m.cls := findClass_of_methodNamed B.named
  have hlocks := B.notSynchronized
  have hl := lv_entry ([.ref x, .int (zi_n p0)]) (n := 2) (Nat.le_of_ble_eq_true rfl)
  rw [lg_entry_eq]
  generalize (lg_sl ([.ref x, .int (zi_n p0)]) ++ List.replicate (2 - (lg_sl ([.ref x, .int (zi_n p0)])).length) Slot.unset).toArray = ls at hl ⊢
  have hl : lv_has ls 2 [(0, .ref x), (1, .int (zi_n p0))] := hl
  refine lv_iload_n hx hb dX4_isThere_0 rfl (lv_at hl 1 rfl) ?_
  refine lv_aload_n hx hb dX4_isThere_1 rfl (lv_at hl 0 rfl) ?_
  refine va_get (D := D) (ci := 5) (v := .int (zi_n n)) (C := RX4) (T := TX4) (N := 9) hx hb hts in_X4_isThere_X4 hown hK hP 0 rfl rfl 2 (by decide) (hts (.fieldLink RX4 31 "ZHeadsModel" "size" "I") (by decide +kernel)) (fun _ h9 => h9) rfl dX4_isThere_2 ?_
  refine zr_icmp_ge (tgt := 12) hx hb dX4_isThere_5 (by decide) (by omega) (by omega) (fun c_1 => ?_) (fun c_1 => ?_)
  · refine zr_iconst hx hb dX4_isThere_12 ?_
    exact W.zret (v := zi_n 0) (ty := .boolean) hx hb hr zl_b0 (fun t ht hW => ⟨_, rfl, zl_f (by omega), ht⟩) (fun q hq => nomatch hq) dX4_isThere_13
  · refine zr_iconst hx hb dX4_isThere_8 ?_
    refine lv_goto (tgt := 13) hx hb dX4_isThere_9 (by decide) ?_
    exact W.zret (v := zi_n 1) (ty := .boolean) hx hb hr zl_b1 (fun t ht hW => ⟨_, rfl, zl_t (by omega), ht⟩) (fun q hq => nomatch hq) dX4_isThere_13

theorem in_X4_two_X4 : ∀ w ∈ u_ws RX4 TX4 9, w ∈ wsX4_two := by decide +kernel
set_option maxHeartbeats 4000000 in
set_option maxRecDepth 100000 in
theorem c_M_two_k (l : Launch) (D : va_G) (x a a2 a3 : Nat) (cA cB cC : ClassId) (F P G : Nat → Int) (n rd br v ln ft : Int) (hF : zi_By F) (hn : 0 ≤ n ∧ n ≤ 600) (hP0 : zi_By P) (hG : zi_By G) (hrd : rd = 0 ∨ rd = 1) (hbr : 0 ≤ br ∧ br ≤ 15) (hv0 : 0 ≤ v ∧ v ≤ 255) (hln : 0 ≤ ln ∧ ln ≤ 524280) (hft : 0 ≤ ft ∧ ft ≤ 1) (p0 : Int) (kk : Nat) (hp : p0 = (kk : Int)) (hq : p0 + 1 < 600) : Met l yX4_two wsX4_two ({ frames := 0, cells := 0, slots := 0, locals := 0 }) (va_Pc [.ref x, .int (zi_n p0)] (zp_Q D vwCl [(x, .inr (5, [.int (zi_n ft), .ref a, .int (zi_n n), .int (zi_n rd), .int (zi_n br), .ref a2, .ref a3, .int (zi_n v), .int (zi_n ln)])), (a, .inl (cA, 600, .inl (zi_F F))), (a2, .inl (cB, 600, .inl (zi_F P))), (a3, .inl (cC, 600, .inl (zi_F G)))] [(cA, .int), (cB, .int), (cC, .int)])) (vp_Si (fun r => r = zi_n (zh_t F kk) ∧ 0 ≤ (zh_t F kk) ∧ (zh_t F kk) ≤ 65535)) 0 0 (fun _ => False) := by
  refine Met.ofW (cc := cX4_two) (maxL := 2) (ret := (some .int)) (by decide) rfl ?_
  intro p e s m args below meth c s₁ B hml hv
  obtain ⟨rfl, hP, hK⟩ := hv
  have hx := B.exec
  have hb := B.bytes
  have hr := B.returns
  have hts := atoms_spec (ws := wsX4_two) B.pre
  have hown : s.vm.findClass RX4 = some m.cls := findClass_of_methodNamed B.named
  have hlocks := B.notSynchronized
  have hl := lv_entry ([.ref x, .int (zi_n p0)]) (n := 2) (Nat.le_of_ble_eq_true rfl)
  rw [lg_entry_eq]
  generalize (lg_sl ([.ref x, .int (zi_n p0)]) ++ List.replicate (2 - (lg_sl ([.ref x, .int (zi_n p0)])).length) Slot.unset).toArray = ls at hl ⊢
  have hl : lv_has ls 2 [(0, .ref x), (1, .int (zi_n p0))] := hl
  refine zr_sipush hx hb dX4_two_0 (by decide) ?_
  refine lv_aload_n hx hb dX4_two_3 rfl (lv_at hl 0 rfl) ?_
  refine va_get (D := D) (ci := 5) (v := .ref a) (C := RX4) (T := TX4) (N := 9) hx hb hts in_X4_two_X4 hown hK hP 0 rfl rfl 1 (by decide) (hts (.fieldLink RX4 7 "ZHeadsModel" "file" "[I") (by decide +kernel)) (fun _ h9 => h9) rfl dX4_two_4 ?_
  refine lv_iload_n hx hb dX4_two_7 rfl (lv_at hl 1 rfl) ?_
  refine zr_iald hx hb hK hP 1 0 rfl rfl (by decide) (by omega) dX4_two_8 ?_
  have b_1 := hF p0.toNat
  refine zr_imul hx hb dX4_two_9 ?_
  refine lv_aload_n hx hb dX4_two_10 rfl (lv_at hl 0 rfl) ?_
  refine va_get (D := D) (ci := 5) (v := .ref a) (C := RX4) (T := TX4) (N := 9) hx hb hts in_X4_two_X4 hown hK hP 0 rfl rfl 1 (by decide) (hts (.fieldLink RX4 7 "ZHeadsModel" "file" "[I") (by decide +kernel)) (fun _ h9 => h9) rfl dX4_two_11 ?_
  refine lv_iload_n hx hb dX4_two_14 rfl (lv_at hl 1 rfl) ?_
  refine zr_iconst hx hb dX4_two_15 ?_
  refine zr_iadd hx hb dX4_two_16 ?_
  refine zr_iald hx hb hK hP 1 0 rfl rfl (by decide) (by omega) dX4_two_17 ?_
  have b_2 := hF (p0 + 1).toNat
  refine zr_iadd hx hb dX4_two_18 ?_
  exact W.iret (v := zi_n ((256 * (F p0.toNat)) + (F (p0 + 1).toNat))) hx hb hr (fun t ht hW => ⟨_, rfl, zl_r (by rw [show p0.toNat = kk by omega, show (p0 + 1).toNat = kk + 1 by omega]; unfold zh_t; omega) (by omega), ht⟩) (fun q hq => nomatch hq) dX4_two_19

set_option maxHeartbeats 4000000 in
set_option maxRecDepth 100000 in
theorem c_M_two (l : Launch) (D : va_G) (x a a2 a3 : Nat) (cA cB cC : ClassId) (F P G : Nat → Int) (n rd br v ln ft : Int) (hF : zi_By F) (hn : 0 ≤ n ∧ n ≤ 600) (hP0 : zi_By P) (hG : zi_By G) (hrd : rd = 0 ∨ rd = 1) (hbr : 0 ≤ br ∧ br ≤ 15) (hv0 : 0 ≤ v ∧ v ≤ 255) (hln : 0 ≤ ln ∧ ln ≤ 524280) (hft : 0 ≤ ft ∧ ft ≤ 1) (p0 : Int) (hp : 0 ≤ p0 ∧ p0 + 1 < 600) : Met l yX4_two wsX4_two ({ frames := 0, cells := 0, slots := 0, locals := 0 }) (va_Pc [.ref x, .int (zi_n p0)] (zp_Q D vwCl [(x, .inr (5, [.int (zi_n ft), .ref a, .int (zi_n n), .int (zi_n rd), .int (zi_n br), .ref a2, .ref a3, .int (zi_n v), .int (zi_n ln)])), (a, .inl (cA, 600, .inl (zi_F F))), (a2, .inl (cB, 600, .inl (zi_F P))), (a3, .inl (cC, 600, .inl (zi_F G)))] [(cA, .int), (cB, .int), (cC, .int)])) (vp_Si (fun r => r = zi_n (zh_T F p0) ∧ 0 ≤ (zh_T F p0) ∧ (zh_T F p0) ≤ 65535)) 0 0 (fun _ => False) := by
  refine Met.ofW (cc := cX4_two) (maxL := 2) (ret := (some .int)) (by decide) rfl ?_
  intro p e s m args below meth c s₁ B hml hv
  obtain ⟨rfl, hP, hK⟩ := hv
  have hx := B.exec
  have hb := B.bytes
  have hr := B.returns
  have hts := atoms_spec (ws := wsX4_two) B.pre
  have hown : s.vm.findClass RX4 = some m.cls := findClass_of_methodNamed B.named
  have hlocks := B.notSynchronized
  have hl := lv_entry ([.ref x, .int (zi_n p0)]) (n := 2) (Nat.le_of_ble_eq_true rfl)
  rw [lg_entry_eq]
  generalize (lg_sl ([.ref x, .int (zi_n p0)]) ++ List.replicate (2 - (lg_sl ([.ref x, .int (zi_n p0)])).length) Slot.unset).toArray = ls at hl ⊢
  have hl : lv_has ls 2 [(0, .ref x), (1, .int (zi_n p0))] := hl
  refine zr_sipush hx hb dX4_two_0 (by decide) ?_
  refine lv_aload_n hx hb dX4_two_3 rfl (lv_at hl 0 rfl) ?_
  refine va_get (D := D) (ci := 5) (v := .ref a) (C := RX4) (T := TX4) (N := 9) hx hb hts in_X4_two_X4 hown hK hP 0 rfl rfl 1 (by decide) (hts (.fieldLink RX4 7 "ZHeadsModel" "file" "[I") (by decide +kernel)) (fun _ h9 => h9) rfl dX4_two_4 ?_
  refine lv_iload_n hx hb dX4_two_7 rfl (lv_at hl 1 rfl) ?_
  refine zr_iald hx hb hK hP 1 0 rfl rfl (by decide) (by omega) dX4_two_8 ?_
  have b_1 := hF p0.toNat
  refine zr_imul hx hb dX4_two_9 ?_
  refine lv_aload_n hx hb dX4_two_10 rfl (lv_at hl 0 rfl) ?_
  refine va_get (D := D) (ci := 5) (v := .ref a) (C := RX4) (T := TX4) (N := 9) hx hb hts in_X4_two_X4 hown hK hP 0 rfl rfl 1 (by decide) (hts (.fieldLink RX4 7 "ZHeadsModel" "file" "[I") (by decide +kernel)) (fun _ h9 => h9) rfl dX4_two_11 ?_
  refine lv_iload_n hx hb dX4_two_14 rfl (lv_at hl 1 rfl) ?_
  refine zr_iconst hx hb dX4_two_15 ?_
  refine zr_iadd hx hb dX4_two_16 ?_
  refine zr_iald hx hb hK hP 1 0 rfl rfl (by decide) (by omega) dX4_two_17 ?_
  have b_2 := hF (p0 + 1).toNat
  refine zr_iadd hx hb dX4_two_18 ?_
  exact W.iret (v := zi_n ((256 * (F p0.toNat)) + (F (p0 + 1).toNat))) hx hb hr (fun t ht hW => ⟨_, rfl, zl_r (by rfl) (by omega), ht⟩) (fun q hq => nomatch hq) dX4_two_19

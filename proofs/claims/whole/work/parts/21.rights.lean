set_option maxHeartbeats 4000000 in
set_option maxRecDepth 100000 in
theorem c_R_isFlag (l : Launch) (p0 : Int) (p1 : Int) (rp0 : zi_R p0) (rp1 : zi_R p1) : Met l yX1_isFlag wsX1_isFlag ({ frames := 0, cells := 0, slots := 0, locals := 0 }) (va_Pc [.int (zi_n p0), .int (zi_n p1)] (fun _ => True)) (vp_Si (fun r => (r = zi_n 1 ∧ (zh_isF p0 p1)) ∨ (r = zi_n 0 ∧ ¬ (zh_isF p0 p1)))) 0 0 (fun _ => False) := by
  refine Met.ofW (cc := cX1_isFlag) (maxL := 2) (ret := (some .boolean)) (by decide) rfl ?_
  intro p e s m args below meth c s₁ B hml hv
  obtain ⟨rfl, -⟩ := hv
  have hx := B.exec
  have hb := B.bytes
  have hr := B.returns
  have hts := atoms_spec (ws := wsX1_isFlag) B.pre
  have hown : s.vm.findClass RX1 = some m.cls := findClass_of_methodNamed B.named
  have hlocks := B.notSynchronized
  have hl := lv_entry ([.int (zi_n p0), .int (zi_n p1)]) (n := 2) (Nat.le_of_ble_eq_true rfl)
  rw [lg_entry_eq]
  generalize (lg_sl ([.int (zi_n p0), .int (zi_n p1)]) ++ List.replicate (2 - (lg_sl ([.int (zi_n p0), .int (zi_n p1)])).length) Slot.unset).toArray = ls at hl ⊢
  have hl : lv_has ls 2 [(0, .int (zi_n p0)), (1, .int (zi_n p1))] := hl
  refine lv_iload_n hx hb dX1_isFlag_0 rfl (lv_at hl 0 rfl) ?_
  refine zr_iconst hx hb dX1_isFlag_1 ?_
  refine zr_icmp_eq (tgt := 12) hx hb dX1_isFlag_2 (by decide) (by omega) (by omega) (fun c_1 => ?_) (fun c_1 => ?_)
  · refine lv_iload_n hx hb dX1_isFlag_12 rfl (lv_at hl 1 rfl) ?_
    refine zr_if_lt (tgt := 36) hx hb dX1_isFlag_13 (by decide) (by omega) (fun c_2 => ?_) (fun c_2 => ?_)
    · refine zr_iconst hx hb dX1_isFlag_36 ?_
      exact W.zret (v := zi_n 0) (ty := .boolean) hx hb hr zl_b0 (fun t ht hW => ⟨_, rfl, zl_f (by unfold zh_isF; omega), ht⟩) (fun q hq => nomatch hq) dX1_isFlag_37
    · refine lv_iload_n hx hb dX1_isFlag_16 rfl (lv_at hl 1 rfl) ?_
      refine lv_iload_n hx hb dX1_isFlag_17 rfl (lv_at hl 0 rfl) ?_
      refine zr_iconst hx hb dX1_isFlag_18 ?_
      refine zr_icmp_ne (tgt := 27) hx hb dX1_isFlag_19 (by decide) (by omega) (by omega) (fun c_3 => ?_) (fun c_3 => ?_)
      · refine zr_bipush hx hb dX1_isFlag_27 (by decide) ?_
        refine zr_icmp_gt (tgt := 36) hx hb dX1_isFlag_29 (by decide) (by omega) (by omega) (fun c_4 => ?_) (fun c_4 => ?_)
        · refine zr_iconst hx hb dX1_isFlag_36 ?_
          exact W.zret (v := zi_n 0) (ty := .boolean) hx hb hr zl_b0 (fun t ht hW => ⟨_, rfl, zl_f (by unfold zh_isF; omega), ht⟩) (fun q hq => nomatch hq) dX1_isFlag_37
        · refine zr_iconst hx hb dX1_isFlag_32 ?_
          refine lv_goto (tgt := 37) hx hb dX1_isFlag_33 (by decide) ?_
          exact W.zret (v := zi_n 1) (ty := .boolean) hx hb hr zl_b1 (fun t ht hW => ⟨_, rfl, zl_t (by unfold zh_isF; omega), ht⟩) (fun q hq => nomatch hq) dX1_isFlag_37
      · refine zr_bipush hx hb dX1_isFlag_22 (by decide) ?_
        refine lv_goto (tgt := 29) hx hb dX1_isFlag_24 (by decide) ?_
        refine zr_icmp_gt (tgt := 36) hx hb dX1_isFlag_29 (by decide) (by omega) (by omega) (fun c_5 => ?_) (fun c_5 => ?_)
        · refine zr_iconst hx hb dX1_isFlag_36 ?_
          exact W.zret (v := zi_n 0) (ty := .boolean) hx hb hr zl_b0 (fun t ht hW => ⟨_, rfl, zl_f (by unfold zh_isF; omega), ht⟩) (fun q hq => nomatch hq) dX1_isFlag_37
        · refine zr_iconst hx hb dX1_isFlag_32 ?_
          refine lv_goto (tgt := 37) hx hb dX1_isFlag_33 (by decide) ?_
          exact W.zret (v := zi_n 1) (ty := .boolean) hx hb hr zl_b1 (fun t ht hW => ⟨_, rfl, zl_t (by unfold zh_isF; omega), ht⟩) (fun q hq => nomatch hq) dX1_isFlag_37
  · refine lv_iload_n hx hb dX1_isFlag_5 rfl (lv_at hl 0 rfl) ?_
    refine zr_iconst hx hb dX1_isFlag_6 ?_
    refine zr_icmp_eq (tgt := 12) hx hb dX1_isFlag_7 (by decide) (by omega) (by omega) (fun c_6 => ?_) (fun c_6 => ?_)
    · refine lv_iload_n hx hb dX1_isFlag_12 rfl (lv_at hl 1 rfl) ?_
      refine zr_if_lt (tgt := 36) hx hb dX1_isFlag_13 (by decide) (by omega) (fun c_7 => ?_) (fun c_7 => ?_)
      · refine zr_iconst hx hb dX1_isFlag_36 ?_
        exact W.zret (v := zi_n 0) (ty := .boolean) hx hb hr zl_b0 (fun t ht hW => ⟨_, rfl, zl_f (by unfold zh_isF; omega), ht⟩) (fun q hq => nomatch hq) dX1_isFlag_37
      · refine lv_iload_n hx hb dX1_isFlag_16 rfl (lv_at hl 1 rfl) ?_
        refine lv_iload_n hx hb dX1_isFlag_17 rfl (lv_at hl 0 rfl) ?_
        refine zr_iconst hx hb dX1_isFlag_18 ?_
        refine zr_icmp_ne (tgt := 27) hx hb dX1_isFlag_19 (by decide) (by omega) (by omega) (fun c_8 => ?_) (fun c_8 => ?_)
        · refine zr_bipush hx hb dX1_isFlag_27 (by decide) ?_
          refine zr_icmp_gt (tgt := 36) hx hb dX1_isFlag_29 (by decide) (by omega) (by omega) (fun c_9 => ?_) (fun c_9 => ?_)
          · refine zr_iconst hx hb dX1_isFlag_36 ?_
            exact W.zret (v := zi_n 0) (ty := .boolean) hx hb hr zl_b0 (fun t ht hW => ⟨_, rfl, zl_f (by unfold zh_isF; omega), ht⟩) (fun q hq => nomatch hq) dX1_isFlag_37
          · refine zr_iconst hx hb dX1_isFlag_32 ?_
            refine lv_goto (tgt := 37) hx hb dX1_isFlag_33 (by decide) ?_
            exact W.zret (v := zi_n 1) (ty := .boolean) hx hb hr zl_b1 (fun t ht hW => ⟨_, rfl, zl_t (by unfold zh_isF; omega), ht⟩) (fun q hq => nomatch hq) dX1_isFlag_37
        · refine zr_bipush hx hb dX1_isFlag_22 (by decide) ?_
          refine lv_goto (tgt := 29) hx hb dX1_isFlag_24 (by decide) ?_
          refine zr_icmp_gt (tgt := 36) hx hb dX1_isFlag_29 (by decide) (by omega) (by omega) (fun c_10 => ?_) (fun c_10 => ?_)
          · refine zr_iconst hx hb dX1_isFlag_36 ?_
            exact W.zret (v := zi_n 0) (ty := .boolean) hx hb hr zl_b0 (fun t ht hW => ⟨_, rfl, zl_f (by unfold zh_isF; omega), ht⟩) (fun q hq => nomatch hq) dX1_isFlag_37
          · refine zr_iconst hx hb dX1_isFlag_32 ?_
            refine lv_goto (tgt := 37) hx hb dX1_isFlag_33 (by decide) ?_
            exact W.zret (v := zi_n 1) (ty := .boolean) hx hb hr zl_b1 (fun t ht hW => ⟨_, rfl, zl_t (by unfold zh_isF; omega), ht⟩) (fun q hq => nomatch hq) dX1_isFlag_37
    · refine zr_iconst hx hb dX1_isFlag_10 ?_
      exact W.zret (v := zi_n 0) (ty := .boolean) hx hb hr zl_b0 (fun t ht hW => ⟨_, rfl, zl_f (by unfold zh_isF; omega), ht⟩) (fun q hq => nomatch hq) dX1_isFlag_11

set_option maxHeartbeats 4000000 in
set_option maxRecDepth 100000 in
theorem c_R_playerBits (l : Launch) (p0 : Int) (h0 : 1 ≤ p0 ∧ p0 ≤ 8) : Met l yX1_playerBits wsX1_playerBits ({ frames := 0, cells := 0, slots := 0, locals := 0 }) (va_Pc [.int (zi_n p0)] (fun _ => True)) (vp_Si (fun r => r = zi_n (zh_pb p0) ∧ 112 ≤ (zh_pb p0) ∧ (zh_pb p0) ≤ 191)) 0 0 (fun _ => False) := by
  refine Met.ofW (cc := cX1_playerBits) (maxL := 1) (ret := (some .int)) (by decide) rfl ?_
  intro p e s m args below meth c s₁ B hml hv
  obtain ⟨rfl, -⟩ := hv
  have hx := B.exec
  have hb := B.bytes
  have hr := B.returns
  have hts := atoms_spec (ws := wsX1_playerBits) B.pre
  have hown : s.vm.findClass RX1 = some m.cls := findClass_of_methodNamed B.named
  have hlocks := B.notSynchronized
  have hl := lv_entry ([.int (zi_n p0)]) (n := 1) (Nat.le_of_ble_eq_true rfl)
  rw [lg_entry_eq]
  generalize (lg_sl ([.int (zi_n p0)]) ++ List.replicate (1 - (lg_sl ([.int (zi_n p0)])).length) Slot.unset).toArray = ls at hl ⊢
  have hl : lv_has ls 1 [(0, .int (zi_n p0))] := hl
  refine lv_iload_n hx hb dX1_playerBits_0 rfl (lv_at hl 0 rfl) ?_
  rcases (show p0 = 1 ∨ p0 = 2 ∨ p0 = 3 ∨ p0 = 4 ∨ p0 = 5 ∨ p0 = 6 ∨ p0 = 7 ∨ p0 = 8 by omega) with rfl | rfl | rfl | rfl | rfl | rfl | rfl | rfl
  · skip
    refine zr_tabIn (tgt := 40) hx hb dX1_playerBits_1 (by decide) (by decide) (by decide) rfl (by decide) ?_
    refine zr_bipush hx hb dX1_playerBits_40 (by decide) ?_
    exact W.iret (v := zi_n 112) hx hb hr (fun t ht hW => ⟨_, rfl, zl_r (by decide) (by omega), ht⟩) (fun q hq => nomatch hq) dX1_playerBits_42
  · skip
    refine zr_tabIn (tgt := 40) hx hb dX1_playerBits_1 (by decide) (by decide) (by decide) rfl (by decide) ?_
    refine zr_bipush hx hb dX1_playerBits_40 (by decide) ?_
    exact W.iret (v := zi_n 112) hx hb hr (fun t ht hW => ⟨_, rfl, zl_r (by decide) (by omega), ht⟩) (fun q hq => nomatch hq) dX1_playerBits_42
  · skip
    refine zr_tabIn (tgt := 40) hx hb dX1_playerBits_1 (by decide) (by decide) (by decide) rfl (by decide) ?_
    refine zr_bipush hx hb dX1_playerBits_40 (by decide) ?_
    exact W.iret (v := zi_n 112) hx hb hr (fun t ht hW => ⟨_, rfl, zl_r (by decide) (by omega), ht⟩) (fun q hq => nomatch hq) dX1_playerBits_42
  · skip
    refine zr_tabIn (tgt := 43) hx hb dX1_playerBits_1 (by decide) (by decide) (by decide) rfl (by decide) ?_
    refine zr_sipush hx hb dX1_playerBits_43 (by decide) ?_
    exact W.iret (v := zi_n 156) hx hb hr (fun t ht hW => ⟨_, rfl, zl_r (by decide) (by omega), ht⟩) (fun q hq => nomatch hq) dX1_playerBits_46
  · skip
    refine zr_tabIn (tgt := 51) hx hb dX1_playerBits_1 (by decide) (by decide) (by decide) rfl (by decide) ?_
    refine zr_sipush hx hb dX1_playerBits_51 (by decide) ?_
    exact W.iret (v := zi_n 157) hx hb hr (fun t ht hW => ⟨_, rfl, zl_r (by decide) (by omega), ht⟩) (fun q hq => nomatch hq) dX1_playerBits_54
  · skip
    refine zr_tabIn (tgt := 47) hx hb dX1_playerBits_1 (by decide) (by decide) (by decide) rfl (by decide) ?_
    refine zr_sipush hx hb dX1_playerBits_47 (by decide) ?_
    exact W.iret (v := zi_n 191) hx hb hr (fun t ht hW => ⟨_, rfl, zl_r (by decide) (by omega), ht⟩) (fun q hq => nomatch hq) dX1_playerBits_50
  · skip
    refine zr_tabOut (tgt := 51) hx hb dX1_playerBits_1 (by decide) (by decide) (by decide) ?_
    refine zr_sipush hx hb dX1_playerBits_51 (by decide) ?_
    exact W.iret (v := zi_n 157) hx hb hr (fun t ht hW => ⟨_, rfl, zl_r (by decide) (by omega), ht⟩) (fun q hq => nomatch hq) dX1_playerBits_54
  · skip
    refine zr_tabOut (tgt := 51) hx hb dX1_playerBits_1 (by decide) (by decide) (by decide) ?_
    refine zr_sipush hx hb dX1_playerBits_51 (by decide) ?_
    exact W.iret (v := zi_n 157) hx hb hr (fun t ht hW => ⟨_, rfl, zl_r (by decide) (by omega), ht⟩) (fun q hq => nomatch hq) dX1_playerBits_54

set_option maxHeartbeats 4000000 in
set_option maxRecDepth 100000 in
theorem c_R_maySwitchFirst (l : Launch) (p0 : Int) (p1 : Int) (p2 : Int) (h0 : 1 ≤ p0 ∧ p0 ≤ 8) (h1 : 0 ≤ p1 ∧ p1 ≤ 15) (h2 : p2 = 0 ∨ p2 = 1) : Met l yX1_maySwitchFirst wsX1_maySwitchFirst ({ frames := 1, cells := 0, slots := 0, locals := 20 }) (va_Pc [.int (zi_n p0), .int (zi_n p1), .int (zi_n p2)] (fun _ => True)) (vp_Si (fun r => (r = zi_n 1 ∧ (zh_may1 p0 p1 p2)) ∨ (r = zi_n 0 ∧ ¬ (zh_may1 p0 p1 p2)))) 0 0 (fun _ => False) := by
  refine Met.ofW (cc := cX1_maySwitchFirst) (maxL := 3) (ret := (some .boolean)) (by decide) rfl ?_
  intro p e s m args below meth c s₁ B hml hv
  obtain ⟨rfl, -⟩ := hv
  have hx := B.exec
  have hb := B.bytes
  have hr := B.returns
  have hts := atoms_spec (ws := wsX1_maySwitchFirst) B.pre
  have hown : s.vm.findClass RX1 = some m.cls := findClass_of_methodNamed B.named
  have hlocks := B.notSynchronized
  have hl := lv_entry ([.int (zi_n p0), .int (zi_n p1), .int (zi_n p2)]) (n := 3) (Nat.le_of_ble_eq_true rfl)
  rw [lg_entry_eq]
  generalize (lg_sl ([.int (zi_n p0), .int (zi_n p1), .int (zi_n p2)]) ++ List.replicate (3 - (lg_sl ([.int (zi_n p0), .int (zi_n p1), .int (zi_n p2)])).length) Slot.unset).toArray = ls at hl ⊢
  have hl : lv_has ls 3 [(0, .int (zi_n p0)), (1, .int (zi_n p1)), (2, .int (zi_n p2))] := hl
  refine lv_iload_n hx hb dX1_maySwitchFirst_0 rfl (lv_at hl 2 rfl) ?_
  refine zr_if_ne (tgt := 20) hx hb dX1_maySwitchFirst_1 (by decide) (by omega) (fun c_1 => ?_) (fun c_1 => ?_)
  · refine zr_iconst hx hb dX1_maySwitchFirst_20 ?_
    exact W.zret (v := zi_n 0) (ty := .boolean) hx hb hr zl_b0 (fun t ht hW => ⟨_, rfl, zl_f (by unfold zh_may1; omega), ht⟩) (fun q hq => nomatch hq) dX1_maySwitchFirst_21
  · refine lv_iload_n hx hb dX1_maySwitchFirst_4 rfl (lv_at hl 0 rfl) ?_
    refine zc_S (As := [.int (zi_n p0)]) (rest := []) ⟨hx, hb, hml, hown, hts⟩ (c_R_playerBits l p0 (by omega)) (va_cwS 1 hts gX1_maySwitchFirst_X1_playerBits rfl rfl rfl (by decide +kernel) ⟨(Nat.le_of_ble_eq_true rfl), (Nat.le_of_ble_eq_true rfl)⟩) rfl hl.1 rfl (Nat.le_of_ble_eq_true rfl) dX1_maySwitchFirst_5 ⟨Nat.zero_le _, Nat.zero_le _⟩ (fun r hr1 => ?_)
    obtain ⟨rfl, b_2⟩ := hr1
    refine lv_iload_n hx hb dX1_maySwitchFirst_8 rfl (lv_at hl 1 rfl) ?_
    refine zr_ishr hx hb dX1_maySwitchFirst_9 (by omega) (by omega) ?_
    have b_3 := zh_sr_b (a := zh_pb p0) (k := p1) (by omega)
    refine zr_iconst hx hb dX1_maySwitchFirst_10 ?_
    refine zr_iand1 hx hb dX1_maySwitchFirst_11 (by omega) ?_
    refine zr_iconst hx hb dX1_maySwitchFirst_12 ?_
    refine zr_icmp_ne (tgt := 20) hx hb dX1_maySwitchFirst_13 (by decide) (by omega) (by omega) (fun c_4 => ?_) (fun c_4 => ?_)
    · refine zr_iconst hx hb dX1_maySwitchFirst_20 ?_
      exact W.zret (v := zi_n 0) (ty := .boolean) hx hb hr zl_b0 (fun t ht hW => ⟨_, rfl, zl_f (by unfold zh_may1; omega), ht⟩) (fun q hq => nomatch hq) dX1_maySwitchFirst_21
    · refine zr_iconst hx hb dX1_maySwitchFirst_16 ?_
      refine lv_goto (tgt := 21) hx hb dX1_maySwitchFirst_17 (by decide) ?_
      exact W.zret (v := zi_n 1) (ty := .boolean) hx hb hr zl_b1 (fun t ht hW => ⟨_, rfl, zl_t (by unfold zh_may1; omega), ht⟩) (fun q hq => nomatch hq) dX1_maySwitchFirst_21

set_option maxHeartbeats 4000000 in
set_option maxRecDepth 100000 in
theorem c_R_maySwitchSecond (l : Launch) (p0 : Int) (p1 : Int) (p2 : Int) (p3 : Int) (h0 : 1 ≤ p0 ∧ p0 ≤ 8) (h1 : 0 ≤ p1 ∧ p1 ≤ 15) (h2 : p2 = 0 ∨ p2 = 1) (h3 : p3 = 0 ∨ p3 = 1) : Met l yX1_maySwitchSecond wsX1_maySwitchSecond ({ frames := 0, cells := 0, slots := 0, locals := 0 }) (va_Pc [.int (zi_n p0), .int (zi_n p1), .int (zi_n p2), .int (zi_n p3)] (fun _ => True)) (vp_Si (fun r => (r = zi_n 1 ∧ (zh_may2 p0 p1 p2 p3)) ∨ (r = zi_n 0 ∧ ¬ (zh_may2 p0 p1 p2 p3)))) 0 0 (fun _ => False) := by
  refine Met.ofW (cc := cX1_maySwitchSecond) (maxL := 4) (ret := (some .boolean)) (by decide) rfl ?_
  intro p e s m args below meth c s₁ B hml hv
  obtain ⟨rfl, -⟩ := hv
  have hx := B.exec
  have hb := B.bytes
  have hr := B.returns
  have hts := atoms_spec (ws := wsX1_maySwitchSecond) B.pre
  have hown : s.vm.findClass RX1 = some m.cls := findClass_of_methodNamed B.named
  have hlocks := B.notSynchronized
  have hl := lv_entry ([.int (zi_n p0), .int (zi_n p1), .int (zi_n p2), .int (zi_n p3)]) (n := 4) (Nat.le_of_ble_eq_true rfl)
  rw [lg_entry_eq]
  generalize (lg_sl ([.int (zi_n p0), .int (zi_n p1), .int (zi_n p2), .int (zi_n p3)]) ++ List.replicate (4 - (lg_sl ([.int (zi_n p0), .int (zi_n p1), .int (zi_n p2), .int (zi_n p3)])).length) Slot.unset).toArray = ls at hl ⊢
  have hl : lv_has ls 4 [(0, .int (zi_n p0)), (1, .int (zi_n p1)), (2, .int (zi_n p2)), (3, .int (zi_n p3))] := hl
  refine lv_iload_n hx hb dX1_maySwitchSecond_0 rfl (lv_at hl 1 rfl) ?_
  refine zr_if_ne (tgt := 6) hx hb dX1_maySwitchSecond_1 (by decide) (by omega) (fun c_1 => ?_) (fun c_1 => ?_)
  · refine lv_iload_n hx hb dX1_maySwitchSecond_6 rfl (lv_at hl 1 rfl) ?_
    refine zr_iconst hx hb dX1_maySwitchSecond_7 ?_
    refine zr_icmp_ne (tgt := 26) hx hb dX1_maySwitchSecond_8 (by decide) (by omega) (by omega) (fun c_2 => ?_) (fun c_2 => ?_)
    · refine lv_iload_n hx hb dX1_maySwitchSecond_26 rfl (lv_at hl 1 rfl) ?_
      refine zr_iconst hx hb dX1_maySwitchSecond_27 ?_
      refine zr_icmp_ne (tgt := 51) hx hb dX1_maySwitchSecond_28 (by decide) (by omega) (by omega) (fun c_3 => ?_) (fun c_3 => ?_)
      · refine lv_iload_n hx hb dX1_maySwitchSecond_51 rfl (lv_at hl 3 rfl) ?_
        refine zr_if_ne (tgt := 59) hx hb dX1_maySwitchSecond_52 (by decide) (by omega) (fun c_4 => ?_) (fun c_4 => ?_)
        · refine zr_iconst hx hb dX1_maySwitchSecond_59 ?_
          exact W.zret (v := zi_n 0) (ty := .boolean) hx hb hr zl_b0 (fun t ht hW => ⟨_, rfl, zl_f (by unfold zh_may2; omega), ht⟩) (fun q hq => nomatch hq) dX1_maySwitchSecond_60
        · refine lv_iload_n hx hb dX1_maySwitchSecond_55 rfl (lv_at hl 2 rfl) ?_
          refine zr_if_eq (tgt := 61) hx hb dX1_maySwitchSecond_56 (by decide) (by omega) (fun c_5 => ?_) (fun c_5 => ?_)
          · refine lv_iload_n hx hb dX1_maySwitchSecond_61 rfl (lv_at hl 1 rfl) ?_
            refine zr_bipush hx hb dX1_maySwitchSecond_62 (by decide) ?_
            refine zr_icmp_gt (tgt := 80) hx hb dX1_maySwitchSecond_64 (by decide) (by omega) (by omega) (fun c_6 => ?_) (fun c_6 => ?_)
            · refine lv_iload_n hx hb dX1_maySwitchSecond_80 rfl (lv_at hl 1 rfl) ?_
              refine zr_bipush hx hb dX1_maySwitchSecond_81 (by decide) ?_
              refine zr_icmp_ne (tgt := 96) hx hb dX1_maySwitchSecond_83 (by decide) (by omega) (by omega) (fun c_7 => ?_) (fun c_7 => ?_)
              · refine zr_iconst hx hb dX1_maySwitchSecond_96 ?_
                exact W.zret (v := zi_n 0) (ty := .boolean) hx hb hr zl_b0 (fun t ht hW => ⟨_, rfl, zl_f (by unfold zh_may2; omega), ht⟩) (fun q hq => nomatch hq) dX1_maySwitchSecond_97
              · refine lv_iload_n hx hb dX1_maySwitchSecond_86 rfl (lv_at hl 0 rfl) ?_
                refine zr_bipush hx hb dX1_maySwitchSecond_87 (by decide) ?_
                refine zr_icmp_ne (tgt := 96) hx hb dX1_maySwitchSecond_89 (by decide) (by omega) (by omega) (fun c_8 => ?_) (fun c_8 => ?_)
                · refine zr_iconst hx hb dX1_maySwitchSecond_96 ?_
                  exact W.zret (v := zi_n 0) (ty := .boolean) hx hb hr zl_b0 (fun t ht hW => ⟨_, rfl, zl_f (by unfold zh_may2; omega), ht⟩) (fun q hq => nomatch hq) dX1_maySwitchSecond_97
                · refine zr_iconst hx hb dX1_maySwitchSecond_92 ?_
                  refine lv_goto (tgt := 97) hx hb dX1_maySwitchSecond_93 (by decide) ?_
                  exact W.zret (v := zi_n 1) (ty := .boolean) hx hb hr zl_b1 (fun t ht hW => ⟨_, rfl, zl_t (by unfold zh_may2; omega), ht⟩) (fun q hq => nomatch hq) dX1_maySwitchSecond_97
            · refine lv_iload_n hx hb dX1_maySwitchSecond_67 rfl (lv_at hl 0 rfl) ?_
              refine zr_iconst hx hb dX1_maySwitchSecond_68 ?_
              refine zr_icmp_lt (tgt := 76) hx hb dX1_maySwitchSecond_69 (by decide) (by omega) (by omega) (fun c_9 => ?_) (fun c_9 => ?_)
              · refine zr_iconst hx hb dX1_maySwitchSecond_76 ?_
                refine lv_goto (tgt := 97) hx hb dX1_maySwitchSecond_77 (by decide) ?_
                exact W.zret (v := zi_n 0) (ty := .boolean) hx hb hr zl_b0 (fun t ht hW => ⟨_, rfl, zl_f (by unfold zh_may2; omega), ht⟩) (fun q hq => nomatch hq) dX1_maySwitchSecond_97
              · refine zr_iconst hx hb dX1_maySwitchSecond_72 ?_
                refine lv_goto (tgt := 97) hx hb dX1_maySwitchSecond_73 (by decide) ?_
                exact W.zret (v := zi_n 1) (ty := .boolean) hx hb hr zl_b1 (fun t ht hW => ⟨_, rfl, zl_t (by unfold zh_may2; omega), ht⟩) (fun q hq => nomatch hq) dX1_maySwitchSecond_97
          · refine zr_iconst hx hb dX1_maySwitchSecond_59 ?_
            exact W.zret (v := zi_n 0) (ty := .boolean) hx hb hr zl_b0 (fun t ht hW => ⟨_, rfl, zl_f (by unfold zh_may2; omega), ht⟩) (fun q hq => nomatch hq) dX1_maySwitchSecond_60
      · refine lv_iload_n hx hb dX1_maySwitchSecond_31 rfl (lv_at hl 0 rfl) ?_
        refine zr_bipush hx hb dX1_maySwitchSecond_32 (by decide) ?_
        refine zr_icmp_ne (tgt := 49) hx hb dX1_maySwitchSecond_34 (by decide) (by omega) (by omega) (fun c_10 => ?_) (fun c_10 => ?_)
        · refine zr_iconst hx hb dX1_maySwitchSecond_49 ?_
          exact W.zret (v := zi_n 0) (ty := .boolean) hx hb hr zl_b0 (fun t ht hW => ⟨_, rfl, zl_f (by unfold zh_may2; omega), ht⟩) (fun q hq => nomatch hq) dX1_maySwitchSecond_50
        · refine lv_iload_n hx hb dX1_maySwitchSecond_37 rfl (lv_at hl 3 rfl) ?_
          refine zr_if_eq (tgt := 45) hx hb dX1_maySwitchSecond_38 (by decide) (by omega) (fun c_11 => ?_) (fun c_11 => ?_)
          · refine zr_iconst hx hb dX1_maySwitchSecond_45 ?_
            refine lv_goto (tgt := 50) hx hb dX1_maySwitchSecond_46 (by decide) ?_
            exact W.zret (v := zi_n 1) (ty := .boolean) hx hb hr zl_b1 (fun t ht hW => ⟨_, rfl, zl_t (by unfold zh_may2; omega), ht⟩) (fun q hq => nomatch hq) dX1_maySwitchSecond_50
          · refine lv_iload_n hx hb dX1_maySwitchSecond_41 rfl (lv_at hl 2 rfl) ?_
            refine zr_if_ne (tgt := 49) hx hb dX1_maySwitchSecond_42 (by decide) (by omega) (fun c_12 => ?_) (fun c_12 => ?_)
            · refine zr_iconst hx hb dX1_maySwitchSecond_49 ?_
              exact W.zret (v := zi_n 0) (ty := .boolean) hx hb hr zl_b0 (fun t ht hW => ⟨_, rfl, zl_f (by unfold zh_may2; omega), ht⟩) (fun q hq => nomatch hq) dX1_maySwitchSecond_50
            · refine zr_iconst hx hb dX1_maySwitchSecond_45 ?_
              refine lv_goto (tgt := 50) hx hb dX1_maySwitchSecond_46 (by decide) ?_
              exact W.zret (v := zi_n 1) (ty := .boolean) hx hb hr zl_b1 (fun t ht hW => ⟨_, rfl, zl_t (by unfold zh_may2; omega), ht⟩) (fun q hq => nomatch hq) dX1_maySwitchSecond_50
    · refine lv_iload_n hx hb dX1_maySwitchSecond_11 rfl (lv_at hl 3 rfl) ?_
      refine zr_if_eq (tgt := 24) hx hb dX1_maySwitchSecond_12 (by decide) (by omega) (fun c_13 => ?_) (fun c_13 => ?_)
      · refine zr_iconst hx hb dX1_maySwitchSecond_24 ?_
        exact W.zret (v := zi_n 0) (ty := .boolean) hx hb hr zl_b0 (fun t ht hW => ⟨_, rfl, zl_f (by unfold zh_may2; omega), ht⟩) (fun q hq => nomatch hq) dX1_maySwitchSecond_25
      · refine lv_iload_n hx hb dX1_maySwitchSecond_15 rfl (lv_at hl 0 rfl) ?_
        refine zr_iconst hx hb dX1_maySwitchSecond_16 ?_
        refine zr_icmp_lt (tgt := 24) hx hb dX1_maySwitchSecond_17 (by decide) (by omega) (by omega) (fun c_14 => ?_) (fun c_14 => ?_)
        · refine zr_iconst hx hb dX1_maySwitchSecond_24 ?_
          exact W.zret (v := zi_n 0) (ty := .boolean) hx hb hr zl_b0 (fun t ht hW => ⟨_, rfl, zl_f (by unfold zh_may2; omega), ht⟩) (fun q hq => nomatch hq) dX1_maySwitchSecond_25
        · refine zr_iconst hx hb dX1_maySwitchSecond_20 ?_
          refine lv_goto (tgt := 25) hx hb dX1_maySwitchSecond_21 (by decide) ?_
          exact W.zret (v := zi_n 1) (ty := .boolean) hx hb hr zl_b1 (fun t ht hW => ⟨_, rfl, zl_t (by unfold zh_may2; omega), ht⟩) (fun q hq => nomatch hq) dX1_maySwitchSecond_25
  · refine zr_iconst hx hb dX1_maySwitchSecond_4 ?_
    exact W.zret (v := zi_n 1) (ty := .boolean) hx hb hr zl_b1 (fun t ht hW => ⟨_, rfl, zl_t (by unfold zh_may2; omega), ht⟩) (fun q hq => nomatch hq) dX1_maySwitchSecond_5

set_option maxHeartbeats 4000000 in
set_option maxRecDepth 100000 in
theorem c_R_isWide (l : Launch) (p0 : Int) (rp0 : zi_R p0) : Met l yX1_isWide wsX1_isWide ({ frames := 0, cells := 0, slots := 0, locals := 0 }) (va_Pc [.int (zi_n p0)] (fun _ => True)) (vp_Si (fun r => (r = zi_n 1 ∧ (zh_wide p0)) ∨ (r = zi_n 0 ∧ ¬ (zh_wide p0)))) 0 0 (fun _ => False) := by
  refine Met.ofW (cc := cX1_isWide) (maxL := 1) (ret := (some .boolean)) (by decide) rfl ?_
  intro p e s m args below meth c s₁ B hml hv
  obtain ⟨rfl, -⟩ := hv
  have hx := B.exec
  have hb := B.bytes
  have hr := B.returns
  have hts := atoms_spec (ws := wsX1_isWide) B.pre
  have hown : s.vm.findClass RX1 = some m.cls := findClass_of_methodNamed B.named
  have hlocks := B.notSynchronized
  have hl := lv_entry ([.int (zi_n p0)]) (n := 1) (Nat.le_of_ble_eq_true rfl)
  rw [lg_entry_eq]
  generalize (lg_sl ([.int (zi_n p0)]) ++ List.replicate (1 - (lg_sl ([.int (zi_n p0)])).length) Slot.unset).toArray = ls at hl ⊢
  have hl : lv_has ls 1 [(0, .int (zi_n p0))] := hl
  refine lv_iload_n hx hb dX1_isWide_0 rfl (lv_at hl 0 rfl) ?_
  refine zr_iconst hx hb dX1_isWide_1 ?_
  refine zr_icmp_eq (tgt := 16) hx hb dX1_isWide_2 (by decide) (by omega) (by omega) (fun c_1 => ?_) (fun c_1 => ?_)
  · refine zr_iconst hx hb dX1_isWide_16 ?_
    refine lv_goto (tgt := 21) hx hb dX1_isWide_17 (by decide) ?_
    exact W.zret (v := zi_n 1) (ty := .boolean) hx hb hr zl_b1 (fun t ht hW => ⟨_, rfl, zl_t (by unfold zh_wide; omega), ht⟩) (fun q hq => nomatch hq) dX1_isWide_21
  · refine lv_iload_n hx hb dX1_isWide_5 rfl (lv_at hl 0 rfl) ?_
    refine zr_iconst hx hb dX1_isWide_6 ?_
    refine zr_icmp_eq (tgt := 16) hx hb dX1_isWide_7 (by decide) (by omega) (by omega) (fun c_2 => ?_) (fun c_2 => ?_)
    · refine zr_iconst hx hb dX1_isWide_16 ?_
      refine lv_goto (tgt := 21) hx hb dX1_isWide_17 (by decide) ?_
      exact W.zret (v := zi_n 1) (ty := .boolean) hx hb hr zl_b1 (fun t ht hW => ⟨_, rfl, zl_t (by unfold zh_wide; omega), ht⟩) (fun q hq => nomatch hq) dX1_isWide_21
    · refine lv_iload_n hx hb dX1_isWide_10 rfl (lv_at hl 0 rfl) ?_
      refine zr_bipush hx hb dX1_isWide_11 (by decide) ?_
      refine zr_icmp_ne (tgt := 20) hx hb dX1_isWide_13 (by decide) (by omega) (by omega) (fun c_3 => ?_) (fun c_3 => ?_)
      · refine zr_iconst hx hb dX1_isWide_20 ?_
        exact W.zret (v := zi_n 0) (ty := .boolean) hx hb hr zl_b0 (fun t ht hW => ⟨_, rfl, zl_f (by unfold zh_wide; omega), ht⟩) (fun q hq => nomatch hq) dX1_isWide_21
      · refine zr_iconst hx hb dX1_isWide_16 ?_
        refine lv_goto (tgt := 21) hx hb dX1_isWide_17 (by decide) ?_
        exact W.zret (v := zi_n 1) (ty := .boolean) hx hb hr zl_b1 (fun t ht hW => ⟨_, rfl, zl_t (by unfold zh_wide; omega), ht⟩) (fun q hq => nomatch hq) dX1_isWide_21

set_option maxHeartbeats 4000000 in
set_option maxRecDepth 100000 in
theorem c_R_settableFrom (l : Launch) (p0 : Int) (rp0 : zi_R p0) : Met l yX1_settableFrom wsX1_settableFrom ({ frames := 0, cells := 0, slots := 0, locals := 0 }) (va_Pc [.int (zi_n p0)] (fun _ => True)) (vp_Si (fun r => r = zi_n (zh_sf p0) ∧ 1 ≤ (zh_sf p0) ∧ (zh_sf p0) ≤ 5)) 0 0 (fun _ => False) := by
  refine Met.ofW (cc := cX1_settableFrom) (maxL := 1) (ret := (some .int)) (by decide) rfl ?_
  intro p e s m args below meth c s₁ B hml hv
  obtain ⟨rfl, -⟩ := hv
  have hx := B.exec
  have hb := B.bytes
  have hr := B.returns
  have hts := atoms_spec (ws := wsX1_settableFrom) B.pre
  have hown : s.vm.findClass RX1 = some m.cls := findClass_of_methodNamed B.named
  have hlocks := B.notSynchronized
  have hl := lv_entry ([.int (zi_n p0)]) (n := 1) (Nat.le_of_ble_eq_true rfl)
  rw [lg_entry_eq]
  generalize (lg_sl ([.int (zi_n p0)]) ++ List.replicate (1 - (lg_sl ([.int (zi_n p0)])).length) Slot.unset).toArray = ls at hl ⊢
  have hl : lv_has ls 1 [(0, .int (zi_n p0))] := hl
  refine lv_iload_n hx hb dX1_settableFrom_0 rfl (lv_at hl 0 rfl) ?_
  refine zr_iconst hx hb dX1_settableFrom_1 ?_
  refine zr_icmp_gt (tgt := 7) hx hb dX1_settableFrom_2 (by decide) (by omega) (by omega) (fun c_1 => ?_) (fun c_1 => ?_)
  · refine lv_iload_n hx hb dX1_settableFrom_7 rfl (lv_at hl 0 rfl) ?_
    refine zr_bipush hx hb dX1_settableFrom_8 (by decide) ?_
    refine zr_icmp_gt (tgt := 17) hx hb dX1_settableFrom_10 (by decide) (by omega) (by omega) (fun c_2 => ?_) (fun c_2 => ?_)
    · refine zr_iconst hx hb dX1_settableFrom_17 ?_
      exact W.iret (v := zi_n 1) hx hb hr (fun t ht hW => ⟨_, rfl, zl_r (by unfold zh_sf; (repeat' split) <;> omega) (by omega), ht⟩) (fun q hq => nomatch hq) dX1_settableFrom_18
    · refine zr_iconst hx hb dX1_settableFrom_13 ?_
      refine lv_goto (tgt := 18) hx hb dX1_settableFrom_14 (by decide) ?_
      exact W.iret (v := zi_n 5) hx hb hr (fun t ht hW => ⟨_, rfl, zl_r (by unfold zh_sf; (repeat' split) <;> omega) (by omega), ht⟩) (fun q hq => nomatch hq) dX1_settableFrom_18
  · refine zr_iconst hx hb dX1_settableFrom_5 ?_
    exact W.iret (v := zi_n 4) hx hb hr (fun t ht hW => ⟨_, rfl, zl_r (by unfold zh_sf; (repeat' split) <;> omega) (by omega), ht⟩) (fun q hq => nomatch hq) dX1_settableFrom_6

set_option maxHeartbeats 4000000 in
set_option maxRecDepth 100000 in
theorem c_R_settingPlace (l : Launch) (p0 : Int) (p1 : Int) (h0 : 0 ≤ p0 ∧ p0 ≤ 10) (h1 : 1 ≤ p1 ∧ p1 ≤ 8) : Met l yX1_settingPlace wsX1_settingPlace ({ frames := 0, cells := 0, slots := 0, locals := 0 }) (va_Pc [.int (zi_n p0), .int (zi_n p1)] (fun _ => True)) (vp_Si (fun r => r = zi_n (zh_sp p0 p1) ∧ 30 ≤ (zh_sp p0 p1) ∧ (zh_sp p0 p1) ≤ 50)) 0 0 (fun _ => False) := by
  refine Met.ofW (cc := cX1_settingPlace) (maxL := 2) (ret := (some .int)) (by decide) rfl ?_
  intro p e s m args below meth c s₁ B hml hv
  obtain ⟨rfl, -⟩ := hv
  have hx := B.exec
  have hb := B.bytes
  have hr := B.returns
  have hts := atoms_spec (ws := wsX1_settingPlace) B.pre
  have hown : s.vm.findClass RX1 = some m.cls := findClass_of_methodNamed B.named
  have hlocks := B.notSynchronized
  have hl := lv_entry ([.int (zi_n p0), .int (zi_n p1)]) (n := 2) (Nat.le_of_ble_eq_true rfl)
  rw [lg_entry_eq]
  generalize (lg_sl ([.int (zi_n p0), .int (zi_n p1)]) ++ List.replicate (2 - (lg_sl ([.int (zi_n p0), .int (zi_n p1)])).length) Slot.unset).toArray = ls at hl ⊢
  have hl : lv_has ls 2 [(0, .int (zi_n p0)), (1, .int (zi_n p1))] := hl
  refine lv_iload_n hx hb dX1_settingPlace_0 rfl (lv_at hl 0 rfl) ?_
  rcases (show p0 = 0 ∨ p0 = 1 ∨ p0 = 2 ∨ p0 = 3 ∨ p0 = 4 ∨ p0 = 5 ∨ p0 = 6 ∨ p0 = 7 ∨ p0 = 8 ∨ p0 = 9 ∨ p0 = 10 by omega) with rfl | rfl | rfl | rfl | rfl | rfl | rfl | rfl | rfl | rfl | rfl
  · skip
    refine zr_tabOut (tgt := 85) hx hb dX1_settingPlace_1 (by decide) (by decide) (by decide) ?_
    refine zr_bipush hx hb dX1_settingPlace_85 (by decide) ?_
    refine lv_iload_n hx hb dX1_settingPlace_87 rfl (lv_at hl 0 rfl) ?_
    refine zr_iadd hx hb dX1_settingPlace_88 ?_
    exact W.iret (v := zi_n 30) hx hb hr (fun t ht hW => ⟨_, rfl, zl_r (by unfold zh_sp; (repeat' split) <;> omega) (by omega), ht⟩) (fun q hq => nomatch hq) dX1_settingPlace_89
  · skip
    refine zr_tabOut (tgt := 85) hx hb dX1_settingPlace_1 (by decide) (by decide) (by decide) ?_
    refine zr_bipush hx hb dX1_settingPlace_85 (by decide) ?_
    refine lv_iload_n hx hb dX1_settingPlace_87 rfl (lv_at hl 0 rfl) ?_
    refine zr_iadd hx hb dX1_settingPlace_88 ?_
    exact W.iret (v := zi_n 31) hx hb hr (fun t ht hW => ⟨_, rfl, zl_r (by unfold zh_sp; (repeat' split) <;> omega) (by omega), ht⟩) (fun q hq => nomatch hq) dX1_settingPlace_89
  · skip
    refine zr_tabOut (tgt := 85) hx hb dX1_settingPlace_1 (by decide) (by decide) (by decide) ?_
    refine zr_bipush hx hb dX1_settingPlace_85 (by decide) ?_
    refine lv_iload_n hx hb dX1_settingPlace_87 rfl (lv_at hl 0 rfl) ?_
    refine zr_iadd hx hb dX1_settingPlace_88 ?_
    exact W.iret (v := zi_n 32) hx hb hr (fun t ht hW => ⟨_, rfl, zl_r (by unfold zh_sp; (repeat' split) <;> omega) (by omega), ht⟩) (fun q hq => nomatch hq) dX1_settingPlace_89
  · skip
    refine zr_tabOut (tgt := 85) hx hb dX1_settingPlace_1 (by decide) (by decide) (by decide) ?_
    refine zr_bipush hx hb dX1_settingPlace_85 (by decide) ?_
    refine lv_iload_n hx hb dX1_settingPlace_87 rfl (lv_at hl 0 rfl) ?_
    refine zr_iadd hx hb dX1_settingPlace_88 ?_
    exact W.iret (v := zi_n 33) hx hb hr (fun t ht hW => ⟨_, rfl, zl_r (by unfold zh_sp; (repeat' split) <;> omega) (by omega), ht⟩) (fun q hq => nomatch hq) dX1_settingPlace_89
  · skip
    refine zr_tabIn (tgt := 44) hx hb dX1_settingPlace_1 (by decide) (by decide) (by decide) rfl (by decide) ?_
    refine zr_bipush hx hb dX1_settingPlace_44 (by decide) ?_
    exact W.iret (v := zi_n 34) hx hb hr (fun t ht hW => ⟨_, rfl, zl_r (by unfold zh_sp; (repeat' split) <;> omega) (by omega), ht⟩) (fun q hq => nomatch hq) dX1_settingPlace_46
  · skip
    refine zr_tabIn (tgt := 47) hx hb dX1_settingPlace_1 (by decide) (by decide) (by decide) rfl (by decide) ?_
    refine zr_bipush hx hb dX1_settingPlace_47 (by decide) ?_
    exact W.iret (v := zi_n 36) hx hb hr (fun t ht hW => ⟨_, rfl, zl_r (by unfold zh_sp; (repeat' split) <;> omega) (by omega), ht⟩) (fun q hq => nomatch hq) dX1_settingPlace_49
  · skip
    refine zr_tabIn (tgt := 50) hx hb dX1_settingPlace_1 (by decide) (by decide) (by decide) rfl (by decide) ?_
    refine lv_iload_n hx hb dX1_settingPlace_50 rfl (lv_at hl 1 rfl) ?_
    refine zr_iconst hx hb dX1_settingPlace_51 ?_
    refine zr_icmp_ne (tgt := 60) hx hb dX1_settingPlace_52 (by decide) (by omega) (by omega) (fun c_2 => ?_) (fun c_2 => ?_)
    · refine zr_bipush hx hb dX1_settingPlace_60 (by decide) ?_
      exact W.iret (v := zi_n 39) hx hb hr (fun t ht hW => ⟨_, rfl, zl_r (by unfold zh_sp; (repeat' split) <;> omega) (by omega), ht⟩) (fun q hq => nomatch hq) dX1_settingPlace_62
    · refine zr_bipush hx hb dX1_settingPlace_55 (by decide) ?_
      refine lv_goto (tgt := 62) hx hb dX1_settingPlace_57 (by decide) ?_
      exact W.iret (v := zi_n 38) hx hb hr (fun t ht hW => ⟨_, rfl, zl_r (by unfold zh_sp; (repeat' split) <;> omega) (by omega), ht⟩) (fun q hq => nomatch hq) dX1_settingPlace_62
  · skip
    refine zr_tabIn (tgt := 63) hx hb dX1_settingPlace_1 (by decide) (by decide) (by decide) rfl (by decide) ?_
    refine lv_iload_n hx hb dX1_settingPlace_63 rfl (lv_at hl 1 rfl) ?_
    refine zr_iconst hx hb dX1_settingPlace_64 ?_
    refine zr_icmp_ne (tgt := 73) hx hb dX1_settingPlace_65 (by decide) (by omega) (by omega) (fun c_3 => ?_) (fun c_3 => ?_)
    · refine zr_bipush hx hb dX1_settingPlace_73 (by decide) ?_
      exact W.iret (v := zi_n 38) hx hb hr (fun t ht hW => ⟨_, rfl, zl_r (by unfold zh_sp; (repeat' split) <;> omega) (by omega), ht⟩) (fun q hq => nomatch hq) dX1_settingPlace_75
    · refine zr_bipush hx hb dX1_settingPlace_68 (by decide) ?_
      refine lv_goto (tgt := 75) hx hb dX1_settingPlace_70 (by decide) ?_
      exact W.iret (v := zi_n 39) hx hb hr (fun t ht hW => ⟨_, rfl, zl_r (by unfold zh_sp; (repeat' split) <;> omega) (by omega), ht⟩) (fun q hq => nomatch hq) dX1_settingPlace_75
  · skip
    refine zr_tabIn (tgt := 76) hx hb dX1_settingPlace_1 (by decide) (by decide) (by decide) rfl (by decide) ?_
    refine zr_bipush hx hb dX1_settingPlace_76 (by decide) ?_
    exact W.iret (v := zi_n 44) hx hb hr (fun t ht hW => ⟨_, rfl, zl_r (by unfold zh_sp; (repeat' split) <;> omega) (by omega), ht⟩) (fun q hq => nomatch hq) dX1_settingPlace_78
  · skip
    refine zr_tabIn (tgt := 79) hx hb dX1_settingPlace_1 (by decide) (by decide) (by decide) rfl (by decide) ?_
    refine zr_bipush hx hb dX1_settingPlace_79 (by decide) ?_
    exact W.iret (v := zi_n 45) hx hb hr (fun t ht hW => ⟨_, rfl, zl_r (by unfold zh_sp; (repeat' split) <;> omega) (by omega), ht⟩) (fun q hq => nomatch hq) dX1_settingPlace_81
  · skip
    refine zr_tabIn (tgt := 82) hx hb dX1_settingPlace_1 (by decide) (by decide) (by decide) rfl (by decide) ?_
    refine zr_bipush hx hb dX1_settingPlace_82 (by decide) ?_
    exact W.iret (v := zi_n 50) hx hb hr (fun t ht hW => ⟨_, rfl, zl_r (by unfold zh_sp; (repeat' split) <;> omega) (by omega), ht⟩) (fun q hq => nomatch hq) dX1_settingPlace_84

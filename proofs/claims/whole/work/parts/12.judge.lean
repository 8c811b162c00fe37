theorem in_X0_wordsHold_X0 : ∀ w ∈ u_ws RX0 TX0 1, w ∈ wsX0_wordsHold := by decide +kernel
set_option maxHeartbeats 4000000 in
set_option maxRecDepth 100000 in
theorem c_Hd_wordsHold (l : Launch) (D : va_G) (hh q a : Nat) (cA : ClassId) (F : Nat → Int) (n : Int) (hF : zi_By F) (hn : 0 ≤ n ∧ n ≤ 600) (h64 : 64 ≤ n) : Met l yX0_wordsHold wsX0_wordsHold ({ frames := 4, cells := 0, slots := 0, locals := 83 }) (va_Pc [.ref hh] (zp_Q D vwCl [(hh, .inr (2, [.ref q])), (q, .inr (3, [.ref a, .int (zi_n n)])), (a, .inl (cA, 600, .inl (zi_F F)))] [(cA, .int)])) (vp_Si (fun r => (r = zi_n 1 ∧ (zh_ok9 F n)) ∨ (r = zi_n 0 ∧ ¬ (zh_ok9 F n)))) 0 0 (fun _ => False) := by
  refine Met.ofW (cc := cX0_wordsHold) (maxL := 6) (ret := (some .boolean)) (by decide) rfl ?_
  intro p e s m args below meth c s₁ B hml hv
  obtain ⟨rfl, hP, hK⟩ := hv
  have hx := B.exec
  have hb := B.bytes
  have hr := B.returns
  have hts := atoms_spec (ws := wsX0_wordsHold) B.pre
  have hown : s.vm.findClass RX0 = some m.cls := findClass_of_methodNamed B.named
  have hlocks := B.notSynchronized
  have hl := lv_entry ([.ref hh]) (n := 6) (Nat.le_of_ble_eq_true rfl)
  rw [lg_entry_eq]
  generalize (lg_sl ([.ref hh]) ++ List.replicate (6 - (lg_sl ([.ref hh])).length) Slot.unset).toArray = ls at hl ⊢
  have hl : lv_has ls 6 [(0, .ref hh)] := hl
  have e1 : zh_sg F n = zh_at F n (zh_t F 8) := rfl
  have e2 : zh_eb F n = zh_at F n ((zh_t F 8 + 1) + zh_at F n (zh_t F 8)) := rfl
  have e3 : zh_told F n = zh_two F n ((zh_t F 8 + 2) + zh_at F n (zh_t F 8)) := rfl
  have e4 : zh_abs (zi_sh (zh_told F n)) * zh_eb F n = (if 0 ≤ zi_sh (zh_two F n ((zh_t F 8 + 2) + zh_at F n (zh_t F 8))) then zi_sh (zh_two F n ((zh_t F 8 + 2) + zh_at F n (zh_t F 8))) else -(zi_sh (zh_two F n ((zh_t F 8 + 2) + zh_at F n (zh_t F 8))))) * zh_at F n ((zh_t F 8 + 1) + zh_at F n (zh_t F 8)) := rfl
  have hm := zh_ee_b2 (zi_sh_b (zh_told F n)) (zh_at_b hF n (zh_t F 8 + 1 + zh_sg F n))
  have e5 : zh_eb F n = zh_at F n (zh_t F 8 + 1 + zh_sg F n) := rfl
  rw [← e5] at hm
  rw [e4] at hm
  have hs5 := zi_sh_b (zh_two F n ((zh_t F 8 + 2) + zh_at F n (zh_t F 8)))
  refine lv_aload_n hx hb dX0_wordsHold_0 rfl (lv_at hl 0 rfl) ?_
  refine zc_V (As := []) (rest := []) ⟨hx, hb, hml, hown, hts⟩ (c_Hd_words l D hh q a cA F n hF (by omega) (by omega)) (cwV 0 hts gX0_wordsHold_X0_words rfl rfl rfl (by decide +kernel) ⟨(Nat.le_of_ble_eq_true rfl), (Nat.le_of_ble_eq_true rfl)⟩) hP hK [0, 1, 2] [0] rfl rfl (ci := 2) rfl rfl rfl rfl hl.1 rfl (Nat.le_of_ble_eq_true rfl) dX0_wordsHold_1 ⟨Nat.zero_le _, Nat.zero_le _⟩ (fun r hr1 => ?_)
  obtain ⟨rfl, b_1⟩ := hr1
  refine lv_istore_n (lv' := [(1, .int (zi_n (zh_t F 8))), (0, .ref hh)]) hx hb dX0_wordsHold_4 rfl hl (by decide) rfl (fun ls hl => ?_)
  refine lv_aload_n hx hb dX0_wordsHold_5 rfl (lv_at hl 1 rfl) ?_
  refine va_get (D := D) (ci := 2) (v := .ref q) (C := RX0) (T := TX0) (N := 1) hx hb hts in_X0_wordsHold_X0 hown hK hP 0 rfl rfl 0 (by decide) (hts (.fieldLink RX0 9 "ZHeads$Head" "row" "LZHeads$Row;") (by decide +kernel)) (fun _ h9 => h9) rfl dX0_wordsHold_6 ?_
  refine lv_iload_n hx hb dX0_wordsHold_9 rfl (lv_at hl 0 rfl) ?_
  refine zc_V (As := [.int (zi_n (zh_t F 8))]) (rest := []) ⟨hx, hb, hml, hown, hts⟩ (c_Row_at l D q a cA F n hF (by omega) (zh_t F 8) (by omega)) (cwV 1 hts gX0_wordsHold_X2_at rfl rfl rfl (by decide +kernel) ⟨(Nat.le_of_ble_eq_true rfl), (Nat.le_of_ble_eq_true rfl)⟩) hP hK [1, 2] [0] rfl rfl (ci := 3) rfl rfl rfl rfl hl.1 rfl (Nat.le_of_ble_eq_true rfl) dX0_wordsHold_10 ⟨Nat.zero_le _, Nat.zero_le _⟩ (fun r hr1 => ?_)
  obtain ⟨rfl, b_2⟩ := hr1
  refine lv_istore_n (lv' := [(2, .int (zi_n (zh_at F n (zh_t F 8)))), (1, .int (zi_n (zh_t F 8))), (0, .ref hh)]) hx hb dX0_wordsHold_13 rfl hl (by decide) rfl (fun ls hl => ?_)
  refine lv_iload_n hx hb dX0_wordsHold_14 rfl (lv_at hl 1 rfl) ?_
  refine zr_bipush hx hb dX0_wordsHold_15 (by decide) ?_
  refine zr_icmp_lt (tgt := 25) hx hb dX0_wordsHold_17 (by decide) (by omega) (by omega) (fun c_3 => ?_) (fun c_3 => ?_)
  · refine zr_iconst hx hb dX0_wordsHold_25 ?_
    exact W.zret (v := zi_n 0) (ty := .boolean) hx hb hr zl_b0 (fun t ht hW => ⟨_, rfl, zl_f (by unfold zh_ok9; split <;> omega), ht⟩) (fun q hq => nomatch hq) dX0_wordsHold_26
  · refine lv_iload_n hx hb dX0_wordsHold_20 rfl (lv_at hl 0 rfl) ?_
    refine zr_iconst hx hb dX0_wordsHold_21 ?_
    refine zr_icmp_ne (tgt := 27) hx hb dX0_wordsHold_22 (by decide) (by omega) (by omega) (fun c_4 => ?_) (fun c_4 => ?_)
    · refine lv_aload_n hx hb dX0_wordsHold_27 rfl (lv_at hl 2 rfl) ?_
      refine va_get (D := D) (ci := 2) (v := .ref q) (C := RX0) (T := TX0) (N := 1) hx hb hts in_X0_wordsHold_X0 hown hK hP 0 rfl rfl 0 (by decide) (hts (.fieldLink RX0 9 "ZHeads$Head" "row" "LZHeads$Row;") (by decide +kernel)) (fun _ h9 => h9) rfl dX0_wordsHold_28 ?_
      refine lv_iload_n hx hb dX0_wordsHold_31 rfl (lv_at hl 1 rfl) ?_
      refine zr_iconst hx hb dX0_wordsHold_32 ?_
      refine zr_iadd hx hb dX0_wordsHold_33 ?_
      refine lv_iload_n hx hb dX0_wordsHold_34 rfl (lv_at hl 0 rfl) ?_
      refine zr_iadd hx hb dX0_wordsHold_35 ?_
      refine zc_V (As := [.int (zi_n (((zh_t F 8) + 1) + (zh_at F n (zh_t F 8))))]) (rest := []) ⟨hx, hb, hml, hown, hts⟩ (c_Row_at l D q a cA F n hF (by omega) (((zh_t F 8) + 1) + (zh_at F n (zh_t F 8))) (by omega)) (cwV 1 hts gX0_wordsHold_X2_at rfl rfl rfl (by decide +kernel) ⟨(Nat.le_of_ble_eq_true rfl), (Nat.le_of_ble_eq_true rfl)⟩) hP hK [1, 2] [0] rfl rfl (ci := 3) rfl rfl rfl rfl hl.1 rfl (Nat.le_of_ble_eq_true rfl) dX0_wordsHold_36 ⟨Nat.zero_le _, Nat.zero_le _⟩ (fun r hr1 => ?_)
      obtain ⟨rfl, b_5⟩ := hr1
      refine lv_istore_n (lv' := [(3, .int (zi_n (zh_at F n (((zh_t F 8) + 1) + (zh_at F n (zh_t F 8)))))), (2, .int (zi_n (zh_at F n (zh_t F 8)))), (1, .int (zi_n (zh_t F 8))), (0, .ref hh)]) hx hb dX0_wordsHold_39 rfl hl (by decide) rfl (fun ls hl => ?_)
      refine lv_aload_n hx hb dX0_wordsHold_40 rfl (lv_at hl 3 rfl) ?_
      refine va_get (D := D) (ci := 2) (v := .ref q) (C := RX0) (T := TX0) (N := 1) hx hb hts in_X0_wordsHold_X0 hown hK hP 0 rfl rfl 0 (by decide) (hts (.fieldLink RX0 9 "ZHeads$Head" "row" "LZHeads$Row;") (by decide +kernel)) (fun _ h9 => h9) rfl dX0_wordsHold_41 ?_
      refine lv_iload_n hx hb dX0_wordsHold_44 rfl (lv_at hl 2 rfl) ?_
      refine zr_iconst hx hb dX0_wordsHold_45 ?_
      refine zr_iadd hx hb dX0_wordsHold_46 ?_
      refine lv_iload_n hx hb dX0_wordsHold_47 rfl (lv_at hl 1 rfl) ?_
      refine zr_iadd hx hb dX0_wordsHold_48 ?_
      refine zc_V (As := [.int (zi_n (((zh_t F 8) + 2) + (zh_at F n (zh_t F 8))))]) (rest := []) ⟨hx, hb, hml, hown, hts⟩ (c_Row_two l D q a cA F n hF (by omega) (((zh_t F 8) + 2) + (zh_at F n (zh_t F 8))) (by omega)) (cwV 1 hts gX0_wordsHold_X2_two rfl rfl rfl (by decide +kernel) ⟨(Nat.le_of_ble_eq_true rfl), (Nat.le_of_ble_eq_true rfl)⟩) hP hK [1, 2] [0] rfl rfl (ci := 3) rfl rfl rfl rfl hl.1 rfl (Nat.le_of_ble_eq_true rfl) dX0_wordsHold_49 ⟨Nat.zero_le _, Nat.zero_le _⟩ (fun r hr1 => ?_)
      obtain ⟨rfl, b_6⟩ := hr1
      refine lv_istore (lv' := [(4, .int (zi_n (zh_two F n (((zh_t F 8) + 2) + (zh_at F n (zh_t F 8)))))), (3, .int (zi_n (zh_at F n (((zh_t F 8) + 1) + (zh_at F n (zh_t F 8)))))), (2, .int (zi_n (zh_at F n (zh_t F 8)))), (1, .int (zi_n (zh_t F 8))), (0, .ref hh)]) hx hb dX0_wordsHold_52 hl (by decide) rfl (fun ls hl => ?_)
      refine lv_iload_n hx hb dX0_wordsHold_54 rfl (lv_at hl 1 rfl) ?_
      refine lv_aload_n hx hb dX0_wordsHold_55 rfl (lv_at hl 4 rfl) ?_
      refine zc_V (As := []) (rest := [.int (zi_n (zh_at F n (((zh_t F 8) + 1) + (zh_at F n (zh_t F 8)))))]) ⟨hx, hb, hml, hown, hts⟩ (c_Hd_version l D hh q a cA F n hF (by omega) (by omega)) (cwV 0 hts gX0_wordsHold_X0_version rfl rfl rfl (by decide +kernel) ⟨(Nat.le_of_ble_eq_true rfl), (Nat.le_of_ble_eq_true rfl)⟩) hP hK [0, 1, 2] [0] rfl rfl (ci := 2) rfl rfl rfl rfl hl.1 rfl (Nat.le_of_ble_eq_true rfl) dX0_wordsHold_56 ⟨Nat.zero_le _, Nat.zero_le _⟩ (fun r hr1 => ?_)
      obtain ⟨rfl, b_7⟩ := hr1
      refine zr_iconst hx hb dX0_wordsHold_59 ?_
      refine zr_icmp_gt (tgt := 67) hx hb dX0_wordsHold_60 (by decide) (by omega) (by omega) (fun c_8 => ?_) (fun c_8 => ?_)
      · refine zr_bipush hx hb dX0_wordsHold_67 (by decide) ?_
        refine zr_icmp_lt (tgt := 78) hx hb dX0_wordsHold_69 (by decide) (by omega) (by omega) (fun c_9 => ?_) (fun c_9 => ?_)
        · refine zr_iconst hx hb dX0_wordsHold_78 ?_
          exact W.zret (v := zi_n 0) (ty := .boolean) hx hb hr zl_b0 (fun t ht hW => ⟨_, rfl, zl_f (by unfold zh_ok9; split <;> omega), ht⟩) (fun q hq => nomatch hq) dX0_wordsHold_79
        · refine lv_iload hx hb dX0_wordsHold_72 (lv_at hl 0 rfl) ?_
          refine zr_iconst hx hb dX0_wordsHold_74 ?_
          refine zr_icmp_ne (tgt := 80) hx hb dX0_wordsHold_75 (by decide) (by omega) (by omega) (fun c_10 => ?_) (fun c_10 => ?_)
          · refine lv_iload hx hb dX0_wordsHold_80 (lv_at hl 0 rfl) ?_
            refine zr_i2s hx hb dX0_wordsHold_82 (by omega) ?_
            refine zr_mabs hx hb (by rw [hml]; exact hl.1.symm) hown (hts (.methodLink RX0 106 Lib.Math.abs.name) (by decide +kernel)) (hts (.static Lib.Math.abs.name) (by decide +kernel)) (hts (.initialized "java/lang/Math") (by decide +kernel)) (hts _ (by decide +kernel)) (Nat.le_of_ble_eq_true rfl) (Nat.le_of_ble_eq_true rfl) (Nat.zero_le _) (Nat.zero_le _) (by omega) (by omega) dX0_wordsHold_83 ?_
            refine lv_istore (lv' := [(5, .int (zi_n (if 0 ≤ zi_sh (zh_two F n (((zh_t F 8) + 2) + (zh_at F n (zh_t F 8)))) then (zi_sh (zh_two F n (((zh_t F 8) + 2) + (zh_at F n (zh_t F 8))))) else -(zi_sh (zh_two F n (((zh_t F 8) + 2) + (zh_at F n (zh_t F 8)))))))), (4, .int (zi_n (zh_two F n (((zh_t F 8) + 2) + (zh_at F n (zh_t F 8)))))), (3, .int (zi_n (zh_at F n (((zh_t F 8) + 1) + (zh_at F n (zh_t F 8)))))), (2, .int (zi_n (zh_at F n (zh_t F 8)))), (1, .int (zi_n (zh_t F 8))), (0, .ref hh)]) hx hb dX0_wordsHold_86 hl (by decide) rfl (fun ls hl => ?_)
            refine lv_iload_n hx hb dX0_wordsHold_88 rfl (lv_at hl 4 rfl) ?_
            refine zr_iconst hx hb dX0_wordsHold_89 ?_
            refine zr_iadd hx hb dX0_wordsHold_90 ?_
            refine lv_iload_n hx hb dX0_wordsHold_91 rfl (lv_at hl 3 rfl) ?_
            refine zr_iadd hx hb dX0_wordsHold_92 ?_
            refine lv_iload hx hb dX0_wordsHold_93 (lv_at hl 0 rfl) ?_
            refine lv_iload_n hx hb dX0_wordsHold_95 rfl (lv_at hl 2 rfl) ?_
            refine zr_imul hx hb dX0_wordsHold_96 ?_
            refine zr_iadd hx hb dX0_wordsHold_97 ?_
            refine lv_aload_n hx hb dX0_wordsHold_98 rfl (lv_at hl 5 rfl) ?_
            refine zc_V (As := []) (rest := [.int (zi_n ((((zh_t F 8) + 4) + (zh_at F n (zh_t F 8))) + ((if 0 ≤ zi_sh (zh_two F n (((zh_t F 8) + 2) + (zh_at F n (zh_t F 8)))) then (zi_sh (zh_two F n (((zh_t F 8) + 2) + (zh_at F n (zh_t F 8))))) else -(zi_sh (zh_two F n (((zh_t F 8) + 2) + (zh_at F n (zh_t F 8)))))) * (zh_at F n (((zh_t F 8) + 1) + (zh_at F n (zh_t F 8)))))))]) ⟨hx, hb, hml, hown, hts⟩ (c_Hd_length l D hh q a cA F n hF (by omega) (by omega)) (cwV 0 hts gX0_wordsHold_X0_length rfl rfl rfl (by decide +kernel) ⟨(Nat.le_of_ble_eq_true rfl), (Nat.le_of_ble_eq_true rfl)⟩) hP hK [0, 1, 2] [0] rfl rfl (ci := 2) rfl rfl rfl rfl hl.1 rfl (Nat.le_of_ble_eq_true rfl) dX0_wordsHold_99 ⟨Nat.zero_le _, Nat.zero_le _⟩ (fun r hr1 => ?_)
            obtain ⟨rfl, b_11⟩ := hr1
            refine zr_icmp_gt (tgt := 109) hx hb dX0_wordsHold_102 (by decide) (by omega) (by omega) (fun c_12 => ?_) (fun c_12 => ?_)
            · refine zr_iconst hx hb dX0_wordsHold_109 ?_
              exact W.zret (v := zi_n 0) (ty := .boolean) hx hb hr zl_b0 (fun t ht hW => ⟨_, rfl, zl_f (by unfold zh_ok9; split <;> omega), ht⟩) (fun q hq => nomatch hq) dX0_wordsHold_110
            · refine zr_iconst hx hb dX0_wordsHold_105 ?_
              refine lv_goto (tgt := 110) hx hb dX0_wordsHold_106 (by decide) ?_
              exact W.zret (v := zi_n 1) (ty := .boolean) hx hb hr zl_b1 (fun t ht hW => ⟨_, rfl, zl_t (by unfold zh_ok9; split <;> omega), ht⟩) (fun q hq => nomatch hq) dX0_wordsHold_110
          · refine zr_iconst hx hb dX0_wordsHold_78 ?_
            exact W.zret (v := zi_n 0) (ty := .boolean) hx hb hr zl_b0 (fun t ht hW => ⟨_, rfl, zl_f (by unfold zh_ok9; split <;> omega), ht⟩) (fun q hq => nomatch hq) dX0_wordsHold_79
      · refine zr_iconst hx hb dX0_wordsHold_63 ?_
        refine lv_goto (tgt := 69) hx hb dX0_wordsHold_64 (by decide) ?_
        refine zr_icmp_lt (tgt := 78) hx hb dX0_wordsHold_69 (by decide) (by omega) (by omega) (fun c_13 => ?_) (fun c_13 => ?_)
        · refine zr_iconst hx hb dX0_wordsHold_78 ?_
          exact W.zret (v := zi_n 0) (ty := .boolean) hx hb hr zl_b0 (fun t ht hW => ⟨_, rfl, zl_f (by unfold zh_ok9; split <;> omega), ht⟩) (fun q hq => nomatch hq) dX0_wordsHold_79
        · refine lv_iload hx hb dX0_wordsHold_72 (lv_at hl 0 rfl) ?_
          refine zr_iconst hx hb dX0_wordsHold_74 ?_
          refine zr_icmp_ne (tgt := 80) hx hb dX0_wordsHold_75 (by decide) (by omega) (by omega) (fun c_14 => ?_) (fun c_14 => ?_)
          · refine lv_iload hx hb dX0_wordsHold_80 (lv_at hl 0 rfl) ?_
            refine zr_i2s hx hb dX0_wordsHold_82 (by omega) ?_
            refine zr_mabs hx hb (by rw [hml]; exact hl.1.symm) hown (hts (.methodLink RX0 106 Lib.Math.abs.name) (by decide +kernel)) (hts (.static Lib.Math.abs.name) (by decide +kernel)) (hts (.initialized "java/lang/Math") (by decide +kernel)) (hts _ (by decide +kernel)) (Nat.le_of_ble_eq_true rfl) (Nat.le_of_ble_eq_true rfl) (Nat.zero_le _) (Nat.zero_le _) (by omega) (by omega) dX0_wordsHold_83 ?_
            refine lv_istore (lv' := [(5, .int (zi_n (if 0 ≤ zi_sh (zh_two F n (((zh_t F 8) + 2) + (zh_at F n (zh_t F 8)))) then (zi_sh (zh_two F n (((zh_t F 8) + 2) + (zh_at F n (zh_t F 8))))) else -(zi_sh (zh_two F n (((zh_t F 8) + 2) + (zh_at F n (zh_t F 8)))))))), (4, .int (zi_n (zh_two F n (((zh_t F 8) + 2) + (zh_at F n (zh_t F 8)))))), (3, .int (zi_n (zh_at F n (((zh_t F 8) + 1) + (zh_at F n (zh_t F 8)))))), (2, .int (zi_n (zh_at F n (zh_t F 8)))), (1, .int (zi_n (zh_t F 8))), (0, .ref hh)]) hx hb dX0_wordsHold_86 hl (by decide) rfl (fun ls hl => ?_)
            refine lv_iload_n hx hb dX0_wordsHold_88 rfl (lv_at hl 4 rfl) ?_
            refine zr_iconst hx hb dX0_wordsHold_89 ?_
            refine zr_iadd hx hb dX0_wordsHold_90 ?_
            refine lv_iload_n hx hb dX0_wordsHold_91 rfl (lv_at hl 3 rfl) ?_
            refine zr_iadd hx hb dX0_wordsHold_92 ?_
            refine lv_iload hx hb dX0_wordsHold_93 (lv_at hl 0 rfl) ?_
            refine lv_iload_n hx hb dX0_wordsHold_95 rfl (lv_at hl 2 rfl) ?_
            refine zr_imul hx hb dX0_wordsHold_96 ?_
            refine zr_iadd hx hb dX0_wordsHold_97 ?_
            refine lv_aload_n hx hb dX0_wordsHold_98 rfl (lv_at hl 5 rfl) ?_
            refine zc_V (As := []) (rest := [.int (zi_n ((((zh_t F 8) + 4) + (zh_at F n (zh_t F 8))) + ((if 0 ≤ zi_sh (zh_two F n (((zh_t F 8) + 2) + (zh_at F n (zh_t F 8)))) then (zi_sh (zh_two F n (((zh_t F 8) + 2) + (zh_at F n (zh_t F 8))))) else -(zi_sh (zh_two F n (((zh_t F 8) + 2) + (zh_at F n (zh_t F 8)))))) * (zh_at F n (((zh_t F 8) + 1) + (zh_at F n (zh_t F 8)))))))]) ⟨hx, hb, hml, hown, hts⟩ (c_Hd_length l D hh q a cA F n hF (by omega) (by omega)) (cwV 0 hts gX0_wordsHold_X0_length rfl rfl rfl (by decide +kernel) ⟨(Nat.le_of_ble_eq_true rfl), (Nat.le_of_ble_eq_true rfl)⟩) hP hK [0, 1, 2] [0] rfl rfl (ci := 2) rfl rfl rfl rfl hl.1 rfl (Nat.le_of_ble_eq_true rfl) dX0_wordsHold_99 ⟨Nat.zero_le _, Nat.zero_le _⟩ (fun r hr1 => ?_)
            obtain ⟨rfl, b_15⟩ := hr1
            refine zr_icmp_gt (tgt := 109) hx hb dX0_wordsHold_102 (by decide) (by omega) (by omega) (fun c_16 => ?_) (fun c_16 => ?_)
            · refine zr_iconst hx hb dX0_wordsHold_109 ?_
              exact W.zret (v := zi_n 0) (ty := .boolean) hx hb hr zl_b0 (fun t ht hW => ⟨_, rfl, zl_f (by unfold zh_ok9; split <;> omega), ht⟩) (fun q hq => nomatch hq) dX0_wordsHold_110
            · refine zr_iconst hx hb dX0_wordsHold_105 ?_
              refine lv_goto (tgt := 110) hx hb dX0_wordsHold_106 (by decide) ?_
              exact W.zret (v := zi_n 1) (ty := .boolean) hx hb hr zl_b1 (fun t ht hW => ⟨_, rfl, zl_t (by unfold zh_ok9; split <;> omega), ht⟩) (fun q hq => nomatch hq) dX0_wordsHold_110
          · refine zr_iconst hx hb dX0_wordsHold_78 ?_
            exact W.zret (v := zi_n 0) (ty := .boolean) hx hb hr zl_b0 (fun t ht hW => ⟨_, rfl, zl_f (by unfold zh_ok9; split <;> omega), ht⟩) (fun q hq => nomatch hq) dX0_wordsHold_79
    · refine zr_iconst hx hb dX0_wordsHold_25 ?_
      exact W.zret (v := zi_n 0) (ty := .boolean) hx hb hr zl_b0 (fun t ht hW => ⟨_, rfl, zl_f (by unfold zh_ok9; split <;> omega), ht⟩) (fun q hq => nomatch hq) dX0_wordsHold_26

theorem in_X0_endsHold_X0 : ∀ w ∈ u_ws RX0 TX0 1, w ∈ wsX0_endsHold := by decide +kernel
set_option maxHeartbeats 4000000 in
set_option maxRecDepth 100000 in
theorem c_Hd_endsHold (l : Launch) (D : va_G) (hh q a : Nat) (cA : ClassId) (F : Nat → Int) (n : Int) (hF : zi_By F) (hn : 0 ≤ n ∧ n ≤ 600) (h64 : 64 ≤ n) (hL : zh_len F n ≤ n) : Met l yX0_endsHold wsX0_endsHold ({ frames := 4, cells := 0, slots := 0, locals := 83 }) (va_Pc [.ref hh] (zp_Q D vwCl [(hh, .inr (2, [.ref q])), (q, .inr (3, [.ref a, .int (zi_n n)])), (a, .inl (cA, 600, .inl (zi_F F)))] [(cA, .int)])) (vp_Si (fun r => (r = zi_n 1 ∧ (64 ≤ zh_ends F ∧ ∃ j : Int, zh_ends F ≤ j ∧ j < zh_len F n ∧ F j.toNat = 0)) ∨ (r = zi_n 0 ∧ ¬ (64 ≤ zh_ends F ∧ ∃ j : Int, zh_ends F ≤ j ∧ j < zh_len F n ∧ F j.toNat = 0)))) 0 0 (fun _ => False) := by
  refine Met.ofW (cc := cX0_endsHold) (maxL := 4) (ret := (some .boolean)) (by decide) rfl ?_
  intro p e s m args below meth c s₁ B hml hv
  obtain ⟨rfl, hP, hK⟩ := hv
  have hx := B.exec
  have hb := B.bytes
  have hr := B.returns
  have hts := atoms_spec (ws := wsX0_endsHold) B.pre
  have hown : s.vm.findClass RX0 = some m.cls := findClass_of_methodNamed B.named
  have hlocks := B.notSynchronized
  have hl := lv_entry ([.ref hh]) (n := 4) (Nat.le_of_ble_eq_true rfl)
  rw [lg_entry_eq]
  generalize (lg_sl ([.ref hh]) ++ List.replicate (4 - (lg_sl ([.ref hh])).length) Slot.unset).toArray = ls at hl ⊢
  have hl : lv_has ls 4 [(0, .ref hh)] := hl
  refine lv_aload_n hx hb dX0_endsHold_0 rfl (lv_at hl 0 rfl) ?_
  refine zc_V (As := []) (rest := []) ⟨hx, hb, hml, hown, hts⟩ (c_Hd_ends l D hh q a cA F n hF (by omega) (by omega)) (cwV 0 hts gX0_endsHold_X0_ends rfl rfl rfl (by decide +kernel) ⟨(Nat.le_of_ble_eq_true rfl), (Nat.le_of_ble_eq_true rfl)⟩) hP hK [0, 1, 2] [0] rfl rfl (ci := 2) rfl rfl rfl rfl hl.1 rfl (Nat.le_of_ble_eq_true rfl) dX0_endsHold_1 ⟨Nat.zero_le _, Nat.zero_le _⟩ (fun r hr1 => ?_)
  obtain ⟨rfl, b_1⟩ := hr1
  refine lv_istore_n (lv' := [(1, .int (zi_n (zh_ends F))), (0, .ref hh)]) hx hb dX0_endsHold_4 rfl hl (by decide) rfl (fun ls hl => ?_)
  refine lv_aload_n hx hb dX0_endsHold_5 rfl (lv_at hl 1 rfl) ?_
  refine zc_V (As := []) (rest := []) ⟨hx, hb, hml, hown, hts⟩ (c_Hd_length l D hh q a cA F n hF (by omega) (by omega)) (cwV 0 hts gX0_endsHold_X0_length rfl rfl rfl (by decide +kernel) ⟨(Nat.le_of_ble_eq_true rfl), (Nat.le_of_ble_eq_true rfl)⟩) hP hK [0, 1, 2] [0] rfl rfl (ci := 2) rfl rfl rfl rfl hl.1 rfl (Nat.le_of_ble_eq_true rfl) dX0_endsHold_6 ⟨Nat.zero_le _, Nat.zero_le _⟩ (fun r hr1 => ?_)
  obtain ⟨rfl, b_2⟩ := hr1
  refine lv_istore_n (lv' := [(2, .int (zi_n (zh_len F n))), (1, .int (zi_n (zh_ends F))), (0, .ref hh)]) hx hb dX0_endsHold_9 rfl hl (by decide) rfl (fun ls hl => ?_)
  refine lv_iload_n hx hb dX0_endsHold_10 rfl (lv_at hl 1 rfl) ?_
  refine zr_bipush hx hb dX0_endsHold_11 (by decide) ?_
  refine zr_icmp_ge (tgt := 18) hx hb dX0_endsHold_13 (by decide) (by omega) (by omega) (fun c_3 => ?_) (fun c_3 => ?_)
  · refine lv_iload_n hx hb dX0_endsHold_18 rfl (lv_at hl 1 rfl) ?_
    refine lv_istore_n (lv' := [(3, .int (zi_n (zh_ends F))), (2, .int (zi_n (zh_len F n))), (1, .int (zi_n (zh_ends F))), (0, .ref hh)]) hx hb dX0_endsHold_19 rfl hl (by decide) rfl (fun ls hl => ?_)
    have key : ∀ (N : Nat) (i : Int), (zh_ends F ≤ i) → (∀ j : Int, zh_ends F ≤ j → j < i → F j.toNat ≠ 0) → (i ≤ 70000) → 70000 - i < N → ∀ ls : Array Slot, lv_has ls 4 [(3, .int (zi_n i)), (2, .int (zi_n (zh_len F n))), (1, .int (zi_n (zh_ends F))), (0, .ref hh)] → W p l e (headSpec wsX0_endsHold ({ frames := 4, cells := 0, slots := 0, locals := 83 })).room s m ([.ref hh] : List Value).toArray below meth c s.heap [] 0 0 (MQ below (vp_Si (fun r => (r = zi_n 1 ∧ (64 ≤ zh_ends F ∧ ∃ j : Int, zh_ends F ≤ j ∧ j < zh_len F n ∧ F j.toNat = 0)) ∨ (r = zi_n 0 ∧ ¬ (64 ≤ zh_ends F ∧ ∃ j : Int, zh_ends F ≤ j ∧ j < zh_len F n ∧ F j.toNat = 0)))) ([.ref hh] : List Value).toArray s 0 0 (fun _ => False)) (F0 m 20 ls []) := by
      intro N
      induction N with
      | zero => intro i h1 h2 h3 hm ls hl; exfalso; omega
      | succ N ih =>
        intro i h1 h2 h3 hm ls hl
        refine lv_iload_n hx hb dX0_endsHold_20 rfl (lv_at hl 0 rfl) ?_
        refine lv_iload_n hx hb dX0_endsHold_21 rfl (lv_at hl 1 rfl) ?_
        refine zr_icmp_ge (tgt := 44) hx hb dX0_endsHold_22 (by decide) (by omega) (by omega) (fun c_4 => ?_) (fun c_4 => ?_)
        · refine zr_iconst hx hb dX0_endsHold_44 ?_
          exact W.zret (v := zi_n 0) (ty := .boolean) hx hb hr zl_b0 (fun t ht hW => ⟨_, rfl, zl_f (fun ⟨_, j, j1, j2, j3⟩ => h2 j j1 (by omega) j3), ht⟩) (fun q hq => nomatch hq) dX0_endsHold_45
        · refine lv_aload_n hx hb dX0_endsHold_25 rfl (lv_at hl 3 rfl) ?_
          refine va_get (D := D) (ci := 2) (v := .ref q) (C := RX0) (T := TX0) (N := 1) hx hb hts in_X0_endsHold_X0 hown hK hP 0 rfl rfl 0 (by decide) (hts (.fieldLink RX0 9 "ZHeads$Head" "row" "LZHeads$Row;") (by decide +kernel)) (fun _ h9 => h9) rfl dX0_endsHold_26 ?_
          refine lv_iload_n hx hb dX0_endsHold_29 rfl (lv_at hl 0 rfl) ?_
          refine zc_V (As := [.int (zi_n i)]) (rest := []) ⟨hx, hb, hml, hown, hts⟩ (c_Row_at l D q a cA F n hF (by omega) i (by omega)) (cwV 1 hts gX0_endsHold_X2_at rfl rfl rfl (by decide +kernel) ⟨(Nat.le_of_ble_eq_true rfl), (Nat.le_of_ble_eq_true rfl)⟩) hP hK [1, 2] [0] rfl rfl (ci := 3) rfl rfl rfl rfl hl.1 rfl (Nat.le_of_ble_eq_true rfl) dX0_endsHold_30 ⟨Nat.zero_le _, Nat.zero_le _⟩ (fun r hr1 => ?_)
          obtain ⟨rfl, b_5⟩ := hr1
          refine zr_if_ne (tgt := 38) hx hb dX0_endsHold_33 (by decide) (by omega) (fun c_6 => ?_) (fun c_6 => ?_)
          · refine zr_iinc (lv' := [(3, .int (zi_n (i + 1))), (2, .int (zi_n (zh_len F n))), (1, .int (zi_n (zh_ends F))), (0, .ref hh)]) hx hb dX0_endsHold_38 hl (k := 0) rfl (by decide) rfl (fun ls hl => ?_)
            refine lv_goto (tgt := 20) hx hb dX0_endsHold_41 (by decide) ?_
            exact ih (i + 1) (by omega) (fun j a b => by
      rcases (show j < i ∨ j = i by omega) with q | q
      · exact h2 j a q
      · subst q; rw [zh_at_in ⟨by omega, by omega⟩] at c_6; exact c_6) (by omega) (by omega) _ (lv_sub hl [0, 1, 2, 3] rfl)
          · refine zr_iconst hx hb dX0_endsHold_36 ?_
            exact W.zret (v := zi_n 1) (ty := .boolean) hx hb hr zl_b1 (fun t ht hW => ⟨_, rfl, zl_t ⟨by omega, i, by omega, by omega, by rw [zh_at_in ⟨by omega, by omega⟩] at c_6; exact c_6⟩, ht⟩) (fun q hq => nomatch hq) dX0_endsHold_37
    exact key 70001 (zh_ends F) (by omega) (fun j a b => by omega) (by omega) (by omega) _ hl
  · refine zr_iconst hx hb dX0_endsHold_16 ?_
    exact W.zret (v := zi_n 0) (ty := .boolean) hx hb hr zl_b0 (fun t ht hW => ⟨_, rfl, zl_f (fun h => by omega), ht⟩) (fun q hq => nomatch hq) dX0_endsHold_17

set_option maxHeartbeats 4000000 in
set_option maxRecDepth 100000 in
theorem c_Hd_moreHolds (l : Launch) (D : va_G) (hh q a : Nat) (cA : ClassId) (F : Nat → Int) (n : Int) (hF : zi_By F) (hn : 0 ≤ n ∧ n ≤ 600) (h64 : 64 ≤ n) : Met l yX0_moreHolds wsX0_moreHolds ({ frames := 4, cells := 0, slots := 0, locals := 83 }) (va_Pc [.ref hh] (zp_Q D vwCl [(hh, .inr (2, [.ref q])), (q, .inr (3, [.ref a, .int (zi_n n)])), (a, .inl (cA, 600, .inl (zi_F F)))] [(cA, .int)])) (vp_Si (fun r => (r = zi_n 1 ∧ (zh_mw F n ≠ -1 ∧ 64 ≤ zh_more F ∧ zh_more F + (2 + 2 * zh_mw F n) ≤ zh_len F n)) ∨ (r = zi_n 0 ∧ ¬ (zh_mw F n ≠ -1 ∧ 64 ≤ zh_more F ∧ zh_more F + (2 + 2 * zh_mw F n) ≤ zh_len F n)))) 0 0 (fun _ => False) := by
  refine Met.ofW (cc := cX0_moreHolds) (maxL := 2) (ret := (some .boolean)) (by decide) rfl ?_
  intro p e s m args below meth c s₁ B hml hv
  obtain ⟨rfl, hP, hK⟩ := hv
  have hx := B.exec
  have hb := B.bytes
  have hr := B.returns
  have hts := atoms_spec (ws := wsX0_moreHolds) B.pre
  have hown : s.vm.findClass RX0 = some m.cls := findClass_of_methodNamed B.named
  have hlocks := B.notSynchronized
  have hl := lv_entry ([.ref hh]) (n := 2) (Nat.le_of_ble_eq_true rfl)
  rw [lg_entry_eq]
  generalize (lg_sl ([.ref hh]) ++ List.replicate (2 - (lg_sl ([.ref hh])).length) Slot.unset).toArray = ls at hl ⊢
  have hl : lv_has ls 2 [(0, .ref hh)] := hl
  refine lv_aload_n hx hb dX0_moreHolds_0 rfl (lv_at hl 0 rfl) ?_
  refine zc_V (As := []) (rest := []) ⟨hx, hb, hml, hown, hts⟩ (c_Hd_moreWords l D hh q a cA F n hF (by omega) (by omega)) (cwV 0 hts gX0_moreHolds_X0_moreWords rfl rfl rfl (by decide +kernel) ⟨(Nat.le_of_ble_eq_true rfl), (Nat.le_of_ble_eq_true rfl)⟩) hP hK [0, 1, 2] [0] rfl rfl (ci := 2) rfl rfl rfl rfl hl.1 rfl (Nat.le_of_ble_eq_true rfl) dX0_moreHolds_1 ⟨Nat.zero_le _, Nat.zero_le _⟩ (fun r hr1 => ?_)
  obtain ⟨rfl, b_1⟩ := hr1
  refine lv_istore_n (lv' := [(1, .int (zi_n (zh_mw F n))), (0, .ref hh)]) hx hb dX0_moreHolds_4 rfl hl (by decide) rfl (fun ls hl => ?_)
  refine lv_iload_n hx hb dX0_moreHolds_5 rfl (lv_at hl 0 rfl) ?_
  refine zr_iconst hx hb dX0_moreHolds_6 ?_
  refine zr_icmp_eq (tgt := 33) hx hb dX0_moreHolds_7 (by decide) (by omega) (by omega) (fun c_2 => ?_) (fun c_2 => ?_)
  · refine zr_iconst hx hb dX0_moreHolds_33 ?_
    exact W.zret (v := zi_n 0) (ty := .boolean) hx hb hr zl_b0 (fun t ht hW => ⟨_, rfl, zl_f (by omega), ht⟩) (fun q hq => nomatch hq) dX0_moreHolds_34
  · refine lv_aload_n hx hb dX0_moreHolds_10 rfl (lv_at hl 1 rfl) ?_
    refine zc_V (As := []) (rest := []) ⟨hx, hb, hml, hown, hts⟩ (c_Hd_more l D hh q a cA F n hF (by omega) (by omega)) (cwV 0 hts gX0_moreHolds_X0_more rfl rfl rfl (by decide +kernel) ⟨(Nat.le_of_ble_eq_true rfl), (Nat.le_of_ble_eq_true rfl)⟩) hP hK [0, 1, 2] [0] rfl rfl (ci := 2) rfl rfl rfl rfl hl.1 rfl (Nat.le_of_ble_eq_true rfl) dX0_moreHolds_11 ⟨Nat.zero_le _, Nat.zero_le _⟩ (fun r hr1 => ?_)
    obtain ⟨rfl, b_3⟩ := hr1
    refine zr_iconst hx hb dX0_moreHolds_14 ?_
    refine zr_iconst hx hb dX0_moreHolds_15 ?_
    refine lv_iload_n hx hb dX0_moreHolds_16 rfl (lv_at hl 0 rfl) ?_
    refine zr_imul hx hb dX0_moreHolds_17 ?_
    refine zr_iadd hx hb dX0_moreHolds_18 ?_
    refine lv_aload_n hx hb dX0_moreHolds_19 rfl (lv_at hl 1 rfl) ?_
    refine zc_V (As := []) (rest := [.int (zi_n (2 + (2 * (zh_mw F n)))), .int (zi_n (zh_more F))]) ⟨hx, hb, hml, hown, hts⟩ (c_Hd_length l D hh q a cA F n hF (by omega) (by omega)) (cwV 0 hts gX0_moreHolds_X0_length rfl rfl rfl (by decide +kernel) ⟨(Nat.le_of_ble_eq_true rfl), (Nat.le_of_ble_eq_true rfl)⟩) hP hK [0, 1, 2] [0] rfl rfl (ci := 2) rfl rfl rfl rfl hl.1 rfl (Nat.le_of_ble_eq_true rfl) dX0_moreHolds_20 ⟨Nat.zero_le _, Nat.zero_le _⟩ (fun r hr1 => ?_)
    obtain ⟨rfl, b_4⟩ := hr1
    refine zc_S (As := [.int (zi_n (zh_more F)), .int (zi_n (2 + (2 * (zh_mw F n)))), .int (zi_n (zh_len F n))]) (rest := []) ⟨hx, hb, hml, hown, hts⟩ (c_Hd_fits l (zh_more F) (2 + (2 * (zh_mw F n))) (zh_len F n) (by omega) (by omega) (by omega) (by omega)) (va_cwS 3 hts gX0_moreHolds_X0_fits rfl rfl rfl (by decide +kernel) ⟨(Nat.le_of_ble_eq_true rfl), (Nat.le_of_ble_eq_true rfl)⟩) rfl hl.1 rfl (Nat.le_of_ble_eq_true rfl) dX0_moreHolds_23 ⟨Nat.zero_le _, Nat.zero_le _⟩ (fun r hr1 => ?_)
    rcases hr1 with ⟨rfl, c_5⟩ | ⟨rfl, c_5⟩
    · refine zr_if_eq (tgt := 33) hx hb dX0_moreHolds_26 (by decide) (by omega) (fun c => absurd c (by decide)) (fun c_6 => ?_)
      refine zr_iconst hx hb dX0_moreHolds_29 ?_
      refine lv_goto (tgt := 34) hx hb dX0_moreHolds_30 (by decide) ?_
      exact W.zret (v := zi_n 1) (ty := .boolean) hx hb hr zl_b1 (fun t ht hW => ⟨_, rfl, zl_t (by omega), ht⟩) (fun q hq => nomatch hq) dX0_moreHolds_34
    · refine zr_if_eq (tgt := 33) hx hb dX0_moreHolds_26 (by decide) (by omega) (fun c_7 => ?_) (fun c => absurd c (by decide))
      refine zr_iconst hx hb dX0_moreHolds_33 ?_
      exact W.zret (v := zi_n 0) (ty := .boolean) hx hb hr zl_b0 (fun t ht hW => ⟨_, rfl, zl_f (by omega), ht⟩) (fun q hq => nomatch hq) dX0_moreHolds_34

theorem in_X0_thirdHolds_X0 : ∀ w ∈ u_ws RX0 TX0 1, w ∈ wsX0_thirdHolds := by decide +kernel
set_option maxHeartbeats 4000000 in
set_option maxRecDepth 100000 in
theorem c_Hd_thirdHolds (l : Launch) (D : va_G) (hh q a : Nat) (cA : ClassId) (F : Nat → Int) (n : Int) (hF : zi_By F) (hn : 0 ≤ n ∧ n ≤ 600) (h64 : 64 ≤ n) : Met l yX0_thirdHolds wsX0_thirdHolds ({ frames := 4, cells := 0, slots := 0, locals := 83 }) (va_Pc [.ref hh] (zp_Q D vwCl [(hh, .inr (2, [.ref q])), (q, .inr (3, [.ref a, .int (zi_n n)])), (a, .inl (cA, 600, .inl (zi_F F)))] [(cA, .int)])) (vp_Si (fun r => (r = zi_n 1 ∧ (zh_at F n (zh_third F n) ≠ -1 ∧ 64 ≤ zh_third F n ∧ zh_third F n + (1 + 2 * zh_at F n (zh_third F n)) ≤ zh_len F n)) ∨ (r = zi_n 0 ∧ ¬ (zh_at F n (zh_third F n) ≠ -1 ∧ 64 ≤ zh_third F n ∧ zh_third F n + (1 + 2 * zh_at F n (zh_third F n)) ≤ zh_len F n)))) 0 0 (fun _ => False) := by
  refine Met.ofW (cc := cX0_thirdHolds) (maxL := 3) (ret := (some .boolean)) (by decide) rfl ?_
  intro p e s m args below meth c s₁ B hml hv
  obtain ⟨rfl, hP, hK⟩ := hv
  have hx := B.exec
  have hb := B.bytes
  have hr := B.returns
  have hts := atoms_spec (ws := wsX0_thirdHolds) B.pre
  have hown : s.vm.findClass RX0 = some m.cls := findClass_of_methodNamed B.named
  have hlocks := B.notSynchronized
  have hl := lv_entry ([.ref hh]) (n := 3) (Nat.le_of_ble_eq_true rfl)
  rw [lg_entry_eq]
  generalize (lg_sl ([.ref hh]) ++ List.replicate (3 - (lg_sl ([.ref hh])).length) Slot.unset).toArray = ls at hl ⊢
  have hl : lv_has ls 3 [(0, .ref hh)] := hl
  refine lv_aload_n hx hb dX0_thirdHolds_0 rfl (lv_at hl 0 rfl) ?_
  refine zc_V (As := []) (rest := []) ⟨hx, hb, hml, hown, hts⟩ (c_Hd_thirdWord l D hh q a cA F n hF (by omega) (by omega)) (cwV 0 hts gX0_thirdHolds_X0_thirdWord rfl rfl rfl (by decide +kernel) ⟨(Nat.le_of_ble_eq_true rfl), (Nat.le_of_ble_eq_true rfl)⟩) hP hK [0, 1, 2] [0] rfl rfl (ci := 2) rfl rfl rfl rfl hl.1 rfl (Nat.le_of_ble_eq_true rfl) dX0_thirdHolds_1 ⟨Nat.zero_le _, Nat.zero_le _⟩ (fun r hr1 => ?_)
  obtain ⟨rfl, b_1⟩ := hr1
  refine lv_istore_n (lv' := [(1, .int (zi_n (zh_third F n))), (0, .ref hh)]) hx hb dX0_thirdHolds_4 rfl hl (by decide) rfl (fun ls hl => ?_)
  refine lv_aload_n hx hb dX0_thirdHolds_5 rfl (lv_at hl 1 rfl) ?_
  refine va_get (D := D) (ci := 2) (v := .ref q) (C := RX0) (T := TX0) (N := 1) hx hb hts in_X0_thirdHolds_X0 hown hK hP 0 rfl rfl 0 (by decide) (hts (.fieldLink RX0 9 "ZHeads$Head" "row" "LZHeads$Row;") (by decide +kernel)) (fun _ h9 => h9) rfl dX0_thirdHolds_6 ?_
  refine lv_iload_n hx hb dX0_thirdHolds_9 rfl (lv_at hl 0 rfl) ?_
  refine zc_V (As := [.int (zi_n (zh_third F n))]) (rest := []) ⟨hx, hb, hml, hown, hts⟩ (c_Row_at l D q a cA F n hF (by omega) (zh_third F n) (by omega)) (cwV 1 hts gX0_thirdHolds_X2_at rfl rfl rfl (by decide +kernel) ⟨(Nat.le_of_ble_eq_true rfl), (Nat.le_of_ble_eq_true rfl)⟩) hP hK [1, 2] [0] rfl rfl (ci := 3) rfl rfl rfl rfl hl.1 rfl (Nat.le_of_ble_eq_true rfl) dX0_thirdHolds_10 ⟨Nat.zero_le _, Nat.zero_le _⟩ (fun r hr1 => ?_)
  obtain ⟨rfl, b_2⟩ := hr1
  refine lv_istore_n (lv' := [(2, .int (zi_n (zh_at F n (zh_third F n)))), (1, .int (zi_n (zh_third F n))), (0, .ref hh)]) hx hb dX0_thirdHolds_13 rfl hl (by decide) rfl (fun ls hl => ?_)
  refine lv_iload_n hx hb dX0_thirdHolds_14 rfl (lv_at hl 0 rfl) ?_
  refine zr_iconst hx hb dX0_thirdHolds_15 ?_
  refine zr_icmp_eq (tgt := 39) hx hb dX0_thirdHolds_16 (by decide) (by omega) (by omega) (fun c_3 => ?_) (fun c_3 => ?_)
  · refine zr_iconst hx hb dX0_thirdHolds_39 ?_
    exact W.zret (v := zi_n 0) (ty := .boolean) hx hb hr zl_b0 (fun t ht hW => ⟨_, rfl, zl_f (by omega), ht⟩) (fun q hq => nomatch hq) dX0_thirdHolds_40
  · refine lv_iload_n hx hb dX0_thirdHolds_19 rfl (lv_at hl 1 rfl) ?_
    refine zr_iconst hx hb dX0_thirdHolds_20 ?_
    refine zr_iconst hx hb dX0_thirdHolds_21 ?_
    refine lv_iload_n hx hb dX0_thirdHolds_22 rfl (lv_at hl 0 rfl) ?_
    refine zr_imul hx hb dX0_thirdHolds_23 ?_
    refine zr_iadd hx hb dX0_thirdHolds_24 ?_
    refine lv_aload_n hx hb dX0_thirdHolds_25 rfl (lv_at hl 2 rfl) ?_
    refine zc_V (As := []) (rest := [.int (zi_n (1 + (2 * (zh_at F n (zh_third F n))))), .int (zi_n (zh_third F n))]) ⟨hx, hb, hml, hown, hts⟩ (c_Hd_length l D hh q a cA F n hF (by omega) (by omega)) (cwV 0 hts gX0_thirdHolds_X0_length rfl rfl rfl (by decide +kernel) ⟨(Nat.le_of_ble_eq_true rfl), (Nat.le_of_ble_eq_true rfl)⟩) hP hK [0, 1, 2] [0] rfl rfl (ci := 2) rfl rfl rfl rfl hl.1 rfl (Nat.le_of_ble_eq_true rfl) dX0_thirdHolds_26 ⟨Nat.zero_le _, Nat.zero_le _⟩ (fun r hr1 => ?_)
    obtain ⟨rfl, b_4⟩ := hr1
    refine zc_S (As := [.int (zi_n (zh_third F n)), .int (zi_n (1 + (2 * (zh_at F n (zh_third F n))))), .int (zi_n (zh_len F n))]) (rest := []) ⟨hx, hb, hml, hown, hts⟩ (c_Hd_fits l (zh_third F n) (1 + (2 * (zh_at F n (zh_third F n)))) (zh_len F n) (by omega) (by omega) (by omega) (by omega)) (va_cwS 3 hts gX0_thirdHolds_X0_fits rfl rfl rfl (by decide +kernel) ⟨(Nat.le_of_ble_eq_true rfl), (Nat.le_of_ble_eq_true rfl)⟩) rfl hl.1 rfl (Nat.le_of_ble_eq_true rfl) dX0_thirdHolds_29 ⟨Nat.zero_le _, Nat.zero_le _⟩ (fun r hr1 => ?_)
    rcases hr1 with ⟨rfl, c_5⟩ | ⟨rfl, c_5⟩
    · refine zr_if_eq (tgt := 39) hx hb dX0_thirdHolds_32 (by decide) (by omega) (fun c => absurd c (by decide)) (fun c_6 => ?_)
      refine zr_iconst hx hb dX0_thirdHolds_35 ?_
      refine lv_goto (tgt := 40) hx hb dX0_thirdHolds_36 (by decide) ?_
      exact W.zret (v := zi_n 1) (ty := .boolean) hx hb hr zl_b1 (fun t ht hW => ⟨_, rfl, zl_t (by omega), ht⟩) (fun q hq => nomatch hq) dX0_thirdHolds_40
    · refine zr_if_eq (tgt := 39) hx hb dX0_thirdHolds_32 (by decide) (by omega) (fun c_7 => ?_) (fun c => absurd c (by decide))
      refine zr_iconst hx hb dX0_thirdHolds_39 ?_
      exact W.zret (v := zi_n 0) (ty := .boolean) hx hb hr zl_b0 (fun t ht hW => ⟨_, rfl, zl_f (by omega), ht⟩) (fun q hq => nomatch hq) dX0_thirdHolds_40

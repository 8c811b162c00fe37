theorem in_X4_areWords_X4 : ∀ w ∈ u_ws RX4 TX4 9, w ∈ wsX4_areWords := by decide +kernel
set_option maxHeartbeats 4000000 in
set_option maxRecDepth 100000 in
theorem c_M_areWords (l : Launch) (D : va_G) (x a a2 a3 : Nat) (cA cB cC : ClassId) (F P G : Nat → Int) (n rd br v ln ft : Int) (hF : zi_By F) (hn : 0 ≤ n ∧ n ≤ 600) (hP0 : zi_By P) (hG : zi_By G) (hrd : rd = 0 ∨ rd = 1) (hbr : 0 ≤ br ∧ br ≤ 15) (hv0 : 0 ≤ v ∧ v ≤ 255) (hln : 0 ≤ ln ∧ ln ≤ 524280) (hft : 0 ≤ ft ∧ ft ≤ 1) (p0 : Int) (hp : 0 ≤ p0 ∧ p0 ≤ 65535) : Met l yX4_areWords wsX4_areWords ({ frames := 1, cells := 0, slots := 0, locals := 21 }) (va_Pc [.ref x, .int (zi_n p0)] (zp_Q D vwCl [(x, .inr (5, [.int (zi_n ft), .ref a, .int (zi_n n), .int (zi_n rd), .int (zi_n br), .ref a2, .ref a3, .int (zi_n v), .int (zi_n ln)])), (a, .inl (cA, 600, .inl (zi_F F))), (a2, .inl (cB, 600, .inl (zi_F P))), (a3, .inl (cC, 600, .inl (zi_F G)))] [(cA, .int), (cB, .int), (cC, .int)])) (vp_Si (fun r => (r = zi_n 1 ∧ (zh_mW F n v ln p0)) ∨ (r = zi_n 0 ∧ ¬ (zh_mW F n v ln p0)))) 0 0 (fun _ => False) := by
  refine Met.ofW (cc := cX4_areWords) (maxL := 5) (ret := (some .boolean)) (by decide) rfl ?_
  intro p e s m args below meth c s₁ B hml hv
  obtain ⟨rfl, hP, hK⟩ := hv
  have hx := B.exec
  have hb := B.bytes
  have hr := B.returns
  have hts := atoms_spec (ws := wsX4_areWords) B.pre
  have hown : s.vm.findClass RX4 = some m.cls := findClass_of_methodNamed B.named
  have hlocks := B.notSynchronized
  have hl := lv_entry ([.ref x, .int (zi_n p0)]) (n := 5) (Nat.le_of_ble_eq_true rfl)
  rw [lg_entry_eq]
  generalize (lg_sl ([.ref x, .int (zi_n p0)]) ++ List.replicate (5 - (lg_sl ([.ref x, .int (zi_n p0)])).length) Slot.unset).toArray = ls at hl ⊢
  have hl : lv_has ls 5 [(0, .ref x), (1, .int (zi_n p0))] := hl
  refine lv_iload_n hx hb dX4_areWords_0 rfl (lv_at hl 1 rfl) ?_
  refine zr_bipush hx hb dX4_areWords_1 (by decide) ?_
  refine zr_icmp_lt (tgt := 31) hx hb dX4_areWords_3 (by decide) (by omega) (by omega) (fun c_1 => ?_) (fun c_1 => ?_)
  · refine zr_iconst hx hb dX4_areWords_31 ?_
    exact W.zret (v := zi_n 0) (ty := .boolean) hx hb hr zl_b0 (fun t ht hW => ⟨_, rfl, zl_f (by unfold zh_mW; split <;> omega), ht⟩) (fun q hq => nomatch hq) dX4_areWords_32
  · refine lv_aload_n hx hb dX4_areWords_6 rfl (lv_at hl 0 rfl) ?_
    refine lv_iload_n hx hb dX4_areWords_7 rfl (lv_at hl 1 rfl) ?_
    refine zc_V (As := [.int (zi_n p0)]) (rest := []) ⟨hx, hb, hml, hown, hts⟩ (c_M_isThere l D x a a2 a3 cA cB cC F P G n rd br v ln ft hF (by omega) hP0 hG (by omega) (by omega) (by omega) (by omega) (by omega) p0 (by omega)) (cwV 1 hts gX4_areWords_X4_isThere rfl rfl rfl (by decide +kernel) ⟨(Nat.le_of_ble_eq_true rfl), (Nat.le_of_ble_eq_true rfl)⟩) hP hK [0, 1, 2, 3] [0, 1, 2] rfl rfl (ci := 5) rfl rfl rfl rfl hl.1 rfl (Nat.le_of_ble_eq_true rfl) dX4_areWords_8 ⟨Nat.zero_le _, Nat.zero_le _⟩ (fun r hr1 => ?_)
    rcases hr1 with ⟨rfl, c_2⟩ | ⟨rfl, c_2⟩
    · refine zr_if_eq (tgt := 31) hx hb dX4_areWords_11 (by decide) (by omega) (fun c => absurd c (by decide)) (fun c_3 => ?_)
      refine lv_aload_n hx hb dX4_areWords_14 rfl (lv_at hl 0 rfl) ?_
      refine lv_iload_n hx hb dX4_areWords_15 rfl (lv_at hl 1 rfl) ?_
      refine lv_aload_n hx hb dX4_areWords_16 rfl (lv_at hl 0 rfl) ?_
      refine va_get (D := D) (ci := 5) (v := .ref a) (C := RX4) (T := TX4) (N := 9) hx hb hts in_X4_areWords_X4 hown hK hP 0 rfl rfl 1 (by decide) (hts (.fieldLink RX4 7 "ZHeadsModel" "file" "[I") (by decide +kernel)) (fun _ h9 => h9) rfl dX4_areWords_17 ?_
      refine lv_iload_n hx hb dX4_areWords_20 rfl (lv_at hl 1 rfl) ?_
      refine zr_iald hx hb hK hP 1 0 rfl rfl (by decide) (by omega) dX4_areWords_21 ?_
      have b_4 := hF p0.toNat
      refine zr_iadd hx hb dX4_areWords_22 ?_
      refine zr_iconst hx hb dX4_areWords_23 ?_
      refine zr_iadd hx hb dX4_areWords_24 ?_
      refine zc_V (As := [.int (zi_n ((p0 + (F p0.toNat)) + 3))]) (rest := []) ⟨hx, hb, hml, hown, hts⟩ (c_M_isThere l D x a a2 a3 cA cB cC F P G n rd br v ln ft hF (by omega) hP0 hG (by omega) (by omega) (by omega) (by omega) (by omega) ((p0 + (F p0.toNat)) + 3) (by omega)) (cwV 1 hts gX4_areWords_X4_isThere rfl rfl rfl (by decide +kernel) ⟨(Nat.le_of_ble_eq_true rfl), (Nat.le_of_ble_eq_true rfl)⟩) hP hK [0, 1, 2, 3] [0, 1, 2] rfl rfl (ci := 5) rfl rfl rfl rfl hl.1 rfl (Nat.le_of_ble_eq_true rfl) dX4_areWords_25 ⟨Nat.zero_le _, Nat.zero_le _⟩ (fun r hr1 => ?_)
      rcases hr1 with ⟨rfl, c_5⟩ | ⟨rfl, c_5⟩
      · refine zr_if_ne (tgt := 33) hx hb dX4_areWords_28 (by decide) (by omega) (fun c_6 => ?_) (fun c => absurd c (by decide))
        refine lv_aload_n hx hb dX4_areWords_33 rfl (lv_at hl 0 rfl) ?_
        refine va_get (D := D) (ci := 5) (v := .ref a) (C := RX4) (T := TX4) (N := 9) hx hb hts in_X4_areWords_X4 hown hK hP 0 rfl rfl 1 (by decide) (hts (.fieldLink RX4 7 "ZHeadsModel" "file" "[I") (by decide +kernel)) (fun _ h9 => h9) rfl dX4_areWords_34 ?_
        refine lv_iload_n hx hb dX4_areWords_37 rfl (lv_at hl 1 rfl) ?_
        refine zr_iald hx hb hK hP 1 0 rfl rfl (by decide) (by omega) dX4_areWords_38 ?_
        have b_7 := hF p0.toNat
        refine lv_istore_n (lv' := [(2, .int (zi_n (F p0.toNat))), (0, .ref x), (1, .int (zi_n p0))]) hx hb dX4_areWords_39 rfl hl (by decide) rfl (fun ls hl => ?_)
        refine lv_aload_n hx hb dX4_areWords_40 rfl (lv_at hl 1 rfl) ?_
        refine va_get (D := D) (ci := 5) (v := .ref a) (C := RX4) (T := TX4) (N := 9) hx hb hts in_X4_areWords_X4 hown hK hP 0 rfl rfl 1 (by decide) (hts (.fieldLink RX4 7 "ZHeadsModel" "file" "[I") (by decide +kernel)) (fun _ h9 => h9) rfl dX4_areWords_41 ?_
        refine lv_iload_n hx hb dX4_areWords_44 rfl (lv_at hl 2 rfl) ?_
        refine zr_iconst hx hb dX4_areWords_45 ?_
        refine zr_iadd hx hb dX4_areWords_46 ?_
        refine lv_iload_n hx hb dX4_areWords_47 rfl (lv_at hl 0 rfl) ?_
        refine zr_iadd hx hb dX4_areWords_48 ?_
        refine zr_iald hx hb hK hP 1 0 rfl rfl (by decide) (by omega) dX4_areWords_49 ?_
        have b_8 := hF ((p0 + 1) + (F p0.toNat)).toNat
        refine lv_istore_n (lv' := [(3, .int (zi_n (F ((p0 + 1) + (F p0.toNat)).toNat))), (2, .int (zi_n (F p0.toNat))), (0, .ref x), (1, .int (zi_n p0))]) hx hb dX4_areWords_50 rfl hl (by decide) rfl (fun ls hl => ?_)
        refine lv_aload_n hx hb dX4_areWords_51 rfl (lv_at hl 2 rfl) ?_
        refine lv_iload_n hx hb dX4_areWords_52 rfl (lv_at hl 3 rfl) ?_
        refine zr_iconst hx hb dX4_areWords_53 ?_
        refine zr_iadd hx hb dX4_areWords_54 ?_
        refine lv_iload_n hx hb dX4_areWords_55 rfl (lv_at hl 1 rfl) ?_
        refine zr_iadd hx hb dX4_areWords_56 ?_
        refine zc_V (As := [.int (zi_n ((p0 + 2) + (F p0.toNat)))]) (rest := []) ⟨hx, hb, hml, hown, hts⟩ (c_M_two l D x a a2 a3 cA cB cC F P G n rd br v ln ft hF (by omega) hP0 hG (by omega) (by omega) (by omega) (by omega) (by omega) ((p0 + 2) + (F p0.toNat)) (by omega)) (cwV 1 hts gX4_areWords_X4_two rfl rfl rfl (by decide +kernel) ⟨(Nat.le_of_ble_eq_true rfl), (Nat.le_of_ble_eq_true rfl)⟩) hP hK [0, 1, 2, 3] [0, 1, 2] rfl rfl (ci := 5) rfl rfl rfl rfl hl.1 rfl (Nat.le_of_ble_eq_true rfl) dX4_areWords_57 ⟨Nat.zero_le _, Nat.zero_le _⟩ (fun r hr1 => ?_)
        obtain ⟨rfl, b_9⟩ := hr1
        refine zr_i2s hx hb dX4_areWords_60 (by omega) ?_
        have hs5 := zi_sh_b (zh_T F (p0 + 2 + F p0.toNat))
        refine lv_istore (lv' := [(4, .int (zi_n (zi_sh (zh_T F ((p0 + 2) + (F p0.toNat)))))), (3, .int (zi_n (F ((p0 + 1) + (F p0.toNat)).toNat))), (2, .int (zi_n (F p0.toNat))), (0, .ref x), (1, .int (zi_n p0))]) hx hb dX4_areWords_61 hl (by decide) rfl (fun ls hl => ?_)
        refine lv_iload hx hb dX4_areWords_63 (lv_at hl 0 rfl) ?_
        refine zr_if_ge (tgt := 74) hx hb dX4_areWords_65 (by decide) (by omega) (fun c_10 => ?_) (fun c_10 => ?_)
        · refine lv_iload hx hb dX4_areWords_74 (lv_at hl 0 rfl) ?_
          refine lv_istore (lv' := [(4, .int (zi_n (zi_sh (zh_T F ((p0 + 2) + (F p0.toNat)))))), (3, .int (zi_n (F ((p0 + 1) + (F p0.toNat)).toNat))), (2, .int (zi_n (F p0.toNat))), (0, .ref x), (1, .int (zi_n p0))]) hx hb dX4_areWords_76 hl (by decide) rfl (fun ls hl => ?_)
          have hab : zh_abs (zi_sh (zh_T F (p0 + 2 + F p0.toNat))) = zi_sh (zh_T F ((p0 + 2) + (F p0.toNat))) := by unfold zh_abs; split <;> omega
          have hme := zh_me_b (zi_sh_b (zh_T F (p0 + 2 + F p0.toNat))) (hF (p0 + 1 + F p0.toNat).toNat)
          rw [hab] at hme
          refine lv_iload_n hx hb dX4_areWords_78 rfl (lv_at hl 1 rfl) ?_
          refine lv_aload_n hx hb dX4_areWords_79 rfl (lv_at hl 3 rfl) ?_
          refine va_get (D := D) (ci := 5) (v := .int (zi_n v)) (C := RX4) (T := TX4) (N := 9) hx hb hts in_X4_areWords_X4 hown hK hP 0 rfl rfl 7 (by decide) (hts (.fieldLink RX4 51 "ZHeadsModel" "version" "I") (by decide +kernel)) (fun _ h9 => h9) rfl dX4_areWords_80 ?_
          refine zr_iconst hx hb dX4_areWords_83 ?_
          refine zr_icmp_ge (tgt := 91) hx hb dX4_areWords_84 (by decide) (by omega) (by omega) (fun c_11 => ?_) (fun c_11 => ?_)
          · refine zr_bipush hx hb dX4_areWords_91 (by decide) ?_
            refine zr_icmp_lt (tgt := 117) hx hb dX4_areWords_93 (by decide) (by omega) (by omega) (fun c_12 => ?_) (fun c_12 => ?_)
            · refine zr_iconst hx hb dX4_areWords_117 ?_
              exact W.zret (v := zi_n 0) (ty := .boolean) hx hb hr zl_b0 (fun t ht hW => ⟨_, rfl, zl_f (by unfold zh_mW; rw [show zh_abs (zi_sh (zh_T F (p0 + 2 + F p0.toNat))) = zi_sh (zh_T F ((p0 + 2) + (F p0.toNat))) by unfold zh_abs; split <;> omega]; split <;> omega), ht⟩) (fun q hq => nomatch hq) dX4_areWords_118
            · refine lv_iload_n hx hb dX4_areWords_96 rfl (lv_at hl 4 rfl) ?_
              refine zr_iconst hx hb dX4_areWords_97 ?_
              refine zr_iadd hx hb dX4_areWords_98 ?_
              refine lv_iload_n hx hb dX4_areWords_99 rfl (lv_at hl 2 rfl) ?_
              refine zr_iadd hx hb dX4_areWords_100 ?_
              refine lv_iload_n hx hb dX4_areWords_101 rfl (lv_at hl 1 rfl) ?_
              refine lv_iload hx hb dX4_areWords_102 (lv_at hl 0 rfl) ?_
              refine zr_imul hx hb dX4_areWords_104 ?_
              refine zr_iadd hx hb dX4_areWords_105 ?_
              refine lv_aload_n hx hb dX4_areWords_106 rfl (lv_at hl 3 rfl) ?_
              refine va_get (D := D) (ci := 5) (v := .int (zi_n ln)) (C := RX4) (T := TX4) (N := 9) hx hb hts in_X4_areWords_X4 hown hK hP 0 rfl rfl 8 (by decide) (hts (.fieldLink RX4 54 "ZHeadsModel" "length" "I") (by decide +kernel)) (fun _ h9 => h9) rfl dX4_areWords_107 ?_
              refine zr_icmp_gt (tgt := 117) hx hb dX4_areWords_110 (by decide) (by omega) (by omega) (fun c_13 => ?_) (fun c_13 => ?_)
              · refine zr_iconst hx hb dX4_areWords_117 ?_
                exact W.zret (v := zi_n 0) (ty := .boolean) hx hb hr zl_b0 (fun t ht hW => ⟨_, rfl, zl_f (by unfold zh_mW; rw [show zh_abs (zi_sh (zh_T F (p0 + 2 + F p0.toNat))) = zi_sh (zh_T F ((p0 + 2) + (F p0.toNat))) by unfold zh_abs; split <;> omega]; split <;> omega), ht⟩) (fun q hq => nomatch hq) dX4_areWords_118
              · refine zr_iconst hx hb dX4_areWords_113 ?_
                refine lv_goto (tgt := 118) hx hb dX4_areWords_114 (by decide) ?_
                exact W.zret (v := zi_n 1) (ty := .boolean) hx hb hr zl_b1 (fun t ht hW => ⟨_, rfl, zl_t (by unfold zh_mW; rw [show zh_abs (zi_sh (zh_T F (p0 + 2 + F p0.toNat))) = zi_sh (zh_T F ((p0 + 2) + (F p0.toNat))) by unfold zh_abs; split <;> omega]; split <;> omega), ht⟩) (fun q hq => nomatch hq) dX4_areWords_118
          · refine zr_iconst hx hb dX4_areWords_87 ?_
            refine lv_goto (tgt := 93) hx hb dX4_areWords_88 (by decide) ?_
            refine zr_icmp_lt (tgt := 117) hx hb dX4_areWords_93 (by decide) (by omega) (by omega) (fun c_14 => ?_) (fun c_14 => ?_)
            · refine zr_iconst hx hb dX4_areWords_117 ?_
              exact W.zret (v := zi_n 0) (ty := .boolean) hx hb hr zl_b0 (fun t ht hW => ⟨_, rfl, zl_f (by unfold zh_mW; rw [show zh_abs (zi_sh (zh_T F (p0 + 2 + F p0.toNat))) = zi_sh (zh_T F ((p0 + 2) + (F p0.toNat))) by unfold zh_abs; split <;> omega]; split <;> omega), ht⟩) (fun q hq => nomatch hq) dX4_areWords_118
            · refine lv_iload_n hx hb dX4_areWords_96 rfl (lv_at hl 4 rfl) ?_
              refine zr_iconst hx hb dX4_areWords_97 ?_
              refine zr_iadd hx hb dX4_areWords_98 ?_
              refine lv_iload_n hx hb dX4_areWords_99 rfl (lv_at hl 2 rfl) ?_
              refine zr_iadd hx hb dX4_areWords_100 ?_
              refine lv_iload_n hx hb dX4_areWords_101 rfl (lv_at hl 1 rfl) ?_
              refine lv_iload hx hb dX4_areWords_102 (lv_at hl 0 rfl) ?_
              refine zr_imul hx hb dX4_areWords_104 ?_
              refine zr_iadd hx hb dX4_areWords_105 ?_
              refine lv_aload_n hx hb dX4_areWords_106 rfl (lv_at hl 3 rfl) ?_
              refine va_get (D := D) (ci := 5) (v := .int (zi_n ln)) (C := RX4) (T := TX4) (N := 9) hx hb hts in_X4_areWords_X4 hown hK hP 0 rfl rfl 8 (by decide) (hts (.fieldLink RX4 54 "ZHeadsModel" "length" "I") (by decide +kernel)) (fun _ h9 => h9) rfl dX4_areWords_107 ?_
              refine zr_icmp_gt (tgt := 117) hx hb dX4_areWords_110 (by decide) (by omega) (by omega) (fun c_15 => ?_) (fun c_15 => ?_)
              · refine zr_iconst hx hb dX4_areWords_117 ?_
                exact W.zret (v := zi_n 0) (ty := .boolean) hx hb hr zl_b0 (fun t ht hW => ⟨_, rfl, zl_f (by unfold zh_mW; rw [show zh_abs (zi_sh (zh_T F (p0 + 2 + F p0.toNat))) = zi_sh (zh_T F ((p0 + 2) + (F p0.toNat))) by unfold zh_abs; split <;> omega]; split <;> omega), ht⟩) (fun q hq => nomatch hq) dX4_areWords_118
              · refine zr_iconst hx hb dX4_areWords_113 ?_
                refine lv_goto (tgt := 118) hx hb dX4_areWords_114 (by decide) ?_
                exact W.zret (v := zi_n 1) (ty := .boolean) hx hb hr zl_b1 (fun t ht hW => ⟨_, rfl, zl_t (by unfold zh_mW; rw [show zh_abs (zi_sh (zh_T F (p0 + 2 + F p0.toNat))) = zi_sh (zh_T F ((p0 + 2) + (F p0.toNat))) by unfold zh_abs; split <;> omega]; split <;> omega), ht⟩) (fun q hq => nomatch hq) dX4_areWords_118
        · refine lv_iload hx hb dX4_areWords_68 (lv_at hl 0 rfl) ?_
          refine zr_ineg hx hb dX4_areWords_70 ?_
          refine lv_goto (tgt := 76) hx hb dX4_areWords_71 (by decide) ?_
          refine lv_istore (lv' := [(4, .int (zi_n (-(zi_sh (zh_T F ((p0 + 2) + (F p0.toNat))))))), (3, .int (zi_n (F ((p0 + 1) + (F p0.toNat)).toNat))), (2, .int (zi_n (F p0.toNat))), (0, .ref x), (1, .int (zi_n p0))]) hx hb dX4_areWords_76 hl (by decide) rfl (fun ls hl => ?_)
          have hab : zh_abs (zi_sh (zh_T F (p0 + 2 + F p0.toNat))) = -(zi_sh (zh_T F ((p0 + 2) + (F p0.toNat)))) := by unfold zh_abs; split <;> omega
          have hme := zh_me_b (zi_sh_b (zh_T F (p0 + 2 + F p0.toNat))) (hF (p0 + 1 + F p0.toNat).toNat)
          rw [hab] at hme
          refine lv_iload_n hx hb dX4_areWords_78 rfl (lv_at hl 1 rfl) ?_
          refine lv_aload_n hx hb dX4_areWords_79 rfl (lv_at hl 3 rfl) ?_
          refine va_get (D := D) (ci := 5) (v := .int (zi_n v)) (C := RX4) (T := TX4) (N := 9) hx hb hts in_X4_areWords_X4 hown hK hP 0 rfl rfl 7 (by decide) (hts (.fieldLink RX4 51 "ZHeadsModel" "version" "I") (by decide +kernel)) (fun _ h9 => h9) rfl dX4_areWords_80 ?_
          refine zr_iconst hx hb dX4_areWords_83 ?_
          refine zr_icmp_ge (tgt := 91) hx hb dX4_areWords_84 (by decide) (by omega) (by omega) (fun c_16 => ?_) (fun c_16 => ?_)
          · refine zr_bipush hx hb dX4_areWords_91 (by decide) ?_
            refine zr_icmp_lt (tgt := 117) hx hb dX4_areWords_93 (by decide) (by omega) (by omega) (fun c_17 => ?_) (fun c_17 => ?_)
            · refine zr_iconst hx hb dX4_areWords_117 ?_
              exact W.zret (v := zi_n 0) (ty := .boolean) hx hb hr zl_b0 (fun t ht hW => ⟨_, rfl, zl_f (by unfold zh_mW; rw [show zh_abs (zi_sh (zh_T F (p0 + 2 + F p0.toNat))) = -(zi_sh (zh_T F ((p0 + 2) + (F p0.toNat)))) by unfold zh_abs; split <;> omega]; split <;> omega), ht⟩) (fun q hq => nomatch hq) dX4_areWords_118
            · refine lv_iload_n hx hb dX4_areWords_96 rfl (lv_at hl 4 rfl) ?_
              refine zr_iconst hx hb dX4_areWords_97 ?_
              refine zr_iadd hx hb dX4_areWords_98 ?_
              refine lv_iload_n hx hb dX4_areWords_99 rfl (lv_at hl 2 rfl) ?_
              refine zr_iadd hx hb dX4_areWords_100 ?_
              refine lv_iload_n hx hb dX4_areWords_101 rfl (lv_at hl 1 rfl) ?_
              refine lv_iload hx hb dX4_areWords_102 (lv_at hl 0 rfl) ?_
              refine zr_imul hx hb dX4_areWords_104 ?_
              refine zr_iadd hx hb dX4_areWords_105 ?_
              refine lv_aload_n hx hb dX4_areWords_106 rfl (lv_at hl 3 rfl) ?_
              refine va_get (D := D) (ci := 5) (v := .int (zi_n ln)) (C := RX4) (T := TX4) (N := 9) hx hb hts in_X4_areWords_X4 hown hK hP 0 rfl rfl 8 (by decide) (hts (.fieldLink RX4 54 "ZHeadsModel" "length" "I") (by decide +kernel)) (fun _ h9 => h9) rfl dX4_areWords_107 ?_
              refine zr_icmp_gt (tgt := 117) hx hb dX4_areWords_110 (by decide) (by omega) (by omega) (fun c_18 => ?_) (fun c_18 => ?_)
              · refine zr_iconst hx hb dX4_areWords_117 ?_
                exact W.zret (v := zi_n 0) (ty := .boolean) hx hb hr zl_b0 (fun t ht hW => ⟨_, rfl, zl_f (by unfold zh_mW; rw [show zh_abs (zi_sh (zh_T F (p0 + 2 + F p0.toNat))) = -(zi_sh (zh_T F ((p0 + 2) + (F p0.toNat)))) by unfold zh_abs; split <;> omega]; split <;> omega), ht⟩) (fun q hq => nomatch hq) dX4_areWords_118
              · refine zr_iconst hx hb dX4_areWords_113 ?_
                refine lv_goto (tgt := 118) hx hb dX4_areWords_114 (by decide) ?_
                exact W.zret (v := zi_n 1) (ty := .boolean) hx hb hr zl_b1 (fun t ht hW => ⟨_, rfl, zl_t (by unfold zh_mW; rw [show zh_abs (zi_sh (zh_T F (p0 + 2 + F p0.toNat))) = -(zi_sh (zh_T F ((p0 + 2) + (F p0.toNat)))) by unfold zh_abs; split <;> omega]; split <;> omega), ht⟩) (fun q hq => nomatch hq) dX4_areWords_118
          · refine zr_iconst hx hb dX4_areWords_87 ?_
            refine lv_goto (tgt := 93) hx hb dX4_areWords_88 (by decide) ?_
            refine zr_icmp_lt (tgt := 117) hx hb dX4_areWords_93 (by decide) (by omega) (by omega) (fun c_19 => ?_) (fun c_19 => ?_)
            · refine zr_iconst hx hb dX4_areWords_117 ?_
              exact W.zret (v := zi_n 0) (ty := .boolean) hx hb hr zl_b0 (fun t ht hW => ⟨_, rfl, zl_f (by unfold zh_mW; rw [show zh_abs (zi_sh (zh_T F (p0 + 2 + F p0.toNat))) = -(zi_sh (zh_T F ((p0 + 2) + (F p0.toNat)))) by unfold zh_abs; split <;> omega]; split <;> omega), ht⟩) (fun q hq => nomatch hq) dX4_areWords_118
            · refine lv_iload_n hx hb dX4_areWords_96 rfl (lv_at hl 4 rfl) ?_
              refine zr_iconst hx hb dX4_areWords_97 ?_
              refine zr_iadd hx hb dX4_areWords_98 ?_
              refine lv_iload_n hx hb dX4_areWords_99 rfl (lv_at hl 2 rfl) ?_
              refine zr_iadd hx hb dX4_areWords_100 ?_
              refine lv_iload_n hx hb dX4_areWords_101 rfl (lv_at hl 1 rfl) ?_
              refine lv_iload hx hb dX4_areWords_102 (lv_at hl 0 rfl) ?_
              refine zr_imul hx hb dX4_areWords_104 ?_
              refine zr_iadd hx hb dX4_areWords_105 ?_
              refine lv_aload_n hx hb dX4_areWords_106 rfl (lv_at hl 3 rfl) ?_
              refine va_get (D := D) (ci := 5) (v := .int (zi_n ln)) (C := RX4) (T := TX4) (N := 9) hx hb hts in_X4_areWords_X4 hown hK hP 0 rfl rfl 8 (by decide) (hts (.fieldLink RX4 54 "ZHeadsModel" "length" "I") (by decide +kernel)) (fun _ h9 => h9) rfl dX4_areWords_107 ?_
              refine zr_icmp_gt (tgt := 117) hx hb dX4_areWords_110 (by decide) (by omega) (by omega) (fun c_20 => ?_) (fun c_20 => ?_)
              · refine zr_iconst hx hb dX4_areWords_117 ?_
                exact W.zret (v := zi_n 0) (ty := .boolean) hx hb hr zl_b0 (fun t ht hW => ⟨_, rfl, zl_f (by unfold zh_mW; rw [show zh_abs (zi_sh (zh_T F (p0 + 2 + F p0.toNat))) = -(zi_sh (zh_T F ((p0 + 2) + (F p0.toNat)))) by unfold zh_abs; split <;> omega]; split <;> omega), ht⟩) (fun q hq => nomatch hq) dX4_areWords_118
              · refine zr_iconst hx hb dX4_areWords_113 ?_
                refine lv_goto (tgt := 118) hx hb dX4_areWords_114 (by decide) ?_
                exact W.zret (v := zi_n 1) (ty := .boolean) hx hb hr zl_b1 (fun t ht hW => ⟨_, rfl, zl_t (by unfold zh_mW; rw [show zh_abs (zi_sh (zh_T F (p0 + 2 + F p0.toNat))) = -(zi_sh (zh_T F ((p0 + 2) + (F p0.toNat)))) by unfold zh_abs; split <;> omega]; split <;> omega), ht⟩) (fun q hq => nomatch hq) dX4_areWords_118
      · refine zr_if_ne (tgt := 33) hx hb dX4_areWords_28 (by decide) (by omega) (fun c => absurd c (by decide)) (fun c_21 => ?_)
        refine zr_iconst hx hb dX4_areWords_31 ?_
        exact W.zret (v := zi_n 0) (ty := .boolean) hx hb hr zl_b0 (fun t ht hW => ⟨_, rfl, zl_f (by unfold zh_mW; split <;> omega), ht⟩) (fun q hq => nomatch hq) dX4_areWords_32
    · refine zr_if_eq (tgt := 31) hx hb dX4_areWords_11 (by decide) (by omega) (fun c_22 => ?_) (fun c => absurd c (by decide))
      refine zr_iconst hx hb dX4_areWords_31 ?_
      exact W.zret (v := zi_n 0) (ty := .boolean) hx hb hr zl_b0 (fun t ht hW => ⟨_, rfl, zl_f (by unfold zh_mW; split <;> omega), ht⟩) (fun q hq => nomatch hq) dX4_areWords_32

theorem in_X4_isMore_X4 : ∀ w ∈ u_ws RX4 TX4 9, w ∈ wsX4_isMore := by decide +kernel
set_option maxHeartbeats 4000000 in
set_option maxRecDepth 100000 in
theorem c_M_isMore (l : Launch) (D : va_G) (x a a2 a3 : Nat) (cA cB cC : ClassId) (F P G : Nat → Int) (n rd br v ln ft : Int) (hF : zi_By F) (hn : 0 ≤ n ∧ n ≤ 600) (hP0 : zi_By P) (hG : zi_By G) (hrd : rd = 0 ∨ rd = 1) (hbr : 0 ≤ br ∧ br ≤ 15) (hv0 : 0 ≤ v ∧ v ≤ 255) (hln : 0 ≤ ln ∧ ln ≤ 524280) (hft : 0 ≤ ft ∧ ft ≤ 1) (p0 : Int) (hp : 0 ≤ p0 ∧ p0 ≤ 65535) : Met l yX4_isMore wsX4_isMore ({ frames := 1, cells := 0, slots := 0, locals := 21 }) (va_Pc [.ref x, .int (zi_n p0)] (zp_Q D vwCl [(x, .inr (5, [.int (zi_n ft), .ref a, .int (zi_n n), .int (zi_n rd), .int (zi_n br), .ref a2, .ref a3, .int (zi_n v), .int (zi_n ln)])), (a, .inl (cA, 600, .inl (zi_F F))), (a2, .inl (cB, 600, .inl (zi_F P))), (a3, .inl (cC, 600, .inl (zi_F G)))] [(cA, .int), (cB, .int), (cC, .int)])) (vp_Si (fun r => (r = zi_n 1 ∧ (zh_mM F n ln p0)) ∨ (r = zi_n 0 ∧ ¬ (zh_mM F n ln p0)))) 0 0 (fun _ => False) := by
  refine Met.ofW (cc := cX4_isMore) (maxL := 2) (ret := (some .boolean)) (by decide) rfl ?_
  intro p e s m args below meth c s₁ B hml hv
  obtain ⟨rfl, hP, hK⟩ := hv
  have hx := B.exec
  have hb := B.bytes
  have hr := B.returns
  have hts := atoms_spec (ws := wsX4_isMore) B.pre
  have hown : s.vm.findClass RX4 = some m.cls := findClass_of_methodNamed B.named
  have hlocks := B.notSynchronized
  have hl := lv_entry ([.ref x, .int (zi_n p0)]) (n := 2) (Nat.le_of_ble_eq_true rfl)
  rw [lg_entry_eq]
  generalize (lg_sl ([.ref x, .int (zi_n p0)]) ++ List.replicate (2 - (lg_sl ([.ref x, .int (zi_n p0)])).length) Slot.unset).toArray = ls at hl ⊢
  have hl : lv_has ls 2 [(0, .ref x), (1, .int (zi_n p0))] := hl
  refine lv_iload_n hx hb dX4_isMore_0 rfl (lv_at hl 1 rfl) ?_
  refine zr_if_eq (tgt := 38) hx hb dX4_isMore_1 (by decide) (by omega) (fun c_1 => ?_) (fun c_1 => ?_)
  · refine zr_iconst hx hb dX4_isMore_38 ?_
    refine lv_goto (tgt := 43) hx hb dX4_isMore_39 (by decide) ?_
    exact W.zret (v := zi_n 1) (ty := .boolean) hx hb hr zl_b1 (fun t ht hW => ⟨_, rfl, zl_t (by unfold zh_mM; omega), ht⟩) (fun q hq => nomatch hq) dX4_isMore_43
  · refine lv_iload_n hx hb dX4_isMore_4 rfl (lv_at hl 1 rfl) ?_
    refine zr_bipush hx hb dX4_isMore_5 (by decide) ?_
    refine zr_icmp_lt (tgt := 42) hx hb dX4_isMore_7 (by decide) (by omega) (by omega) (fun c_2 => ?_) (fun c_2 => ?_)
    · refine zr_iconst hx hb dX4_isMore_42 ?_
      exact W.zret (v := zi_n 0) (ty := .boolean) hx hb hr zl_b0 (fun t ht hW => ⟨_, rfl, zl_f (by unfold zh_mM; omega), ht⟩) (fun q hq => nomatch hq) dX4_isMore_43
    · refine lv_aload_n hx hb dX4_isMore_10 rfl (lv_at hl 0 rfl) ?_
      refine lv_iload_n hx hb dX4_isMore_11 rfl (lv_at hl 1 rfl) ?_
      refine zr_iconst hx hb dX4_isMore_12 ?_
      refine zr_iadd hx hb dX4_isMore_13 ?_
      refine zc_V (As := [.int (zi_n (p0 + 1))]) (rest := []) ⟨hx, hb, hml, hown, hts⟩ (c_M_isThere l D x a a2 a3 cA cB cC F P G n rd br v ln ft hF (by omega) hP0 hG (by omega) (by omega) (by omega) (by omega) (by omega) (p0 + 1) (by omega)) (cwV 1 hts gX4_isMore_X4_isThere rfl rfl rfl (by decide +kernel) ⟨(Nat.le_of_ble_eq_true rfl), (Nat.le_of_ble_eq_true rfl)⟩) hP hK [0, 1, 2, 3] [0, 1, 2] rfl rfl (ci := 5) rfl rfl rfl rfl hl.1 rfl (Nat.le_of_ble_eq_true rfl) dX4_isMore_14 ⟨Nat.zero_le _, Nat.zero_le _⟩ (fun r hr1 => ?_)
      rcases hr1 with ⟨rfl, c_3⟩ | ⟨rfl, c_3⟩
      · refine zr_if_eq (tgt := 42) hx hb dX4_isMore_17 (by decide) (by omega) (fun c => absurd c (by decide)) (fun c_4 => ?_)
        refine lv_iload_n hx hb dX4_isMore_20 rfl (lv_at hl 1 rfl) ?_
        refine zr_iconst hx hb dX4_isMore_21 ?_
        refine zr_iadd hx hb dX4_isMore_22 ?_
        refine zr_iconst hx hb dX4_isMore_23 ?_
        refine lv_aload_n hx hb dX4_isMore_24 rfl (lv_at hl 0 rfl) ?_
        refine lv_iload_n hx hb dX4_isMore_25 rfl (lv_at hl 1 rfl) ?_
        refine zc_V (As := [.int (zi_n p0)]) (rest := [.int (zi_n 2), .int (zi_n (p0 + 2))]) ⟨hx, hb, hml, hown, hts⟩ (c_M_two l D x a a2 a3 cA cB cC F P G n rd br v ln ft hF (by omega) hP0 hG (by omega) (by omega) (by omega) (by omega) (by omega) p0 (by omega)) (cwV 1 hts gX4_isMore_X4_two rfl rfl rfl (by decide +kernel) ⟨(Nat.le_of_ble_eq_true rfl), (Nat.le_of_ble_eq_true rfl)⟩) hP hK [0, 1, 2, 3] [0, 1, 2] rfl rfl (ci := 5) rfl rfl rfl rfl hl.1 rfl (Nat.le_of_ble_eq_true rfl) dX4_isMore_26 ⟨Nat.zero_le _, Nat.zero_le _⟩ (fun r hr1 => ?_)
        obtain ⟨rfl, b_5⟩ := hr1
        refine zr_imul hx hb dX4_isMore_29 ?_
        refine zr_iadd hx hb dX4_isMore_30 ?_
        refine lv_aload_n hx hb dX4_isMore_31 rfl (lv_at hl 0 rfl) ?_
        refine va_get (D := D) (ci := 5) (v := .int (zi_n ln)) (C := RX4) (T := TX4) (N := 9) hx hb hts in_X4_isMore_X4 hown hK hP 0 rfl rfl 8 (by decide) (hts (.fieldLink RX4 54 "ZHeadsModel" "length" "I") (by decide +kernel)) (fun _ h9 => h9) rfl dX4_isMore_32 ?_
        refine zr_icmp_gt (tgt := 42) hx hb dX4_isMore_35 (by decide) (by omega) (by omega) (fun c_6 => ?_) (fun c_6 => ?_)
        · refine zr_iconst hx hb dX4_isMore_42 ?_
          exact W.zret (v := zi_n 0) (ty := .boolean) hx hb hr zl_b0 (fun t ht hW => ⟨_, rfl, zl_f (by unfold zh_mM; omega), ht⟩) (fun q hq => nomatch hq) dX4_isMore_43
        · refine zr_iconst hx hb dX4_isMore_38 ?_
          refine lv_goto (tgt := 43) hx hb dX4_isMore_39 (by decide) ?_
          exact W.zret (v := zi_n 1) (ty := .boolean) hx hb hr zl_b1 (fun t ht hW => ⟨_, rfl, zl_t (by unfold zh_mM; omega), ht⟩) (fun q hq => nomatch hq) dX4_isMore_43
      · refine zr_if_eq (tgt := 42) hx hb dX4_isMore_17 (by decide) (by omega) (fun c_7 => ?_) (fun c => absurd c (by decide))
        refine zr_iconst hx hb dX4_isMore_42 ?_
        exact W.zret (v := zi_n 0) (ty := .boolean) hx hb hr zl_b0 (fun t ht hW => ⟨_, rfl, zl_f (by unfold zh_mM; omega), ht⟩) (fun q hq => nomatch hq) dX4_isMore_43

theorem in_X4_isThird_X4 : ∀ w ∈ u_ws RX4 TX4 9, w ∈ wsX4_isThird := by decide +kernel
set_option maxHeartbeats 4000000 in
set_option maxRecDepth 100000 in
theorem c_M_isThird (l : Launch) (D : va_G) (x a a2 a3 : Nat) (cA cB cC : ClassId) (F P G : Nat → Int) (n rd br v ln ft : Int) (hF : zi_By F) (hn : 0 ≤ n ∧ n ≤ 600) (hP0 : zi_By P) (hG : zi_By G) (hrd : rd = 0 ∨ rd = 1) (hbr : 0 ≤ br ∧ br ≤ 15) (hv0 : 0 ≤ v ∧ v ≤ 255) (hln : 0 ≤ ln ∧ ln ≤ 524280) (hft : 0 ≤ ft ∧ ft ≤ 1) (p0 : Int) (hp : 0 ≤ p0 ∧ p0 + 7 < 600) : Met l yX4_isThird wsX4_isThird ({ frames := 1, cells := 0, slots := 0, locals := 21 }) (va_Pc [.ref x, .int (zi_n p0)] (zp_Q D vwCl [(x, .inr (5, [.int (zi_n ft), .ref a, .int (zi_n n), .int (zi_n rd), .int (zi_n br), .ref a2, .ref a3, .int (zi_n v), .int (zi_n ln)])), (a, .inl (cA, 600, .inl (zi_F F))), (a2, .inl (cB, 600, .inl (zi_F P))), (a3, .inl (cC, 600, .inl (zi_F G)))] [(cA, .int), (cB, .int), (cC, .int)])) (vp_Si (fun r => (r = zi_n 1 ∧ (zh_mT F n ln p0)) ∨ (r = zi_n 0 ∧ ¬ (zh_mT F n ln p0)))) 0 0 (fun _ => False) := by
  refine Met.ofW (cc := cX4_isThird) (maxL := 3) (ret := (some .boolean)) (by decide) rfl ?_
  intro p e s m args below meth c s₁ B hml hv
  obtain ⟨rfl, hP, hK⟩ := hv
  have hx := B.exec
  have hb := B.bytes
  have hr := B.returns
  have hts := atoms_spec (ws := wsX4_isThird) B.pre
  have hown : s.vm.findClass RX4 = some m.cls := findClass_of_methodNamed B.named
  have hlocks := B.notSynchronized
  have hl := lv_entry ([.ref x, .int (zi_n p0)]) (n := 3) (Nat.le_of_ble_eq_true rfl)
  rw [lg_entry_eq]
  generalize (lg_sl ([.ref x, .int (zi_n p0)]) ++ List.replicate (3 - (lg_sl ([.ref x, .int (zi_n p0)])).length) Slot.unset).toArray = ls at hl ⊢
  have hl : lv_has ls 3 [(0, .ref x), (1, .int (zi_n p0))] := hl
  refine lv_aload_n hx hb dX4_isThird_0 rfl (lv_at hl 0 rfl) ?_
  refine lv_iload_n hx hb dX4_isThird_1 rfl (lv_at hl 1 rfl) ?_
  refine zr_bipush hx hb dX4_isThird_2 (by decide) ?_
  refine zr_iadd hx hb dX4_isThird_4 ?_
  refine zc_V (As := [.int (zi_n (p0 + 6))]) (rest := []) ⟨hx, hb, hml, hown, hts⟩ (c_M_two l D x a a2 a3 cA cB cC F P G n rd br v ln ft hF (by omega) hP0 hG (by omega) (by omega) (by omega) (by omega) (by omega) (p0 + 6) (by omega)) (cwV 1 hts gX4_isThird_X4_two rfl rfl rfl (by decide +kernel) ⟨(Nat.le_of_ble_eq_true rfl), (Nat.le_of_ble_eq_true rfl)⟩) hP hK [0, 1, 2, 3] [0, 1, 2] rfl rfl (ci := 5) rfl rfl rfl rfl hl.1 rfl (Nat.le_of_ble_eq_true rfl) dX4_isThird_5 ⟨Nat.zero_le _, Nat.zero_le _⟩ (fun r hr1 => ?_)
  obtain ⟨rfl, b_1⟩ := hr1
  refine lv_istore_n (lv' := [(2, .int (zi_n (zh_T F (p0 + 6)))), (0, .ref x), (1, .int (zi_n p0))]) hx hb dX4_isThird_8 rfl hl (by decide) rfl (fun ls hl => ?_)
  refine lv_iload_n hx hb dX4_isThird_9 rfl (lv_at hl 0 rfl) ?_
  refine zr_if_eq (tgt := 46) hx hb dX4_isThird_10 (by decide) (by omega) (fun c_2 => ?_) (fun c_2 => ?_)
  · refine zr_iconst hx hb dX4_isThird_46 ?_
    refine lv_goto (tgt := 51) hx hb dX4_isThird_47 (by decide) ?_
    exact W.zret (v := zi_n 1) (ty := .boolean) hx hb hr zl_b1 (fun t ht hW => ⟨_, rfl, zl_t (by unfold zh_mT; omega), ht⟩) (fun q hq => nomatch hq) dX4_isThird_51
  · refine lv_iload_n hx hb dX4_isThird_13 rfl (lv_at hl 0 rfl) ?_
    refine zr_bipush hx hb dX4_isThird_14 (by decide) ?_
    refine zr_icmp_lt (tgt := 50) hx hb dX4_isThird_16 (by decide) (by omega) (by omega) (fun c_3 => ?_) (fun c_3 => ?_)
    · refine zr_iconst hx hb dX4_isThird_50 ?_
      exact W.zret (v := zi_n 0) (ty := .boolean) hx hb hr zl_b0 (fun t ht hW => ⟨_, rfl, zl_f (by unfold zh_mT; omega), ht⟩) (fun q hq => nomatch hq) dX4_isThird_51
    · refine lv_aload_n hx hb dX4_isThird_19 rfl (lv_at hl 1 rfl) ?_
      refine lv_iload_n hx hb dX4_isThird_20 rfl (lv_at hl 0 rfl) ?_
      refine zc_V (As := [.int (zi_n (zh_T F (p0 + 6)))]) (rest := []) ⟨hx, hb, hml, hown, hts⟩ (c_M_isThere l D x a a2 a3 cA cB cC F P G n rd br v ln ft hF (by omega) hP0 hG (by omega) (by omega) (by omega) (by omega) (by omega) (zh_T F (p0 + 6)) (by omega)) (cwV 1 hts gX4_isThird_X4_isThere rfl rfl rfl (by decide +kernel) ⟨(Nat.le_of_ble_eq_true rfl), (Nat.le_of_ble_eq_true rfl)⟩) hP hK [0, 1, 2, 3] [0, 1, 2] rfl rfl (ci := 5) rfl rfl rfl rfl hl.1 rfl (Nat.le_of_ble_eq_true rfl) dX4_isThird_21 ⟨Nat.zero_le _, Nat.zero_le _⟩ (fun r hr1 => ?_)
      rcases hr1 with ⟨rfl, c_4⟩ | ⟨rfl, c_4⟩
      · refine zr_if_eq (tgt := 50) hx hb dX4_isThird_24 (by decide) (by omega) (fun c => absurd c (by decide)) (fun c_5 => ?_)
        refine lv_iload_n hx hb dX4_isThird_27 rfl (lv_at hl 0 rfl) ?_
        refine zr_iconst hx hb dX4_isThird_28 ?_
        refine zr_iadd hx hb dX4_isThird_29 ?_
        refine zr_iconst hx hb dX4_isThird_30 ?_
        refine lv_aload_n hx hb dX4_isThird_31 rfl (lv_at hl 1 rfl) ?_
        refine va_get (D := D) (ci := 5) (v := .ref a) (C := RX4) (T := TX4) (N := 9) hx hb hts in_X4_isThird_X4 hown hK hP 0 rfl rfl 1 (by decide) (hts (.fieldLink RX4 7 "ZHeadsModel" "file" "[I") (by decide +kernel)) (fun _ h9 => h9) rfl dX4_isThird_32 ?_
        refine lv_iload_n hx hb dX4_isThird_35 rfl (lv_at hl 0 rfl) ?_
        refine zr_iald hx hb hK hP 1 0 rfl rfl (by decide) (by omega) dX4_isThird_36 ?_
        have b_6 := hF (zh_T F (p0 + 6)).toNat
        refine zr_imul hx hb dX4_isThird_37 ?_
        refine zr_iadd hx hb dX4_isThird_38 ?_
        refine lv_aload_n hx hb dX4_isThird_39 rfl (lv_at hl 1 rfl) ?_
        refine va_get (D := D) (ci := 5) (v := .int (zi_n ln)) (C := RX4) (T := TX4) (N := 9) hx hb hts in_X4_isThird_X4 hown hK hP 0 rfl rfl 8 (by decide) (hts (.fieldLink RX4 54 "ZHeadsModel" "length" "I") (by decide +kernel)) (fun _ h9 => h9) rfl dX4_isThird_40 ?_
        refine zr_icmp_gt (tgt := 50) hx hb dX4_isThird_43 (by decide) (by omega) (by omega) (fun c_7 => ?_) (fun c_7 => ?_)
        · refine zr_iconst hx hb dX4_isThird_50 ?_
          exact W.zret (v := zi_n 0) (ty := .boolean) hx hb hr zl_b0 (fun t ht hW => ⟨_, rfl, zl_f (by unfold zh_mT; omega), ht⟩) (fun q hq => nomatch hq) dX4_isThird_51
        · refine zr_iconst hx hb dX4_isThird_46 ?_
          refine lv_goto (tgt := 51) hx hb dX4_isThird_47 (by decide) ?_
          exact W.zret (v := zi_n 1) (ty := .boolean) hx hb hr zl_b1 (fun t ht hW => ⟨_, rfl, zl_t (by unfold zh_mT; omega), ht⟩) (fun q hq => nomatch hq) dX4_isThird_51
      · refine zr_if_eq (tgt := 50) hx hb dX4_isThird_24 (by decide) (by omega) (fun c_8 => ?_) (fun c => absurd c (by decide))
        refine zr_iconst hx hb dX4_isThird_50 ?_
        exact W.zret (v := zi_n 0) (ty := .boolean) hx hb hr zl_b0 (fun t ht hW => ⟨_, rfl, zl_f (by unfold zh_mT; omega), ht⟩) (fun q hq => nomatch hq) dX4_isThird_51

theorem in_X4_startOf_X4 : ∀ w ∈ u_ws RX4 TX4 9, w ∈ wsX4_startOf := by decide +kernel
set_option maxHeartbeats 4000000 in
set_option maxRecDepth 100000 in
theorem c_M_startOf (l : Launch) (D : va_G) (x a a2 a3 : Nat) (cA cB cC : ClassId) (F P G : Nat → Int) (n rd br v ln ft : Int) (hF : zi_By F) (hn : 0 ≤ n ∧ n ≤ 600) (hP0 : zi_By P) (hG : zi_By G) (hrd : rd = 0 ∨ rd = 1) (hbr : 0 ≤ br ∧ br ≤ 15) (hv0 : 0 ≤ v ∧ v ≤ 255) (hln : 0 ≤ ln ∧ ln ≤ 524280) (hft : 0 ≤ ft ∧ ft ≤ 1) : Met l yX4_startOf wsX4_startOf ({ frames := 1, cells := 0, slots := 0, locals := 21 }) (va_Pc [.ref x] (zp_Q D vwCl [(x, .inr (5, [.int (zi_n ft), .ref a, .int (zi_n n), .int (zi_n rd), .int (zi_n br), .ref a2, .ref a3, .int (zi_n v), .int (zi_n ln)])), (a, .inl (cA, 600, .inl (zi_F F))), (a2, .inl (cB, 600, .inl (zi_F P))), (a3, .inl (cC, 600, .inl (zi_F G)))] [(cA, .int), (cB, .int), (cC, .int)])) (vp_Si (fun r => r = zi_n (zh_mst F v) ∧ 0 ≤ (zh_mst F v) ∧ (zh_mst F v) ≤ 786420)) 0 0 (fun _ => False) := by
  refine Met.ofW (cc := cX4_startOf) (maxL := 1) (ret := (some .int)) (by decide) rfl ?_
  intro p e s m args below meth c s₁ B hml hv
  obtain ⟨rfl, hP, hK⟩ := hv
  have hx := B.exec
  have hb := B.bytes
  have hr := B.returns
  have hts := atoms_spec (ws := wsX4_startOf) B.pre
  have hown : s.vm.findClass RX4 = some m.cls := findClass_of_methodNamed B.named
  have hlocks := B.notSynchronized
  have hl := lv_entry ([.ref x]) (n := 1) (Nat.le_of_ble_eq_true rfl)
  rw [lg_entry_eq]
  generalize (lg_sl ([.ref x]) ++ List.replicate (1 - (lg_sl ([.ref x])).length) Slot.unset).toArray = ls at hl ⊢
  have hl : lv_has ls 1 [(0, .ref x)] := hl
  refine lv_aload_n hx hb dX4_startOf_0 rfl (lv_at hl 0 rfl) ?_
  refine va_get (D := D) (ci := 5) (v := .int (zi_n v)) (C := RX4) (T := TX4) (N := 9) hx hb hts in_X4_startOf_X4 hown hK hP 0 rfl rfl 7 (by decide) (hts (.fieldLink RX4 51 "ZHeadsModel" "version" "I") (by decide +kernel)) (fun _ h9 => h9) rfl dX4_startOf_1 ?_
  refine zr_bipush hx hb dX4_startOf_4 (by decide) ?_
  refine zr_icmp_ne (tgt := 30) hx hb dX4_startOf_6 (by decide) (by omega) (by omega) (fun c_1 => ?_) (fun c_1 => ?_)
  · refine lv_aload_n hx hb dX4_startOf_30 rfl (lv_at hl 0 rfl) ?_
    refine zr_bipush hx hb dX4_startOf_31 (by decide) ?_
    refine zc_V (As := [.int (zi_n 6)]) (rest := []) ⟨hx, hb, hml, hown, hts⟩ (c_M_two_k l D x a a2 a3 cA cB cC F P G n rd br v ln ft hF (by omega) hP0 hG (by omega) (by omega) (by omega) (by omega) (by omega) 6 6 rfl (by omega)) (cwV 1 hts gX4_startOf_X4_two rfl rfl rfl (by decide +kernel) ⟨(Nat.le_of_ble_eq_true rfl), (Nat.le_of_ble_eq_true rfl)⟩) hP hK [0, 1, 2, 3] [0, 1, 2] rfl rfl (ci := 5) rfl rfl rfl rfl hl.1 rfl (Nat.le_of_ble_eq_true rfl) dX4_startOf_33 ⟨Nat.zero_le _, Nat.zero_le _⟩ (fun r hr1 => ?_)
    obtain ⟨rfl, b_2⟩ := hr1
    exact W.iret (v := zi_n (zh_t F 6)) hx hb hr (fun t ht hW => ⟨_, rfl, zl_r (by unfold zh_mst; (repeat' split) <;> omega) (by omega), ht⟩) (fun q hq => nomatch hq) dX4_startOf_36
  · refine zr_iconst hx hb dX4_startOf_9 ?_
    refine lv_aload_n hx hb dX4_startOf_10 rfl (lv_at hl 0 rfl) ?_
    refine zr_bipush hx hb dX4_startOf_11 (by decide) ?_
    refine zc_V (As := [.int (zi_n 6)]) (rest := [.int (zi_n 4)]) ⟨hx, hb, hml, hown, hts⟩ (c_M_two_k l D x a a2 a3 cA cB cC F P G n rd br v ln ft hF (by omega) hP0 hG (by omega) (by omega) (by omega) (by omega) (by omega) 6 6 rfl (by omega)) (cwV 1 hts gX4_startOf_X4_two rfl rfl rfl (by decide +kernel) ⟨(Nat.le_of_ble_eq_true rfl), (Nat.le_of_ble_eq_true rfl)⟩) hP hK [0, 1, 2, 3] [0, 1, 2] rfl rfl (ci := 5) rfl rfl rfl rfl hl.1 rfl (Nat.le_of_ble_eq_true rfl) dX4_startOf_13 ⟨Nat.zero_le _, Nat.zero_le _⟩ (fun r hr1 => ?_)
    obtain ⟨rfl, b_3⟩ := hr1
    refine zr_imul hx hb dX4_startOf_16 ?_
    refine zr_bipush hx hb dX4_startOf_17 (by decide) ?_
    refine lv_aload_n hx hb dX4_startOf_19 rfl (lv_at hl 0 rfl) ?_
    refine zr_bipush hx hb dX4_startOf_20 (by decide) ?_
    refine zc_V (As := [.int (zi_n 40)]) (rest := [.int (zi_n 8), .int (zi_n (4 * (zh_t F 6)))]) ⟨hx, hb, hml, hown, hts⟩ (c_M_two_k l D x a a2 a3 cA cB cC F P G n rd br v ln ft hF (by omega) hP0 hG (by omega) (by omega) (by omega) (by omega) (by omega) 40 40 rfl (by omega)) (cwV 1 hts gX4_startOf_X4_two rfl rfl rfl (by decide +kernel) ⟨(Nat.le_of_ble_eq_true rfl), (Nat.le_of_ble_eq_true rfl)⟩) hP hK [0, 1, 2, 3] [0, 1, 2] rfl rfl (ci := 5) rfl rfl rfl rfl hl.1 rfl (Nat.le_of_ble_eq_true rfl) dX4_startOf_22 ⟨Nat.zero_le _, Nat.zero_le _⟩ (fun r hr1 => ?_)
    obtain ⟨rfl, b_4⟩ := hr1
    refine zr_imul hx hb dX4_startOf_25 ?_
    refine zr_iadd hx hb dX4_startOf_26 ?_
    refine lv_goto (tgt := 36) hx hb dX4_startOf_27 (by decide) ?_
    exact W.iret (v := zi_n ((4 * (zh_t F 6)) + (8 * (zh_t F 40)))) hx hb hr (fun t ht hW => ⟨_, rfl, zl_r (by unfold zh_mst; (repeat' split) <;> omega) (by omega), ht⟩) (fun q hq => nomatch hq) dX4_startOf_36

theorem in_X4_ofMore_X4 : ∀ w ∈ u_ws RX4 TX4 9, w ∈ wsX4_ofMore := by decide +kernel
set_option maxHeartbeats 4000000 in
set_option maxRecDepth 100000 in
theorem c_M_ofMore (l : Launch) (D : va_G) (x a a2 a3 : Nat) (cA cB cC : ClassId) (F P G : Nat → Int) (n rd br v ln ft : Int) (hF : zi_By F) (hn : 0 ≤ n ∧ n ≤ 600) (hP0 : zi_By P) (hG : zi_By G) (hrd : rd = 0 ∨ rd = 1) (hbr : 0 ≤ br ∧ br ≤ 15) (hv0 : 0 ≤ v ∧ v ≤ 255) (hln : 0 ≤ ln ∧ ln ≤ 524280) (hft : 0 ≤ ft ∧ ft ≤ 1) (p0 : Int) (rp0 : zi_R p0) (hq : 5 ≤ v → zh_t F 54 + 7 < 600 ∨ (zh_t F 54 + 1 < 600 ∧ zh_T F (zh_t F 54) ≤ 2)) : Met l yX4_ofMore wsX4_ofMore ({ frames := 1, cells := 0, slots := 0, locals := 21 }) (va_Pc [.ref x, .int (zi_n p0)] (zp_Q D vwCl [(x, .inr (5, [.int (zi_n ft), .ref a, .int (zi_n n), .int (zi_n rd), .int (zi_n br), .ref a2, .ref a3, .int (zi_n v), .int (zi_n ln)])), (a, .inl (cA, 600, .inl (zi_F F))), (a2, .inl (cB, 600, .inl (zi_F P))), (a3, .inl (cC, 600, .inl (zi_F G)))] [(cA, .int), (cB, .int), (cC, .int)])) (vp_Si (fun r => r = zi_n (zh_mof F v p0) ∧ 0 ≤ (zh_mof F v p0) ∧ (zh_mof F v p0) ≤ 65535)) 0 0 (fun _ => False) := by
  refine Met.ofW (cc := cX4_ofMore) (maxL := 3) (ret := (some .int)) (by decide) rfl ?_
  intro p e s m args below meth c s₁ B hml hv
  obtain ⟨rfl, hP, hK⟩ := hv
  have hx := B.exec
  have hb := B.bytes
  have hr := B.returns
  have hts := atoms_spec (ws := wsX4_ofMore) B.pre
  have hown : s.vm.findClass RX4 = some m.cls := findClass_of_methodNamed B.named
  have hlocks := B.notSynchronized
  have hl := lv_entry ([.ref x, .int (zi_n p0)]) (n := 3) (Nat.le_of_ble_eq_true rfl)
  rw [lg_entry_eq]
  generalize (lg_sl ([.ref x, .int (zi_n p0)]) ++ List.replicate (3 - (lg_sl ([.ref x, .int (zi_n p0)])).length) Slot.unset).toArray = ls at hl ⊢
  have hl : lv_has ls 3 [(0, .ref x), (1, .int (zi_n p0))] := hl
  refine lv_aload_n hx hb dX4_ofMore_0 rfl (lv_at hl 0 rfl) ?_
  refine zr_bipush hx hb dX4_ofMore_1 (by decide) ?_
  refine zc_V (As := [.int (zi_n 54)]) (rest := []) ⟨hx, hb, hml, hown, hts⟩ (c_M_two_k l D x a a2 a3 cA cB cC F P G n rd br v ln ft hF (by omega) hP0 hG (by omega) (by omega) (by omega) (by omega) (by omega) 54 54 rfl (by omega)) (cwV 1 hts gX4_ofMore_X4_two rfl rfl rfl (by decide +kernel) ⟨(Nat.le_of_ble_eq_true rfl), (Nat.le_of_ble_eq_true rfl)⟩) hP hK [0, 1, 2, 3] [0, 1, 2] rfl rfl (ci := 5) rfl rfl rfl rfl hl.1 rfl (Nat.le_of_ble_eq_true rfl) dX4_ofMore_3 ⟨Nat.zero_le _, Nat.zero_le _⟩ (fun r hr1 => ?_)
  obtain ⟨rfl, b_1⟩ := hr1
  refine lv_istore_n (lv' := [(2, .int (zi_n (zh_t F 54))), (0, .ref x), (1, .int (zi_n p0))]) hx hb dX4_ofMore_6 rfl hl (by decide) rfl (fun ls hl => ?_)
  refine lv_aload_n hx hb dX4_ofMore_7 rfl (lv_at hl 1 rfl) ?_
  refine va_get (D := D) (ci := 5) (v := .int (zi_n v)) (C := RX4) (T := TX4) (N := 9) hx hb hts in_X4_ofMore_X4 hown hK hP 0 rfl rfl 7 (by decide) (hts (.fieldLink RX4 51 "ZHeadsModel" "version" "I") (by decide +kernel)) (fun _ h9 => h9) rfl dX4_ofMore_8 ?_
  refine zr_iconst hx hb dX4_ofMore_11 ?_
  refine zr_icmp_lt (tgt := 19) hx hb dX4_ofMore_12 (by decide) (by omega) (by omega) (fun c_2 => ?_) (fun c_2 => ?_)
  · refine zr_iconst hx hb dX4_ofMore_19 ?_
    exact W.iret (v := zi_n 0) hx hb hr (fun t ht hW => ⟨_, rfl, zl_r (by unfold zh_mof; (repeat' split) <;> omega) (by omega), ht⟩) (fun q hq => nomatch hq) dX4_ofMore_20
  · refine lv_iload_n hx hb dX4_ofMore_15 rfl (lv_at hl 0 rfl) ?_
    refine zr_if_ne (tgt := 21) hx hb dX4_ofMore_16 (by decide) (by omega) (fun c_3 => ?_) (fun c_3 => ?_)
    · refine lv_iload_n hx hb dX4_ofMore_21 rfl (lv_at hl 2 rfl) ?_
      refine zr_bipush hx hb dX4_ofMore_22 (by decide) ?_
      refine zr_icmp_ne (tgt := 35) hx hb dX4_ofMore_24 (by decide) (by omega) (by omega) (fun c_4 => ?_) (fun c_4 => ?_)
      · refine lv_aload_n hx hb dX4_ofMore_35 rfl (lv_at hl 1 rfl) ?_
        refine lv_iload_n hx hb dX4_ofMore_36 rfl (lv_at hl 0 rfl) ?_
        refine zc_V (As := [.int (zi_n (zh_t F 54))]) (rest := []) ⟨hx, hb, hml, hown, hts⟩ (c_M_two l D x a a2 a3 cA cB cC F P G n rd br v ln ft hF (by omega) hP0 hG (by omega) (by omega) (by omega) (by omega) (by omega) (zh_t F 54) (by omega)) (cwV 1 hts gX4_ofMore_X4_two rfl rfl rfl (by decide +kernel) ⟨(Nat.le_of_ble_eq_true rfl), (Nat.le_of_ble_eq_true rfl)⟩) hP hK [0, 1, 2, 3] [0, 1, 2] rfl rfl (ci := 5) rfl rfl rfl rfl hl.1 rfl (Nat.le_of_ble_eq_true rfl) dX4_ofMore_37 ⟨Nat.zero_le _, Nat.zero_le _⟩ (fun r hr1 => ?_)
        obtain ⟨rfl, b_5⟩ := hr1
        refine zr_iconst hx hb dX4_ofMore_40 ?_
        refine zr_icmp_le (tgt := 55) hx hb dX4_ofMore_41 (by decide) (by omega) (by omega) (fun c_6 => ?_) (fun c_6 => ?_)
        · refine zr_iconst hx hb dX4_ofMore_55 ?_
          exact W.iret (v := zi_n 0) hx hb hr (fun t ht hW => ⟨_, rfl, zl_r (by unfold zh_mof; (repeat' split) <;> omega) (by omega), ht⟩) (fun q hq => nomatch hq) dX4_ofMore_56
        · refine lv_aload_n hx hb dX4_ofMore_44 rfl (lv_at hl 1 rfl) ?_
          refine lv_iload_n hx hb dX4_ofMore_45 rfl (lv_at hl 0 rfl) ?_
          refine zr_bipush hx hb dX4_ofMore_46 (by decide) ?_
          refine zr_iadd hx hb dX4_ofMore_48 ?_
          refine zc_V (As := [.int (zi_n ((zh_t F 54) + 6))]) (rest := []) ⟨hx, hb, hml, hown, hts⟩ (c_M_two l D x a a2 a3 cA cB cC F P G n rd br v ln ft hF (by omega) hP0 hG (by omega) (by omega) (by omega) (by omega) (by omega) ((zh_t F 54) + 6) (by omega)) (cwV 1 hts gX4_ofMore_X4_two rfl rfl rfl (by decide +kernel) ⟨(Nat.le_of_ble_eq_true rfl), (Nat.le_of_ble_eq_true rfl)⟩) hP hK [0, 1, 2, 3] [0, 1, 2] rfl rfl (ci := 5) rfl rfl rfl rfl hl.1 rfl (Nat.le_of_ble_eq_true rfl) dX4_ofMore_49 ⟨Nat.zero_le _, Nat.zero_le _⟩ (fun r hr1 => ?_)
          obtain ⟨rfl, b_7⟩ := hr1
          refine lv_goto (tgt := 56) hx hb dX4_ofMore_52 (by decide) ?_
          exact W.iret (v := zi_n (zh_T F ((zh_t F 54) + 6))) hx hb hr (fun t ht hW => ⟨_, rfl, zl_r (by unfold zh_mof; (repeat' split) <;> omega) (by omega), ht⟩) (fun q hq => nomatch hq) dX4_ofMore_56
      · refine lv_aload_n hx hb dX4_ofMore_27 rfl (lv_at hl 1 rfl) ?_
        refine lv_iload_n hx hb dX4_ofMore_28 rfl (lv_at hl 0 rfl) ?_
        refine zc_V (As := [.int (zi_n (zh_t F 54))]) (rest := []) ⟨hx, hb, hml, hown, hts⟩ (c_M_two l D x a a2 a3 cA cB cC F P G n rd br v ln ft hF (by omega) hP0 hG (by omega) (by omega) (by omega) (by omega) (by omega) (zh_t F 54) (by omega)) (cwV 1 hts gX4_ofMore_X4_two rfl rfl rfl (by decide +kernel) ⟨(Nat.le_of_ble_eq_true rfl), (Nat.le_of_ble_eq_true rfl)⟩) hP hK [0, 1, 2, 3] [0, 1, 2] rfl rfl (ci := 5) rfl rfl rfl rfl hl.1 rfl (Nat.le_of_ble_eq_true rfl) dX4_ofMore_29 ⟨Nat.zero_le _, Nat.zero_le _⟩ (fun r hr1 => ?_)
        obtain ⟨rfl, b_8⟩ := hr1
        refine lv_goto (tgt := 56) hx hb dX4_ofMore_32 (by decide) ?_
        exact W.iret (v := zi_n (zh_T F (zh_t F 54))) hx hb hr (fun t ht hW => ⟨_, rfl, zl_r (by unfold zh_mof; (repeat' split) <;> omega) (by omega), ht⟩) (fun q hq => nomatch hq) dX4_ofMore_56
    · refine zr_iconst hx hb dX4_ofMore_19 ?_
      exact W.iret (v := zi_n 0) hx hb hr (fun t ht hW => ⟨_, rfl, zl_r (by unfold zh_mof; (repeat' split) <;> omega) (by omega), ht⟩) (fun q hq => nomatch hq) dX4_ofMore_20

theorem in_X4_packedAt_X4 : ∀ w ∈ u_ws RX4 TX4 9, w ∈ wsX4_packedAt := by decide +kernel
set_option maxHeartbeats 4000000 in
set_option maxRecDepth 100000 in
theorem c_M_packedAt (l : Launch) (D : va_G) (x a a2 a3 : Nat) (cA cB cC : ClassId) (F P G : Nat → Int) (n rd br v ln ft : Int) (hF : zi_By F) (hn : 0 ≤ n ∧ n ≤ 600) (hP0 : zi_By P) (hG : zi_By G) (hrd : rd = 0 ∨ rd = 1) (hbr : 0 ≤ br ∧ br ≤ 15) (hv0 : 0 ≤ v ∧ v ≤ 255) (hln : 0 ≤ ln ∧ ln ≤ 524280) (hft : 0 ≤ ft ∧ ft ≤ 1) (p0 : Int) (p1 : Int) (hp : 0 ≤ p0 ∧ p0 ≤ 65535) (bp1 : p1 = 0 ∨ p1 = 1) : Met l yX4_packedAt wsX4_packedAt ({ frames := 1, cells := 0, slots := 0, locals := 21 }) (va_Pc [.ref x, .int (zi_n p0), .int (zi_n p1)] (zp_Q D vwCl [(x, .inr (5, [.int (zi_n ft), .ref a, .int (zi_n n), .int (zi_n rd), .int (zi_n br), .ref a2, .ref a3, .int (zi_n v), .int (zi_n ln)])), (a, .inl (cA, 600, .inl (zi_F F))), (a2, .inl (cB, 600, .inl (zi_F P))), (a3, .inl (cC, 600, .inl (zi_F G)))] [(cA, .int), (cB, .int), (cC, .int)])) (vp_Si (fun r => r = zi_n (zh_mpk F v p0 p1) ∧ 0 ≤ (zh_mpk F v p0 p1) ∧ (zh_mpk F v p0 p1) ≤ 1048560)) 0 0 (fun _ => False) := by
  refine Met.ofW (cc := cX4_packedAt) (maxL := 4) (ret := (some .int)) (by decide) rfl ?_
  intro p e s m args below meth c s₁ B hml hv
  obtain ⟨rfl, hP, hK⟩ := hv
  have hx := B.exec
  have hb := B.bytes
  have hr := B.returns
  have hts := atoms_spec (ws := wsX4_packedAt) B.pre
  have hown : s.vm.findClass RX4 = some m.cls := findClass_of_methodNamed B.named
  have hlocks := B.notSynchronized
  have hl := lv_entry ([.ref x, .int (zi_n p0), .int (zi_n p1)]) (n := 4) (Nat.le_of_ble_eq_true rfl)
  rw [lg_entry_eq]
  generalize (lg_sl ([.ref x, .int (zi_n p0), .int (zi_n p1)]) ++ List.replicate (4 - (lg_sl ([.ref x, .int (zi_n p0), .int (zi_n p1)])).length) Slot.unset).toArray = ls at hl ⊢
  have hl : lv_has ls 4 [(0, .ref x), (1, .int (zi_n p0)), (2, .int (zi_n p1))] := hl
  refine lv_aload_n hx hb dX4_packedAt_0 rfl (lv_at hl 0 rfl) ?_
  refine va_get (D := D) (ci := 5) (v := .int (zi_n v)) (C := RX4) (T := TX4) (N := 9) hx hb hts in_X4_packedAt_X4 hown hK hP 0 rfl rfl 7 (by decide) (hts (.fieldLink RX4 51 "ZHeadsModel" "version" "I") (by decide +kernel)) (fun _ h9 => h9) rfl dX4_packedAt_1 ?_
  refine zr_bipush hx hb dX4_packedAt_4 (by decide) ?_
  refine zr_icmp_eq (tgt := 18) hx hb dX4_packedAt_6 (by decide) (by omega) (by omega) (fun c_1 => ?_) (fun c_1 => ?_)
  · refine zr_bipush hx hb dX4_packedAt_18 (by decide) ?_
    refine lv_aload_n hx hb dX4_packedAt_20 rfl (lv_at hl 0 rfl) ?_
    refine lv_iload_n hx hb dX4_packedAt_21 rfl (lv_at hl 2 rfl) ?_
    refine zr_if_eq (tgt := 30) hx hb dX4_packedAt_22 (by decide) (by omega) (fun c_2 => ?_) (fun c_2 => ?_)
    · refine zr_bipush hx hb dX4_packedAt_30 (by decide) ?_
      refine zc_V (As := [.int (zi_n 40)]) (rest := [.int (zi_n 8)]) ⟨hx, hb, hml, hown, hts⟩ (c_M_two_k l D x a a2 a3 cA cB cC F P G n rd br v ln ft hF (by omega) hP0 hG (by omega) (by omega) (by omega) (by omega) (by omega) 40 40 rfl (by omega)) (cwV 1 hts gX4_packedAt_X4_two rfl rfl rfl (by decide +kernel) ⟨(Nat.le_of_ble_eq_true rfl), (Nat.le_of_ble_eq_true rfl)⟩) hP hK [0, 1, 2, 3] [0, 1, 2] rfl rfl (ci := 5) rfl rfl rfl rfl hl.1 rfl (Nat.le_of_ble_eq_true rfl) dX4_packedAt_32 ⟨Nat.zero_le _, Nat.zero_le _⟩ (fun r hr1 => ?_)
      obtain ⟨rfl, b_3⟩ := hr1
      refine zr_imul hx hb dX4_packedAt_35 ?_
      refine lv_goto (tgt := 40) hx hb dX4_packedAt_36 (by decide) ?_
      refine lv_istore_n (lv' := [(3, .int (zi_n (8 * (zh_t F 40)))), (0, .ref x), (1, .int (zi_n p0)), (2, .int (zi_n p1))]) hx hb dX4_packedAt_40 rfl hl (by decide) rfl (fun ls hl => ?_)
      refine lv_iload_n hx hb dX4_packedAt_41 rfl (lv_at hl 2 rfl) ?_
      refine lv_aload_n hx hb dX4_packedAt_42 rfl (lv_at hl 1 rfl) ?_
      refine va_get (D := D) (ci := 5) (v := .int (zi_n v)) (C := RX4) (T := TX4) (N := 9) hx hb hts in_X4_packedAt_X4 hown hK hP 0 rfl rfl 7 (by decide) (hts (.fieldLink RX4 51 "ZHeadsModel" "version" "I") (by decide +kernel)) (fun _ h9 => h9) rfl dX4_packedAt_43 ?_
      refine zr_iconst hx hb dX4_packedAt_46 ?_
      refine zr_icmp_ge (tgt := 54) hx hb dX4_packedAt_47 (by decide) (by omega) (by omega) (fun c_4 => ?_) (fun c_4 => ?_)
      · refine lv_aload_n hx hb dX4_packedAt_54 rfl (lv_at hl 1 rfl) ?_
        refine va_get (D := D) (ci := 5) (v := .int (zi_n v)) (C := RX4) (T := TX4) (N := 9) hx hb hts in_X4_packedAt_X4 hown hK hP 0 rfl rfl 7 (by decide) (hts (.fieldLink RX4 51 "ZHeadsModel" "version" "I") (by decide +kernel)) (fun _ h9 => h9) rfl dX4_packedAt_55 ?_
        refine zr_bipush hx hb dX4_packedAt_58 (by decide) ?_
        refine zr_icmp_ge (tgt := 67) hx hb dX4_packedAt_60 (by decide) (by omega) (by omega) (fun c_5 => ?_) (fun c_5 => ?_)
        · refine zr_bipush hx hb dX4_packedAt_67 (by decide) ?_
          refine zr_imul hx hb dX4_packedAt_69 ?_
          refine lv_iload_n hx hb dX4_packedAt_70 rfl (lv_at hl 0 rfl) ?_
          refine zr_iadd hx hb dX4_packedAt_71 ?_
          exact W.iret (v := zi_n ((p0 * 8) + (8 * (zh_t F 40)))) hx hb hr (fun t ht hW => ⟨_, rfl, zl_r (by unfold zh_mpk; (repeat' split) <;> omega) (by omega), ht⟩) (fun q hq => nomatch hq) dX4_packedAt_72
        · refine zr_iconst hx hb dX4_packedAt_63 ?_
          refine lv_goto (tgt := 69) hx hb dX4_packedAt_64 (by decide) ?_
          refine zr_imul hx hb dX4_packedAt_69 ?_
          refine lv_iload_n hx hb dX4_packedAt_70 rfl (lv_at hl 0 rfl) ?_
          refine zr_iadd hx hb dX4_packedAt_71 ?_
          exact W.iret (v := zi_n ((p0 * 4) + (8 * (zh_t F 40)))) hx hb hr (fun t ht hW => ⟨_, rfl, zl_r (by unfold zh_mpk; (repeat' split) <;> omega) (by omega), ht⟩) (fun q hq => nomatch hq) dX4_packedAt_72
      · refine zr_iconst hx hb dX4_packedAt_50 ?_
        refine lv_goto (tgt := 69) hx hb dX4_packedAt_51 (by decide) ?_
        refine zr_imul hx hb dX4_packedAt_69 ?_
        refine lv_iload_n hx hb dX4_packedAt_70 rfl (lv_at hl 0 rfl) ?_
        refine zr_iadd hx hb dX4_packedAt_71 ?_
        exact W.iret (v := zi_n ((p0 * 2) + (8 * (zh_t F 40)))) hx hb hr (fun t ht hW => ⟨_, rfl, zl_r (by unfold zh_mpk; (repeat' split) <;> omega) (by omega), ht⟩) (fun q hq => nomatch hq) dX4_packedAt_72
    · refine zr_bipush hx hb dX4_packedAt_25 (by decide) ?_
      refine lv_goto (tgt := 32) hx hb dX4_packedAt_27 (by decide) ?_
      refine zc_V (As := [.int (zi_n 42)]) (rest := [.int (zi_n 8)]) ⟨hx, hb, hml, hown, hts⟩ (c_M_two_k l D x a a2 a3 cA cB cC F P G n rd br v ln ft hF (by omega) hP0 hG (by omega) (by omega) (by omega) (by omega) (by omega) 42 42 rfl (by omega)) (cwV 1 hts gX4_packedAt_X4_two rfl rfl rfl (by decide +kernel) ⟨(Nat.le_of_ble_eq_true rfl), (Nat.le_of_ble_eq_true rfl)⟩) hP hK [0, 1, 2, 3] [0, 1, 2] rfl rfl (ci := 5) rfl rfl rfl rfl hl.1 rfl (Nat.le_of_ble_eq_true rfl) dX4_packedAt_32 ⟨Nat.zero_le _, Nat.zero_le _⟩ (fun r hr1 => ?_)
      obtain ⟨rfl, b_6⟩ := hr1
      refine zr_imul hx hb dX4_packedAt_35 ?_
      refine lv_goto (tgt := 40) hx hb dX4_packedAt_36 (by decide) ?_
      refine lv_istore_n (lv' := [(3, .int (zi_n (8 * (zh_t F 42)))), (0, .ref x), (1, .int (zi_n p0)), (2, .int (zi_n p1))]) hx hb dX4_packedAt_40 rfl hl (by decide) rfl (fun ls hl => ?_)
      refine lv_iload_n hx hb dX4_packedAt_41 rfl (lv_at hl 2 rfl) ?_
      refine lv_aload_n hx hb dX4_packedAt_42 rfl (lv_at hl 1 rfl) ?_
      refine va_get (D := D) (ci := 5) (v := .int (zi_n v)) (C := RX4) (T := TX4) (N := 9) hx hb hts in_X4_packedAt_X4 hown hK hP 0 rfl rfl 7 (by decide) (hts (.fieldLink RX4 51 "ZHeadsModel" "version" "I") (by decide +kernel)) (fun _ h9 => h9) rfl dX4_packedAt_43 ?_
      refine zr_iconst hx hb dX4_packedAt_46 ?_
      refine zr_icmp_ge (tgt := 54) hx hb dX4_packedAt_47 (by decide) (by omega) (by omega) (fun c_7 => ?_) (fun c_7 => ?_)
      · refine lv_aload_n hx hb dX4_packedAt_54 rfl (lv_at hl 1 rfl) ?_
        refine va_get (D := D) (ci := 5) (v := .int (zi_n v)) (C := RX4) (T := TX4) (N := 9) hx hb hts in_X4_packedAt_X4 hown hK hP 0 rfl rfl 7 (by decide) (hts (.fieldLink RX4 51 "ZHeadsModel" "version" "I") (by decide +kernel)) (fun _ h9 => h9) rfl dX4_packedAt_55 ?_
        refine zr_bipush hx hb dX4_packedAt_58 (by decide) ?_
        refine zr_icmp_ge (tgt := 67) hx hb dX4_packedAt_60 (by decide) (by omega) (by omega) (fun c_8 => ?_) (fun c_8 => ?_)
        · refine zr_bipush hx hb dX4_packedAt_67 (by decide) ?_
          refine zr_imul hx hb dX4_packedAt_69 ?_
          refine lv_iload_n hx hb dX4_packedAt_70 rfl (lv_at hl 0 rfl) ?_
          refine zr_iadd hx hb dX4_packedAt_71 ?_
          exact W.iret (v := zi_n ((p0 * 8) + (8 * (zh_t F 42)))) hx hb hr (fun t ht hW => ⟨_, rfl, zl_r (by unfold zh_mpk; (repeat' split) <;> omega) (by omega), ht⟩) (fun q hq => nomatch hq) dX4_packedAt_72
        · refine zr_iconst hx hb dX4_packedAt_63 ?_
          refine lv_goto (tgt := 69) hx hb dX4_packedAt_64 (by decide) ?_
          refine zr_imul hx hb dX4_packedAt_69 ?_
          refine lv_iload_n hx hb dX4_packedAt_70 rfl (lv_at hl 0 rfl) ?_
          refine zr_iadd hx hb dX4_packedAt_71 ?_
          exact W.iret (v := zi_n ((p0 * 4) + (8 * (zh_t F 42)))) hx hb hr (fun t ht hW => ⟨_, rfl, zl_r (by unfold zh_mpk; (repeat' split) <;> omega) (by omega), ht⟩) (fun q hq => nomatch hq) dX4_packedAt_72
      · refine zr_iconst hx hb dX4_packedAt_50 ?_
        refine lv_goto (tgt := 69) hx hb dX4_packedAt_51 (by decide) ?_
        refine zr_imul hx hb dX4_packedAt_69 ?_
        refine lv_iload_n hx hb dX4_packedAt_70 rfl (lv_at hl 0 rfl) ?_
        refine zr_iadd hx hb dX4_packedAt_71 ?_
        exact W.iret (v := zi_n ((p0 * 2) + (8 * (zh_t F 42)))) hx hb hr (fun t ht hW => ⟨_, rfl, zl_r (by unfold zh_mpk; (repeat' split) <;> omega) (by omega), ht⟩) (fun q hq => nomatch hq) dX4_packedAt_72
  · refine lv_aload_n hx hb dX4_packedAt_9 rfl (lv_at hl 0 rfl) ?_
    refine va_get (D := D) (ci := 5) (v := .int (zi_n v)) (C := RX4) (T := TX4) (N := 9) hx hb hts in_X4_packedAt_X4 hown hK hP 0 rfl rfl 7 (by decide) (hts (.fieldLink RX4 51 "ZHeadsModel" "version" "I") (by decide +kernel)) (fun _ h9 => h9) rfl dX4_packedAt_10 ?_
    refine zr_bipush hx hb dX4_packedAt_13 (by decide) ?_
    refine zr_icmp_ne (tgt := 39) hx hb dX4_packedAt_15 (by decide) (by omega) (by omega) (fun c_9 => ?_) (fun c_9 => ?_)
    · refine zr_iconst hx hb dX4_packedAt_39 ?_
      refine lv_istore_n (lv' := [(3, .int (zi_n 0)), (0, .ref x), (1, .int (zi_n p0)), (2, .int (zi_n p1))]) hx hb dX4_packedAt_40 rfl hl (by decide) rfl (fun ls hl => ?_)
      refine lv_iload_n hx hb dX4_packedAt_41 rfl (lv_at hl 2 rfl) ?_
      refine lv_aload_n hx hb dX4_packedAt_42 rfl (lv_at hl 1 rfl) ?_
      refine va_get (D := D) (ci := 5) (v := .int (zi_n v)) (C := RX4) (T := TX4) (N := 9) hx hb hts in_X4_packedAt_X4 hown hK hP 0 rfl rfl 7 (by decide) (hts (.fieldLink RX4 51 "ZHeadsModel" "version" "I") (by decide +kernel)) (fun _ h9 => h9) rfl dX4_packedAt_43 ?_
      refine zr_iconst hx hb dX4_packedAt_46 ?_
      refine zr_icmp_ge (tgt := 54) hx hb dX4_packedAt_47 (by decide) (by omega) (by omega) (fun c_10 => ?_) (fun c_10 => ?_)
      · refine lv_aload_n hx hb dX4_packedAt_54 rfl (lv_at hl 1 rfl) ?_
        refine va_get (D := D) (ci := 5) (v := .int (zi_n v)) (C := RX4) (T := TX4) (N := 9) hx hb hts in_X4_packedAt_X4 hown hK hP 0 rfl rfl 7 (by decide) (hts (.fieldLink RX4 51 "ZHeadsModel" "version" "I") (by decide +kernel)) (fun _ h9 => h9) rfl dX4_packedAt_55 ?_
        refine zr_bipush hx hb dX4_packedAt_58 (by decide) ?_
        refine zr_icmp_ge (tgt := 67) hx hb dX4_packedAt_60 (by decide) (by omega) (by omega) (fun c_11 => ?_) (fun c_11 => ?_)
        · refine zr_bipush hx hb dX4_packedAt_67 (by decide) ?_
          refine zr_imul hx hb dX4_packedAt_69 ?_
          refine lv_iload_n hx hb dX4_packedAt_70 rfl (lv_at hl 0 rfl) ?_
          refine zr_iadd hx hb dX4_packedAt_71 ?_
          exact W.iret (v := zi_n ((p0 * 8) + 0)) hx hb hr (fun t ht hW => ⟨_, rfl, zl_r (by unfold zh_mpk; (repeat' split) <;> omega) (by omega), ht⟩) (fun q hq => nomatch hq) dX4_packedAt_72
        · refine zr_iconst hx hb dX4_packedAt_63 ?_
          refine lv_goto (tgt := 69) hx hb dX4_packedAt_64 (by decide) ?_
          refine zr_imul hx hb dX4_packedAt_69 ?_
          refine lv_iload_n hx hb dX4_packedAt_70 rfl (lv_at hl 0 rfl) ?_
          refine zr_iadd hx hb dX4_packedAt_71 ?_
          exact W.iret (v := zi_n ((p0 * 4) + 0)) hx hb hr (fun t ht hW => ⟨_, rfl, zl_r (by unfold zh_mpk; (repeat' split) <;> omega) (by omega), ht⟩) (fun q hq => nomatch hq) dX4_packedAt_72
      · refine zr_iconst hx hb dX4_packedAt_50 ?_
        refine lv_goto (tgt := 69) hx hb dX4_packedAt_51 (by decide) ?_
        refine zr_imul hx hb dX4_packedAt_69 ?_
        refine lv_iload_n hx hb dX4_packedAt_70 rfl (lv_at hl 0 rfl) ?_
        refine zr_iadd hx hb dX4_packedAt_71 ?_
        exact W.iret (v := zi_n ((p0 * 2) + 0)) hx hb hr (fun t ht hW => ⟨_, rfl, zl_r (by unfold zh_mpk; (repeat' split) <;> omega) (by omega), ht⟩) (fun q hq => nomatch hq) dX4_packedAt_72
    · refine zr_bipush hx hb dX4_packedAt_18 (by decide) ?_
      refine lv_aload_n hx hb dX4_packedAt_20 rfl (lv_at hl 0 rfl) ?_
      refine lv_iload_n hx hb dX4_packedAt_21 rfl (lv_at hl 2 rfl) ?_
      refine zr_if_eq (tgt := 30) hx hb dX4_packedAt_22 (by decide) (by omega) (fun c_12 => ?_) (fun c_12 => ?_)
      · refine zr_bipush hx hb dX4_packedAt_30 (by decide) ?_
        refine zc_V (As := [.int (zi_n 40)]) (rest := [.int (zi_n 8)]) ⟨hx, hb, hml, hown, hts⟩ (c_M_two_k l D x a a2 a3 cA cB cC F P G n rd br v ln ft hF (by omega) hP0 hG (by omega) (by omega) (by omega) (by omega) (by omega) 40 40 rfl (by omega)) (cwV 1 hts gX4_packedAt_X4_two rfl rfl rfl (by decide +kernel) ⟨(Nat.le_of_ble_eq_true rfl), (Nat.le_of_ble_eq_true rfl)⟩) hP hK [0, 1, 2, 3] [0, 1, 2] rfl rfl (ci := 5) rfl rfl rfl rfl hl.1 rfl (Nat.le_of_ble_eq_true rfl) dX4_packedAt_32 ⟨Nat.zero_le _, Nat.zero_le _⟩ (fun r hr1 => ?_)
        obtain ⟨rfl, b_13⟩ := hr1
        refine zr_imul hx hb dX4_packedAt_35 ?_
        refine lv_goto (tgt := 40) hx hb dX4_packedAt_36 (by decide) ?_
        refine lv_istore_n (lv' := [(3, .int (zi_n (8 * (zh_t F 40)))), (0, .ref x), (1, .int (zi_n p0)), (2, .int (zi_n p1))]) hx hb dX4_packedAt_40 rfl hl (by decide) rfl (fun ls hl => ?_)
        refine lv_iload_n hx hb dX4_packedAt_41 rfl (lv_at hl 2 rfl) ?_
        refine lv_aload_n hx hb dX4_packedAt_42 rfl (lv_at hl 1 rfl) ?_
        refine va_get (D := D) (ci := 5) (v := .int (zi_n v)) (C := RX4) (T := TX4) (N := 9) hx hb hts in_X4_packedAt_X4 hown hK hP 0 rfl rfl 7 (by decide) (hts (.fieldLink RX4 51 "ZHeadsModel" "version" "I") (by decide +kernel)) (fun _ h9 => h9) rfl dX4_packedAt_43 ?_
        refine zr_iconst hx hb dX4_packedAt_46 ?_
        refine zr_icmp_ge (tgt := 54) hx hb dX4_packedAt_47 (by decide) (by omega) (by omega) (fun c_14 => ?_) (fun c_14 => ?_)
        · refine lv_aload_n hx hb dX4_packedAt_54 rfl (lv_at hl 1 rfl) ?_
          refine va_get (D := D) (ci := 5) (v := .int (zi_n v)) (C := RX4) (T := TX4) (N := 9) hx hb hts in_X4_packedAt_X4 hown hK hP 0 rfl rfl 7 (by decide) (hts (.fieldLink RX4 51 "ZHeadsModel" "version" "I") (by decide +kernel)) (fun _ h9 => h9) rfl dX4_packedAt_55 ?_
          refine zr_bipush hx hb dX4_packedAt_58 (by decide) ?_
          refine zr_icmp_ge (tgt := 67) hx hb dX4_packedAt_60 (by decide) (by omega) (by omega) (fun c_15 => ?_) (fun c_15 => ?_)
          · refine zr_bipush hx hb dX4_packedAt_67 (by decide) ?_
            refine zr_imul hx hb dX4_packedAt_69 ?_
            refine lv_iload_n hx hb dX4_packedAt_70 rfl (lv_at hl 0 rfl) ?_
            refine zr_iadd hx hb dX4_packedAt_71 ?_
            exact W.iret (v := zi_n ((p0 * 8) + (8 * (zh_t F 40)))) hx hb hr (fun t ht hW => ⟨_, rfl, zl_r (by unfold zh_mpk; (repeat' split) <;> omega) (by omega), ht⟩) (fun q hq => nomatch hq) dX4_packedAt_72
          · refine zr_iconst hx hb dX4_packedAt_63 ?_
            refine lv_goto (tgt := 69) hx hb dX4_packedAt_64 (by decide) ?_
            refine zr_imul hx hb dX4_packedAt_69 ?_
            refine lv_iload_n hx hb dX4_packedAt_70 rfl (lv_at hl 0 rfl) ?_
            refine zr_iadd hx hb dX4_packedAt_71 ?_
            exact W.iret (v := zi_n ((p0 * 4) + (8 * (zh_t F 40)))) hx hb hr (fun t ht hW => ⟨_, rfl, zl_r (by unfold zh_mpk; (repeat' split) <;> omega) (by omega), ht⟩) (fun q hq => nomatch hq) dX4_packedAt_72
        · refine zr_iconst hx hb dX4_packedAt_50 ?_
          refine lv_goto (tgt := 69) hx hb dX4_packedAt_51 (by decide) ?_
          refine zr_imul hx hb dX4_packedAt_69 ?_
          refine lv_iload_n hx hb dX4_packedAt_70 rfl (lv_at hl 0 rfl) ?_
          refine zr_iadd hx hb dX4_packedAt_71 ?_
          exact W.iret (v := zi_n ((p0 * 2) + (8 * (zh_t F 40)))) hx hb hr (fun t ht hW => ⟨_, rfl, zl_r (by unfold zh_mpk; (repeat' split) <;> omega) (by omega), ht⟩) (fun q hq => nomatch hq) dX4_packedAt_72
      · refine zr_bipush hx hb dX4_packedAt_25 (by decide) ?_
        refine lv_goto (tgt := 32) hx hb dX4_packedAt_27 (by decide) ?_
        refine zc_V (As := [.int (zi_n 42)]) (rest := [.int (zi_n 8)]) ⟨hx, hb, hml, hown, hts⟩ (c_M_two_k l D x a a2 a3 cA cB cC F P G n rd br v ln ft hF (by omega) hP0 hG (by omega) (by omega) (by omega) (by omega) (by omega) 42 42 rfl (by omega)) (cwV 1 hts gX4_packedAt_X4_two rfl rfl rfl (by decide +kernel) ⟨(Nat.le_of_ble_eq_true rfl), (Nat.le_of_ble_eq_true rfl)⟩) hP hK [0, 1, 2, 3] [0, 1, 2] rfl rfl (ci := 5) rfl rfl rfl rfl hl.1 rfl (Nat.le_of_ble_eq_true rfl) dX4_packedAt_32 ⟨Nat.zero_le _, Nat.zero_le _⟩ (fun r hr1 => ?_)
        obtain ⟨rfl, b_16⟩ := hr1
        refine zr_imul hx hb dX4_packedAt_35 ?_
        refine lv_goto (tgt := 40) hx hb dX4_packedAt_36 (by decide) ?_
        refine lv_istore_n (lv' := [(3, .int (zi_n (8 * (zh_t F 42)))), (0, .ref x), (1, .int (zi_n p0)), (2, .int (zi_n p1))]) hx hb dX4_packedAt_40 rfl hl (by decide) rfl (fun ls hl => ?_)
        refine lv_iload_n hx hb dX4_packedAt_41 rfl (lv_at hl 2 rfl) ?_
        refine lv_aload_n hx hb dX4_packedAt_42 rfl (lv_at hl 1 rfl) ?_
        refine va_get (D := D) (ci := 5) (v := .int (zi_n v)) (C := RX4) (T := TX4) (N := 9) hx hb hts in_X4_packedAt_X4 hown hK hP 0 rfl rfl 7 (by decide) (hts (.fieldLink RX4 51 "ZHeadsModel" "version" "I") (by decide +kernel)) (fun _ h9 => h9) rfl dX4_packedAt_43 ?_
        refine zr_iconst hx hb dX4_packedAt_46 ?_
        refine zr_icmp_ge (tgt := 54) hx hb dX4_packedAt_47 (by decide) (by omega) (by omega) (fun c_17 => ?_) (fun c_17 => ?_)
        · refine lv_aload_n hx hb dX4_packedAt_54 rfl (lv_at hl 1 rfl) ?_
          refine va_get (D := D) (ci := 5) (v := .int (zi_n v)) (C := RX4) (T := TX4) (N := 9) hx hb hts in_X4_packedAt_X4 hown hK hP 0 rfl rfl 7 (by decide) (hts (.fieldLink RX4 51 "ZHeadsModel" "version" "I") (by decide +kernel)) (fun _ h9 => h9) rfl dX4_packedAt_55 ?_
          refine zr_bipush hx hb dX4_packedAt_58 (by decide) ?_
          refine zr_icmp_ge (tgt := 67) hx hb dX4_packedAt_60 (by decide) (by omega) (by omega) (fun c_18 => ?_) (fun c_18 => ?_)
          · refine zr_bipush hx hb dX4_packedAt_67 (by decide) ?_
            refine zr_imul hx hb dX4_packedAt_69 ?_
            refine lv_iload_n hx hb dX4_packedAt_70 rfl (lv_at hl 0 rfl) ?_
            refine zr_iadd hx hb dX4_packedAt_71 ?_
            exact W.iret (v := zi_n ((p0 * 8) + (8 * (zh_t F 42)))) hx hb hr (fun t ht hW => ⟨_, rfl, zl_r (by unfold zh_mpk; (repeat' split) <;> omega) (by omega), ht⟩) (fun q hq => nomatch hq) dX4_packedAt_72
          · refine zr_iconst hx hb dX4_packedAt_63 ?_
            refine lv_goto (tgt := 69) hx hb dX4_packedAt_64 (by decide) ?_
            refine zr_imul hx hb dX4_packedAt_69 ?_
            refine lv_iload_n hx hb dX4_packedAt_70 rfl (lv_at hl 0 rfl) ?_
            refine zr_iadd hx hb dX4_packedAt_71 ?_
            exact W.iret (v := zi_n ((p0 * 4) + (8 * (zh_t F 42)))) hx hb hr (fun t ht hW => ⟨_, rfl, zl_r (by unfold zh_mpk; (repeat' split) <;> omega) (by omega), ht⟩) (fun q hq => nomatch hq) dX4_packedAt_72
        · refine zr_iconst hx hb dX4_packedAt_50 ?_
          refine lv_goto (tgt := 69) hx hb dX4_packedAt_51 (by decide) ?_
          refine zr_imul hx hb dX4_packedAt_69 ?_
          refine lv_iload_n hx hb dX4_packedAt_70 rfl (lv_at hl 0 rfl) ?_
          refine zr_iadd hx hb dX4_packedAt_71 ?_
          exact W.iret (v := zi_n ((p0 * 2) + (8 * (zh_t F 42)))) hx hb hr (fun t ht hW => ⟨_, rfl, zl_r (by unfold zh_mpk; (repeat' split) <;> omega) (by omega), ht⟩) (fun q hq => nomatch hq) dX4_packedAt_72

theorem in_X4_mayFirst_X4 : ∀ w ∈ u_ws RX4 TX4 9, w ∈ wsX4_mayFirst := by decide +kernel
set_option maxHeartbeats 4000000 in
set_option maxRecDepth 100000 in
theorem c_M_mayFirst (l : Launch) (D : va_G) (x a a2 a3 : Nat) (cA cB cC : ClassId) (F P G : Nat → Int) (n rd br v ln ft : Int) (hF : zi_By F) (hn : 0 ≤ n ∧ n ≤ 600) (hP0 : zi_By P) (hG : zi_By G) (hrd : rd = 0 ∨ rd = 1) (hbr : 0 ≤ br ∧ br ≤ 15) (hv0 : 0 ≤ v ∧ v ≤ 255) (hln : 0 ≤ ln ∧ ln ≤ 524280) (hft : 0 ≤ ft ∧ ft ≤ 1) (p0 : Int) (hv1 : 1 ≤ v ∧ v ≤ 8) (hp : 0 ≤ p0 ∧ p0 ≤ 15) : Met l yX4_mayFirst wsX4_mayFirst ({ frames := 1, cells := 0, slots := 0, locals := 22 }) (va_Pc [.ref x, .int (zi_n p0)] (zp_Q D vwCl [(x, .inr (5, [.int (zi_n ft), .ref a, .int (zi_n n), .int (zi_n rd), .int (zi_n br), .ref a2, .ref a3, .int (zi_n v), .int (zi_n ln)])), (a, .inl (cA, 600, .inl (zi_F F))), (a2, .inl (cB, 600, .inl (zi_F P))), (a3, .inl (cC, 600, .inl (zi_F G)))] [(cA, .int), (cB, .int), (cC, .int)])) (vp_Si (fun r => (r = zi_n 1 ∧ (zh_mm1 v p0)) ∨ (r = zi_n 0 ∧ ¬ (zh_mm1 v p0)))) 0 0 (fun _ => False) := by
  refine Met.ofW (cc := cX4_mayFirst) (maxL := 2) (ret := (some .boolean)) (by decide) rfl ?_
  intro p e s m args below meth c s₁ B hml hv
  obtain ⟨rfl, hP, hK⟩ := hv
  have hx := B.exec
  have hb := B.bytes
  have hr := B.returns
  have hts := atoms_spec (ws := wsX4_mayFirst) B.pre
  have hown : s.vm.findClass RX4 = some m.cls := findClass_of_methodNamed B.named
  have hlocks := B.notSynchronized
  have hl := lv_entry ([.ref x, .int (zi_n p0)]) (n := 2) (Nat.le_of_ble_eq_true rfl)
  rw [lg_entry_eq]
  generalize (lg_sl ([.ref x, .int (zi_n p0)]) ++ List.replicate (2 - (lg_sl ([.ref x, .int (zi_n p0)])).length) Slot.unset).toArray = ls at hl ⊢
  have hl : lv_has ls 2 [(0, .ref x), (1, .int (zi_n p0))] := hl
  refine lv_aload_n hx hb dX4_mayFirst_0 rfl (lv_at hl 0 rfl) ?_
  refine va_get (D := D) (ci := 5) (v := .int (zi_n v)) (C := RX4) (T := TX4) (N := 9) hx hb hts in_X4_mayFirst_X4 hown hK hP 0 rfl rfl 7 (by decide) (hts (.fieldLink RX4 51 "ZHeadsModel" "version" "I") (by decide +kernel)) (fun _ h9 => h9) rfl dX4_mayFirst_1 ?_
  rcases (show v = 1 ∨ v = 2 ∨ v = 3 ∨ v = 4 ∨ v = 5 ∨ v = 6 ∨ v = 7 ∨ v = 8 by omega) with rfl | rfl | rfl | rfl | rfl | rfl | rfl | rfl
  · skip
    refine zr_tabIn (tgt := 44) hx hb dX4_mayFirst_4 (by decide) (by decide) (by decide) rfl (by decide) ?_
    refine lv_iload_n hx hb dX4_mayFirst_44 rfl (lv_at hl 1 rfl) ?_
    refine zr_iconst hx hb dX4_mayFirst_45 ?_
    refine zr_bipush hx hb dX4_mayFirst_46 (by decide) ?_
    refine zc_S (As := [.int (zi_n p0), .int (zi_n 4), .int (zi_n 6)]) (rest := []) ⟨hx, hb, hml, hown, hts⟩ (c_M_in l p0 4 6 (by omega) (by omega) (by omega)) (va_cwS 3 hts gX4_mayFirst_X4_in rfl rfl rfl (by decide +kernel) ⟨(Nat.le_of_ble_eq_true rfl), (Nat.le_of_ble_eq_true rfl)⟩) rfl hl.1 rfl (Nat.le_of_ble_eq_true rfl) dX4_mayFirst_48 ⟨Nat.zero_le _, Nat.zero_le _⟩ (fun r hr1 => ?_)
    rcases hr1 with ⟨rfl, c_2⟩ | ⟨rfl, c_2⟩
    · exact W.zret (v := zi_n 1) (ty := .boolean) hx hb hr zl_b1 (fun t ht hW => ⟨_, rfl, zl_t (by unfold zh_mm1; omega), ht⟩) (fun q hq => nomatch hq) dX4_mayFirst_51
    · exact W.zret (v := zi_n 0) (ty := .boolean) hx hb hr zl_b0 (fun t ht hW => ⟨_, rfl, zl_f (by unfold zh_mm1; omega), ht⟩) (fun q hq => nomatch hq) dX4_mayFirst_51
  · skip
    refine zr_tabIn (tgt := 44) hx hb dX4_mayFirst_4 (by decide) (by decide) (by decide) rfl (by decide) ?_
    refine lv_iload_n hx hb dX4_mayFirst_44 rfl (lv_at hl 1 rfl) ?_
    refine zr_iconst hx hb dX4_mayFirst_45 ?_
    refine zr_bipush hx hb dX4_mayFirst_46 (by decide) ?_
    refine zc_S (As := [.int (zi_n p0), .int (zi_n 4), .int (zi_n 6)]) (rest := []) ⟨hx, hb, hml, hown, hts⟩ (c_M_in l p0 4 6 (by omega) (by omega) (by omega)) (va_cwS 3 hts gX4_mayFirst_X4_in rfl rfl rfl (by decide +kernel) ⟨(Nat.le_of_ble_eq_true rfl), (Nat.le_of_ble_eq_true rfl)⟩) rfl hl.1 rfl (Nat.le_of_ble_eq_true rfl) dX4_mayFirst_48 ⟨Nat.zero_le _, Nat.zero_le _⟩ (fun r hr1 => ?_)
    rcases hr1 with ⟨rfl, c_3⟩ | ⟨rfl, c_3⟩
    · exact W.zret (v := zi_n 1) (ty := .boolean) hx hb hr zl_b1 (fun t ht hW => ⟨_, rfl, zl_t (by unfold zh_mm1; omega), ht⟩) (fun q hq => nomatch hq) dX4_mayFirst_51
    · exact W.zret (v := zi_n 0) (ty := .boolean) hx hb hr zl_b0 (fun t ht hW => ⟨_, rfl, zl_f (by unfold zh_mm1; omega), ht⟩) (fun q hq => nomatch hq) dX4_mayFirst_51
  · skip
    refine zr_tabIn (tgt := 44) hx hb dX4_mayFirst_4 (by decide) (by decide) (by decide) rfl (by decide) ?_
    refine lv_iload_n hx hb dX4_mayFirst_44 rfl (lv_at hl 1 rfl) ?_
    refine zr_iconst hx hb dX4_mayFirst_45 ?_
    refine zr_bipush hx hb dX4_mayFirst_46 (by decide) ?_
    refine zc_S (As := [.int (zi_n p0), .int (zi_n 4), .int (zi_n 6)]) (rest := []) ⟨hx, hb, hml, hown, hts⟩ (c_M_in l p0 4 6 (by omega) (by omega) (by omega)) (va_cwS 3 hts gX4_mayFirst_X4_in rfl rfl rfl (by decide +kernel) ⟨(Nat.le_of_ble_eq_true rfl), (Nat.le_of_ble_eq_true rfl)⟩) rfl hl.1 rfl (Nat.le_of_ble_eq_true rfl) dX4_mayFirst_48 ⟨Nat.zero_le _, Nat.zero_le _⟩ (fun r hr1 => ?_)
    rcases hr1 with ⟨rfl, c_4⟩ | ⟨rfl, c_4⟩
    · exact W.zret (v := zi_n 1) (ty := .boolean) hx hb hr zl_b1 (fun t ht hW => ⟨_, rfl, zl_t (by unfold zh_mm1; omega), ht⟩) (fun q hq => nomatch hq) dX4_mayFirst_51
    · exact W.zret (v := zi_n 0) (ty := .boolean) hx hb hr zl_b0 (fun t ht hW => ⟨_, rfl, zl_f (by unfold zh_mm1; omega), ht⟩) (fun q hq => nomatch hq) dX4_mayFirst_51
  · skip
    refine zr_tabIn (tgt := 52) hx hb dX4_mayFirst_4 (by decide) (by decide) (by decide) rfl (by decide) ?_
    refine lv_iload_n hx hb dX4_mayFirst_52 rfl (lv_at hl 1 rfl) ?_
    refine zr_iconst hx hb dX4_mayFirst_53 ?_
    refine zr_iconst hx hb dX4_mayFirst_54 ?_
    refine zc_S (As := [.int (zi_n p0), .int (zi_n 2), .int (zi_n 4)]) (rest := []) ⟨hx, hb, hml, hown, hts⟩ (c_M_in l p0 2 4 (by omega) (by omega) (by omega)) (va_cwS 3 hts gX4_mayFirst_X4_in rfl rfl rfl (by decide +kernel) ⟨(Nat.le_of_ble_eq_true rfl), (Nat.le_of_ble_eq_true rfl)⟩) rfl hl.1 rfl (Nat.le_of_ble_eq_true rfl) dX4_mayFirst_55 ⟨Nat.zero_le _, Nat.zero_le _⟩ (fun r hr1 => ?_)
    rcases hr1 with ⟨rfl, c_5⟩ | ⟨rfl, c_5⟩
    · refine zr_if_ne (tgt := 67) hx hb dX4_mayFirst_58 (by decide) (by omega) (fun c_6 => ?_) (fun c => absurd c (by decide))
      refine zr_iconst hx hb dX4_mayFirst_67 ?_
      refine lv_goto (tgt := 72) hx hb dX4_mayFirst_68 (by decide) ?_
      exact W.zret (v := zi_n 1) (ty := .boolean) hx hb hr zl_b1 (fun t ht hW => ⟨_, rfl, zl_t (by unfold zh_mm1; omega), ht⟩) (fun q hq => nomatch hq) dX4_mayFirst_72
    · refine zr_if_ne (tgt := 67) hx hb dX4_mayFirst_58 (by decide) (by omega) (fun c => absurd c (by decide)) (fun c_7 => ?_)
      refine lv_iload_n hx hb dX4_mayFirst_61 rfl (lv_at hl 1 rfl) ?_
      refine zr_bipush hx hb dX4_mayFirst_62 (by decide) ?_
      refine zr_icmp_ne (tgt := 71) hx hb dX4_mayFirst_64 (by decide) (by omega) (by omega) (fun c_8 => ?_) (fun c_8 => ?_)
      · refine zr_iconst hx hb dX4_mayFirst_71 ?_
        exact W.zret (v := zi_n 0) (ty := .boolean) hx hb hr zl_b0 (fun t ht hW => ⟨_, rfl, zl_f (by unfold zh_mm1; omega), ht⟩) (fun q hq => nomatch hq) dX4_mayFirst_72
      · refine zr_iconst hx hb dX4_mayFirst_67 ?_
        refine lv_goto (tgt := 72) hx hb dX4_mayFirst_68 (by decide) ?_
        exact W.zret (v := zi_n 1) (ty := .boolean) hx hb hr zl_b1 (fun t ht hW => ⟨_, rfl, zl_t (by unfold zh_mm1; omega), ht⟩) (fun q hq => nomatch hq) dX4_mayFirst_72
  · skip
    refine zr_tabIn (tgt := 85) hx hb dX4_mayFirst_4 (by decide) (by decide) (by decide) rfl (by decide) ?_
    refine lv_iload_n hx hb dX4_mayFirst_85 rfl (lv_at hl 1 rfl) ?_
    refine zr_if_eq (tgt := 104) hx hb dX4_mayFirst_86 (by decide) (by omega) (fun c_9 => ?_) (fun c_9 => ?_)
    · refine zr_iconst hx hb dX4_mayFirst_104 ?_
      refine lv_goto (tgt := 109) hx hb dX4_mayFirst_105 (by decide) ?_
      exact W.zret (v := zi_n 1) (ty := .boolean) hx hb hr zl_b1 (fun t ht hW => ⟨_, rfl, zl_t (by unfold zh_mm1; omega), ht⟩) (fun q hq => nomatch hq) dX4_mayFirst_109
    · refine lv_iload_n hx hb dX4_mayFirst_89 rfl (lv_at hl 1 rfl) ?_
      refine zr_iconst hx hb dX4_mayFirst_90 ?_
      refine zr_iconst hx hb dX4_mayFirst_91 ?_
      refine zc_S (As := [.int (zi_n p0), .int (zi_n 2), .int (zi_n 4)]) (rest := []) ⟨hx, hb, hml, hown, hts⟩ (c_M_in l p0 2 4 (by omega) (by omega) (by omega)) (va_cwS 3 hts gX4_mayFirst_X4_in rfl rfl rfl (by decide +kernel) ⟨(Nat.le_of_ble_eq_true rfl), (Nat.le_of_ble_eq_true rfl)⟩) rfl hl.1 rfl (Nat.le_of_ble_eq_true rfl) dX4_mayFirst_92 ⟨Nat.zero_le _, Nat.zero_le _⟩ (fun r hr1 => ?_)
      rcases hr1 with ⟨rfl, c_10⟩ | ⟨rfl, c_10⟩
      · refine zr_if_ne (tgt := 104) hx hb dX4_mayFirst_95 (by decide) (by omega) (fun c_11 => ?_) (fun c => absurd c (by decide))
        refine zr_iconst hx hb dX4_mayFirst_104 ?_
        refine lv_goto (tgt := 109) hx hb dX4_mayFirst_105 (by decide) ?_
        exact W.zret (v := zi_n 1) (ty := .boolean) hx hb hr zl_b1 (fun t ht hW => ⟨_, rfl, zl_t (by unfold zh_mm1; omega), ht⟩) (fun q hq => nomatch hq) dX4_mayFirst_109
      · refine zr_if_ne (tgt := 104) hx hb dX4_mayFirst_95 (by decide) (by omega) (fun c => absurd c (by decide)) (fun c_12 => ?_)
        refine lv_iload_n hx hb dX4_mayFirst_98 rfl (lv_at hl 1 rfl) ?_
        refine zr_bipush hx hb dX4_mayFirst_99 (by decide) ?_
        refine zr_icmp_ne (tgt := 108) hx hb dX4_mayFirst_101 (by decide) (by omega) (by omega) (fun c_13 => ?_) (fun c_13 => ?_)
        · refine zr_iconst hx hb dX4_mayFirst_108 ?_
          exact W.zret (v := zi_n 0) (ty := .boolean) hx hb hr zl_b0 (fun t ht hW => ⟨_, rfl, zl_f (by unfold zh_mm1; omega), ht⟩) (fun q hq => nomatch hq) dX4_mayFirst_109
        · refine zr_iconst hx hb dX4_mayFirst_104 ?_
          refine lv_goto (tgt := 109) hx hb dX4_mayFirst_105 (by decide) ?_
          exact W.zret (v := zi_n 1) (ty := .boolean) hx hb hr zl_b1 (fun t ht hW => ⟨_, rfl, zl_t (by unfold zh_mm1; omega), ht⟩) (fun q hq => nomatch hq) dX4_mayFirst_109
  · skip
    refine zr_tabIn (tgt := 73) hx hb dX4_mayFirst_4 (by decide) (by decide) (by decide) rfl (by decide) ?_
    refine lv_iload_n hx hb dX4_mayFirst_73 rfl (lv_at hl 1 rfl) ?_
    refine zr_bipush hx hb dX4_mayFirst_74 (by decide) ?_
    refine zr_icmp_eq (tgt := 83) hx hb dX4_mayFirst_76 (by decide) (by omega) (by omega) (fun c_14 => ?_) (fun c_14 => ?_)
    · refine zr_iconst hx hb dX4_mayFirst_83 ?_
      exact W.zret (v := zi_n 0) (ty := .boolean) hx hb hr zl_b0 (fun t ht hW => ⟨_, rfl, zl_f (by unfold zh_mm1; omega), ht⟩) (fun q hq => nomatch hq) dX4_mayFirst_84
    · refine zr_iconst hx hb dX4_mayFirst_79 ?_
      refine lv_goto (tgt := 84) hx hb dX4_mayFirst_80 (by decide) ?_
      exact W.zret (v := zi_n 1) (ty := .boolean) hx hb hr zl_b1 (fun t ht hW => ⟨_, rfl, zl_t (by unfold zh_mm1; omega), ht⟩) (fun q hq => nomatch hq) dX4_mayFirst_84
  · skip
    refine zr_tabOut (tgt := 85) hx hb dX4_mayFirst_4 (by decide) (by decide) (by decide) ?_
    refine lv_iload_n hx hb dX4_mayFirst_85 rfl (lv_at hl 1 rfl) ?_
    refine zr_if_eq (tgt := 104) hx hb dX4_mayFirst_86 (by decide) (by omega) (fun c_15 => ?_) (fun c_15 => ?_)
    · refine zr_iconst hx hb dX4_mayFirst_104 ?_
      refine lv_goto (tgt := 109) hx hb dX4_mayFirst_105 (by decide) ?_
      exact W.zret (v := zi_n 1) (ty := .boolean) hx hb hr zl_b1 (fun t ht hW => ⟨_, rfl, zl_t (by unfold zh_mm1; omega), ht⟩) (fun q hq => nomatch hq) dX4_mayFirst_109
    · refine lv_iload_n hx hb dX4_mayFirst_89 rfl (lv_at hl 1 rfl) ?_
      refine zr_iconst hx hb dX4_mayFirst_90 ?_
      refine zr_iconst hx hb dX4_mayFirst_91 ?_
      refine zc_S (As := [.int (zi_n p0), .int (zi_n 2), .int (zi_n 4)]) (rest := []) ⟨hx, hb, hml, hown, hts⟩ (c_M_in l p0 2 4 (by omega) (by omega) (by omega)) (va_cwS 3 hts gX4_mayFirst_X4_in rfl rfl rfl (by decide +kernel) ⟨(Nat.le_of_ble_eq_true rfl), (Nat.le_of_ble_eq_true rfl)⟩) rfl hl.1 rfl (Nat.le_of_ble_eq_true rfl) dX4_mayFirst_92 ⟨Nat.zero_le _, Nat.zero_le _⟩ (fun r hr1 => ?_)
      rcases hr1 with ⟨rfl, c_16⟩ | ⟨rfl, c_16⟩
      · refine zr_if_ne (tgt := 104) hx hb dX4_mayFirst_95 (by decide) (by omega) (fun c_17 => ?_) (fun c => absurd c (by decide))
        refine zr_iconst hx hb dX4_mayFirst_104 ?_
        refine lv_goto (tgt := 109) hx hb dX4_mayFirst_105 (by decide) ?_
        exact W.zret (v := zi_n 1) (ty := .boolean) hx hb hr zl_b1 (fun t ht hW => ⟨_, rfl, zl_t (by unfold zh_mm1; omega), ht⟩) (fun q hq => nomatch hq) dX4_mayFirst_109
      · refine zr_if_ne (tgt := 104) hx hb dX4_mayFirst_95 (by decide) (by omega) (fun c => absurd c (by decide)) (fun c_18 => ?_)
        refine lv_iload_n hx hb dX4_mayFirst_98 rfl (lv_at hl 1 rfl) ?_
        refine zr_bipush hx hb dX4_mayFirst_99 (by decide) ?_
        refine zr_icmp_ne (tgt := 108) hx hb dX4_mayFirst_101 (by decide) (by omega) (by omega) (fun c_19 => ?_) (fun c_19 => ?_)
        · refine zr_iconst hx hb dX4_mayFirst_108 ?_
          exact W.zret (v := zi_n 0) (ty := .boolean) hx hb hr zl_b0 (fun t ht hW => ⟨_, rfl, zl_f (by unfold zh_mm1; omega), ht⟩) (fun q hq => nomatch hq) dX4_mayFirst_109
        · refine zr_iconst hx hb dX4_mayFirst_104 ?_
          refine lv_goto (tgt := 109) hx hb dX4_mayFirst_105 (by decide) ?_
          exact W.zret (v := zi_n 1) (ty := .boolean) hx hb hr zl_b1 (fun t ht hW => ⟨_, rfl, zl_t (by unfold zh_mm1; omega), ht⟩) (fun q hq => nomatch hq) dX4_mayFirst_109
  · skip
    refine zr_tabOut (tgt := 85) hx hb dX4_mayFirst_4 (by decide) (by decide) (by decide) ?_
    refine lv_iload_n hx hb dX4_mayFirst_85 rfl (lv_at hl 1 rfl) ?_
    refine zr_if_eq (tgt := 104) hx hb dX4_mayFirst_86 (by decide) (by omega) (fun c_20 => ?_) (fun c_20 => ?_)
    · refine zr_iconst hx hb dX4_mayFirst_104 ?_
      refine lv_goto (tgt := 109) hx hb dX4_mayFirst_105 (by decide) ?_
      exact W.zret (v := zi_n 1) (ty := .boolean) hx hb hr zl_b1 (fun t ht hW => ⟨_, rfl, zl_t (by unfold zh_mm1; omega), ht⟩) (fun q hq => nomatch hq) dX4_mayFirst_109
    · refine lv_iload_n hx hb dX4_mayFirst_89 rfl (lv_at hl 1 rfl) ?_
      refine zr_iconst hx hb dX4_mayFirst_90 ?_
      refine zr_iconst hx hb dX4_mayFirst_91 ?_
      refine zc_S (As := [.int (zi_n p0), .int (zi_n 2), .int (zi_n 4)]) (rest := []) ⟨hx, hb, hml, hown, hts⟩ (c_M_in l p0 2 4 (by omega) (by omega) (by omega)) (va_cwS 3 hts gX4_mayFirst_X4_in rfl rfl rfl (by decide +kernel) ⟨(Nat.le_of_ble_eq_true rfl), (Nat.le_of_ble_eq_true rfl)⟩) rfl hl.1 rfl (Nat.le_of_ble_eq_true rfl) dX4_mayFirst_92 ⟨Nat.zero_le _, Nat.zero_le _⟩ (fun r hr1 => ?_)
      rcases hr1 with ⟨rfl, c_21⟩ | ⟨rfl, c_21⟩
      · refine zr_if_ne (tgt := 104) hx hb dX4_mayFirst_95 (by decide) (by omega) (fun c_22 => ?_) (fun c => absurd c (by decide))
        refine zr_iconst hx hb dX4_mayFirst_104 ?_
        refine lv_goto (tgt := 109) hx hb dX4_mayFirst_105 (by decide) ?_
        exact W.zret (v := zi_n 1) (ty := .boolean) hx hb hr zl_b1 (fun t ht hW => ⟨_, rfl, zl_t (by unfold zh_mm1; omega), ht⟩) (fun q hq => nomatch hq) dX4_mayFirst_109
      · refine zr_if_ne (tgt := 104) hx hb dX4_mayFirst_95 (by decide) (by omega) (fun c => absurd c (by decide)) (fun c_23 => ?_)
        refine lv_iload_n hx hb dX4_mayFirst_98 rfl (lv_at hl 1 rfl) ?_
        refine zr_bipush hx hb dX4_mayFirst_99 (by decide) ?_
        refine zr_icmp_ne (tgt := 108) hx hb dX4_mayFirst_101 (by decide) (by omega) (by omega) (fun c_24 => ?_) (fun c_24 => ?_)
        · refine zr_iconst hx hb dX4_mayFirst_108 ?_
          exact W.zret (v := zi_n 0) (ty := .boolean) hx hb hr zl_b0 (fun t ht hW => ⟨_, rfl, zl_f (by unfold zh_mm1; omega), ht⟩) (fun q hq => nomatch hq) dX4_mayFirst_109
        · refine zr_iconst hx hb dX4_mayFirst_104 ?_
          refine lv_goto (tgt := 109) hx hb dX4_mayFirst_105 (by decide) ?_
          exact W.zret (v := zi_n 1) (ty := .boolean) hx hb hr zl_b1 (fun t ht hW => ⟨_, rfl, zl_t (by unfold zh_mm1; omega), ht⟩) (fun q hq => nomatch hq) dX4_mayFirst_109

theorem in_X4_maySecond_X4 : ∀ w ∈ u_ws RX4 TX4 9, w ∈ wsX4_maySecond := by decide +kernel
set_option maxHeartbeats 4000000 in
set_option maxRecDepth 100000 in
theorem c_M_maySecond (l : Launch) (D : va_G) (x a a2 a3 : Nat) (cA cB cC : ClassId) (F P G : Nat → Int) (n rd br v ln ft : Int) (hF : zi_By F) (hn : 0 ≤ n ∧ n ≤ 600) (hP0 : zi_By P) (hG : zi_By G) (hrd : rd = 0 ∨ rd = 1) (hbr : 0 ≤ br ∧ br ≤ 15) (hv0 : 0 ≤ v ∧ v ≤ 255) (hln : 0 ≤ ln ∧ ln ≤ 524280) (hft : 0 ≤ ft ∧ ft ≤ 1) (p0 : Int) (p1 : Int) (p2 : Int) (hp : 0 ≤ p0 ∧ p0 ≤ 15) (bp1 : p1 = 0 ∨ p1 = 1) (bp2 : p2 = 0 ∨ p2 = 1) : Met l yX4_maySecond wsX4_maySecond ({ frames := 1, cells := 0, slots := 0, locals := 22 }) (va_Pc [.ref x, .int (zi_n p0), .int (zi_n p1), .int (zi_n p2)] (zp_Q D vwCl [(x, .inr (5, [.int (zi_n ft), .ref a, .int (zi_n n), .int (zi_n rd), .int (zi_n br), .ref a2, .ref a3, .int (zi_n v), .int (zi_n ln)])), (a, .inl (cA, 600, .inl (zi_F F))), (a2, .inl (cB, 600, .inl (zi_F P))), (a3, .inl (cC, 600, .inl (zi_F G)))] [(cA, .int), (cB, .int), (cC, .int)])) (vp_Si (fun r => (r = zi_n 1 ∧ (zh_may2 v p0 p1 p2)) ∨ (r = zi_n 0 ∧ ¬ (zh_may2 v p0 p1 p2)))) 0 0 (fun _ => False) := by
  refine Met.ofW (cc := cX4_maySecond) (maxL := 4) (ret := (some .boolean)) (by decide) rfl ?_
  intro p e s m args below meth c s₁ B hml hv
  obtain ⟨rfl, hP, hK⟩ := hv
  have hx := B.exec
  have hb := B.bytes
  have hr := B.returns
  have hts := atoms_spec (ws := wsX4_maySecond) B.pre
  have hown : s.vm.findClass RX4 = some m.cls := findClass_of_methodNamed B.named
  have hlocks := B.notSynchronized
  have hl := lv_entry ([.ref x, .int (zi_n p0), .int (zi_n p1), .int (zi_n p2)]) (n := 4) (Nat.le_of_ble_eq_true rfl)
  rw [lg_entry_eq]
  generalize (lg_sl ([.ref x, .int (zi_n p0), .int (zi_n p1), .int (zi_n p2)]) ++ List.replicate (4 - (lg_sl ([.ref x, .int (zi_n p0), .int (zi_n p1), .int (zi_n p2)])).length) Slot.unset).toArray = ls at hl ⊢
  have hl : lv_has ls 4 [(0, .ref x), (1, .int (zi_n p0)), (2, .int (zi_n p1)), (3, .int (zi_n p2))] := hl
  refine lv_iload_n hx hb dX4_maySecond_0 rfl (lv_at hl 1 rfl) ?_
  refine zr_if_ne (tgt := 6) hx hb dX4_maySecond_1 (by decide) (by omega) (fun c_1 => ?_) (fun c_1 => ?_)
  · refine lv_iload_n hx hb dX4_maySecond_6 rfl (lv_at hl 1 rfl) ?_
    refine zr_iconst hx hb dX4_maySecond_7 ?_
    refine zr_icmp_ne (tgt := 29) hx hb dX4_maySecond_8 (by decide) (by omega) (by omega) (fun c_2 => ?_) (fun c_2 => ?_)
    · refine lv_iload_n hx hb dX4_maySecond_29 rfl (lv_at hl 1 rfl) ?_
      refine zr_iconst hx hb dX4_maySecond_30 ?_
      refine zr_icmp_ne (tgt := 57) hx hb dX4_maySecond_31 (by decide) (by omega) (by omega) (fun c_3 => ?_) (fun c_3 => ?_)
      · refine lv_iload_n hx hb dX4_maySecond_57 rfl (lv_at hl 3 rfl) ?_
        refine zr_if_ne (tgt := 102) hx hb dX4_maySecond_58 (by decide) (by omega) (fun c_4 => ?_) (fun c_4 => ?_)
        · refine zr_iconst hx hb dX4_maySecond_102 ?_
          exact W.zret (v := zi_n 0) (ty := .boolean) hx hb hr zl_b0 (fun t ht hW => ⟨_, rfl, zl_f (by unfold zh_may2; omega), ht⟩) (fun q hq => nomatch hq) dX4_maySecond_103
        · refine lv_iload_n hx hb dX4_maySecond_61 rfl (lv_at hl 2 rfl) ?_
          refine zr_if_ne (tgt := 102) hx hb dX4_maySecond_62 (by decide) (by omega) (fun c_5 => ?_) (fun c_5 => ?_)
          · refine zr_iconst hx hb dX4_maySecond_102 ?_
            exact W.zret (v := zi_n 0) (ty := .boolean) hx hb hr zl_b0 (fun t ht hW => ⟨_, rfl, zl_f (by unfold zh_may2; omega), ht⟩) (fun q hq => nomatch hq) dX4_maySecond_103
          · refine lv_iload_n hx hb dX4_maySecond_65 rfl (lv_at hl 1 rfl) ?_
            refine zr_iconst hx hb dX4_maySecond_66 ?_
            refine zr_bipush hx hb dX4_maySecond_67 (by decide) ?_
            refine zc_S (As := [.int (zi_n p0), .int (zi_n 3), .int (zi_n 7)]) (rest := []) ⟨hx, hb, hml, hown, hts⟩ (c_M_in l p0 3 7 (by omega) (by omega) (by omega)) (va_cwS 3 hts gX4_maySecond_X4_in rfl rfl rfl (by decide +kernel) ⟨(Nat.le_of_ble_eq_true rfl), (Nat.le_of_ble_eq_true rfl)⟩) rfl hl.1 rfl (Nat.le_of_ble_eq_true rfl) dX4_maySecond_69 ⟨Nat.zero_le _, Nat.zero_le _⟩ (fun r hr1 => ?_)
            rcases hr1 with ⟨rfl, c_6⟩ | ⟨rfl, c_6⟩
            · refine zr_if_eq (tgt := 83) hx hb dX4_maySecond_72 (by decide) (by omega) (fun c => absurd c (by decide)) (fun c_7 => ?_)
              refine lv_aload_n hx hb dX4_maySecond_75 rfl (lv_at hl 0 rfl) ?_
              refine va_get (D := D) (ci := 5) (v := .int (zi_n v)) (C := RX4) (T := TX4) (N := 9) hx hb hts in_X4_maySecond_X4 hown hK hP 0 rfl rfl 7 (by decide) (hts (.fieldLink RX4 51 "ZHeadsModel" "version" "I") (by decide +kernel)) (fun _ h9 => h9) rfl dX4_maySecond_76 ?_
              refine zr_iconst hx hb dX4_maySecond_79 ?_
              refine zr_icmp_gt (tgt := 98) hx hb dX4_maySecond_80 (by decide) (by omega) (by omega) (fun c_8 => ?_) (fun c_8 => ?_)
              · refine zr_iconst hx hb dX4_maySecond_98 ?_
                refine lv_goto (tgt := 103) hx hb dX4_maySecond_99 (by decide) ?_
                exact W.zret (v := zi_n 1) (ty := .boolean) hx hb hr zl_b1 (fun t ht hW => ⟨_, rfl, zl_t (by unfold zh_may2; omega), ht⟩) (fun q hq => nomatch hq) dX4_maySecond_103
              · refine lv_iload_n hx hb dX4_maySecond_83 rfl (lv_at hl 1 rfl) ?_
                refine zr_bipush hx hb dX4_maySecond_84 (by decide) ?_
                refine zr_icmp_ne (tgt := 102) hx hb dX4_maySecond_86 (by decide) (by omega) (by omega) (fun c_9 => ?_) (fun c_9 => ?_)
                · refine zr_iconst hx hb dX4_maySecond_102 ?_
                  exact W.zret (v := zi_n 0) (ty := .boolean) hx hb hr zl_b0 (fun t ht hW => ⟨_, rfl, zl_f (by unfold zh_may2; omega), ht⟩) (fun q hq => nomatch hq) dX4_maySecond_103
                · refine lv_aload_n hx hb dX4_maySecond_89 rfl (lv_at hl 0 rfl) ?_
                  refine va_get (D := D) (ci := 5) (v := .int (zi_n v)) (C := RX4) (T := TX4) (N := 9) hx hb hts in_X4_maySecond_X4 hown hK hP 0 rfl rfl 7 (by decide) (hts (.fieldLink RX4 51 "ZHeadsModel" "version" "I") (by decide +kernel)) (fun _ h9 => h9) rfl dX4_maySecond_90 ?_
                  refine zr_bipush hx hb dX4_maySecond_93 (by decide) ?_
                  refine zr_icmp_ne (tgt := 102) hx hb dX4_maySecond_95 (by decide) (by omega) (by omega) (fun c_10 => ?_) (fun c_10 => ?_)
                  · refine zr_iconst hx hb dX4_maySecond_102 ?_
                    exact W.zret (v := zi_n 0) (ty := .boolean) hx hb hr zl_b0 (fun t ht hW => ⟨_, rfl, zl_f (by unfold zh_may2; omega), ht⟩) (fun q hq => nomatch hq) dX4_maySecond_103
                  · refine zr_iconst hx hb dX4_maySecond_98 ?_
                    refine lv_goto (tgt := 103) hx hb dX4_maySecond_99 (by decide) ?_
                    exact W.zret (v := zi_n 1) (ty := .boolean) hx hb hr zl_b1 (fun t ht hW => ⟨_, rfl, zl_t (by unfold zh_may2; omega), ht⟩) (fun q hq => nomatch hq) dX4_maySecond_103
            · refine zr_if_eq (tgt := 83) hx hb dX4_maySecond_72 (by decide) (by omega) (fun c_11 => ?_) (fun c => absurd c (by decide))
              refine lv_iload_n hx hb dX4_maySecond_83 rfl (lv_at hl 1 rfl) ?_
              refine zr_bipush hx hb dX4_maySecond_84 (by decide) ?_
              refine zr_icmp_ne (tgt := 102) hx hb dX4_maySecond_86 (by decide) (by omega) (by omega) (fun c_12 => ?_) (fun c_12 => ?_)
              · refine zr_iconst hx hb dX4_maySecond_102 ?_
                exact W.zret (v := zi_n 0) (ty := .boolean) hx hb hr zl_b0 (fun t ht hW => ⟨_, rfl, zl_f (by unfold zh_may2; omega), ht⟩) (fun q hq => nomatch hq) dX4_maySecond_103
              · refine lv_aload_n hx hb dX4_maySecond_89 rfl (lv_at hl 0 rfl) ?_
                refine va_get (D := D) (ci := 5) (v := .int (zi_n v)) (C := RX4) (T := TX4) (N := 9) hx hb hts in_X4_maySecond_X4 hown hK hP 0 rfl rfl 7 (by decide) (hts (.fieldLink RX4 51 "ZHeadsModel" "version" "I") (by decide +kernel)) (fun _ h9 => h9) rfl dX4_maySecond_90 ?_
                refine zr_bipush hx hb dX4_maySecond_93 (by decide) ?_
                refine zr_icmp_ne (tgt := 102) hx hb dX4_maySecond_95 (by decide) (by omega) (by omega) (fun c_13 => ?_) (fun c_13 => ?_)
                · refine zr_iconst hx hb dX4_maySecond_102 ?_
                  exact W.zret (v := zi_n 0) (ty := .boolean) hx hb hr zl_b0 (fun t ht hW => ⟨_, rfl, zl_f (by unfold zh_may2; omega), ht⟩) (fun q hq => nomatch hq) dX4_maySecond_103
                · refine zr_iconst hx hb dX4_maySecond_98 ?_
                  refine lv_goto (tgt := 103) hx hb dX4_maySecond_99 (by decide) ?_
                  exact W.zret (v := zi_n 1) (ty := .boolean) hx hb hr zl_b1 (fun t ht hW => ⟨_, rfl, zl_t (by unfold zh_may2; omega), ht⟩) (fun q hq => nomatch hq) dX4_maySecond_103
      · refine lv_aload_n hx hb dX4_maySecond_34 rfl (lv_at hl 0 rfl) ?_
        refine va_get (D := D) (ci := 5) (v := .int (zi_n v)) (C := RX4) (T := TX4) (N := 9) hx hb hts in_X4_maySecond_X4 hown hK hP 0 rfl rfl 7 (by decide) (hts (.fieldLink RX4 51 "ZHeadsModel" "version" "I") (by decide +kernel)) (fun _ h9 => h9) rfl dX4_maySecond_35 ?_
        refine zr_bipush hx hb dX4_maySecond_38 (by decide) ?_
        refine zr_icmp_ne (tgt := 55) hx hb dX4_maySecond_40 (by decide) (by omega) (by omega) (fun c_14 => ?_) (fun c_14 => ?_)
        · refine zr_iconst hx hb dX4_maySecond_55 ?_
          exact W.zret (v := zi_n 0) (ty := .boolean) hx hb hr zl_b0 (fun t ht hW => ⟨_, rfl, zl_f (by unfold zh_may2; omega), ht⟩) (fun q hq => nomatch hq) dX4_maySecond_56
        · refine lv_iload_n hx hb dX4_maySecond_43 rfl (lv_at hl 3 rfl) ?_
          refine zr_if_eq (tgt := 51) hx hb dX4_maySecond_44 (by decide) (by omega) (fun c_15 => ?_) (fun c_15 => ?_)
          · refine zr_iconst hx hb dX4_maySecond_51 ?_
            refine lv_goto (tgt := 56) hx hb dX4_maySecond_52 (by decide) ?_
            exact W.zret (v := zi_n 1) (ty := .boolean) hx hb hr zl_b1 (fun t ht hW => ⟨_, rfl, zl_t (by unfold zh_may2; omega), ht⟩) (fun q hq => nomatch hq) dX4_maySecond_56
          · refine lv_iload_n hx hb dX4_maySecond_47 rfl (lv_at hl 2 rfl) ?_
            refine zr_if_ne (tgt := 55) hx hb dX4_maySecond_48 (by decide) (by omega) (fun c_16 => ?_) (fun c_16 => ?_)
            · refine zr_iconst hx hb dX4_maySecond_55 ?_
              exact W.zret (v := zi_n 0) (ty := .boolean) hx hb hr zl_b0 (fun t ht hW => ⟨_, rfl, zl_f (by unfold zh_may2; omega), ht⟩) (fun q hq => nomatch hq) dX4_maySecond_56
            · refine zr_iconst hx hb dX4_maySecond_51 ?_
              refine lv_goto (tgt := 56) hx hb dX4_maySecond_52 (by decide) ?_
              exact W.zret (v := zi_n 1) (ty := .boolean) hx hb hr zl_b1 (fun t ht hW => ⟨_, rfl, zl_t (by unfold zh_may2; omega), ht⟩) (fun q hq => nomatch hq) dX4_maySecond_56
    · refine lv_iload_n hx hb dX4_maySecond_11 rfl (lv_at hl 3 rfl) ?_
      refine zr_if_eq (tgt := 27) hx hb dX4_maySecond_12 (by decide) (by omega) (fun c_17 => ?_) (fun c_17 => ?_)
      · refine zr_iconst hx hb dX4_maySecond_27 ?_
        exact W.zret (v := zi_n 0) (ty := .boolean) hx hb hr zl_b0 (fun t ht hW => ⟨_, rfl, zl_f (by unfold zh_may2; omega), ht⟩) (fun q hq => nomatch hq) dX4_maySecond_28
      · refine lv_aload_n hx hb dX4_maySecond_15 rfl (lv_at hl 0 rfl) ?_
        refine va_get (D := D) (ci := 5) (v := .int (zi_n v)) (C := RX4) (T := TX4) (N := 9) hx hb hts in_X4_maySecond_X4 hown hK hP 0 rfl rfl 7 (by decide) (hts (.fieldLink RX4 51 "ZHeadsModel" "version" "I") (by decide +kernel)) (fun _ h9 => h9) rfl dX4_maySecond_16 ?_
        refine zr_iconst hx hb dX4_maySecond_19 ?_
        refine zr_icmp_le (tgt := 27) hx hb dX4_maySecond_20 (by decide) (by omega) (by omega) (fun c_18 => ?_) (fun c_18 => ?_)
        · refine zr_iconst hx hb dX4_maySecond_27 ?_
          exact W.zret (v := zi_n 0) (ty := .boolean) hx hb hr zl_b0 (fun t ht hW => ⟨_, rfl, zl_f (by unfold zh_may2; omega), ht⟩) (fun q hq => nomatch hq) dX4_maySecond_28
        · refine zr_iconst hx hb dX4_maySecond_23 ?_
          refine lv_goto (tgt := 28) hx hb dX4_maySecond_24 (by decide) ?_
          exact W.zret (v := zi_n 1) (ty := .boolean) hx hb hr zl_b1 (fun t ht hW => ⟨_, rfl, zl_t (by unfold zh_may2; omega), ht⟩) (fun q hq => nomatch hq) dX4_maySecond_28
  · refine zr_iconst hx hb dX4_maySecond_4 ?_
    exact W.zret (v := zi_n 1) (ty := .boolean) hx hb hr zl_b1 (fun t ht hW => ⟨_, rfl, zl_t (by unfold zh_may2; omega), ht⟩) (fun q hq => nomatch hq) dX4_maySecond_5

theorem in_X4_placeSet_X4 : ∀ w ∈ u_ws RX4 TX4 9, w ∈ wsX4_placeSet := by decide +kernel
set_option maxHeartbeats 4000000 in
set_option maxRecDepth 100000 in
theorem c_M_placeSet (l : Launch) (D : va_G) (x a a2 a3 : Nat) (cA cB cC : ClassId) (F P G : Nat → Int) (n rd br v ln ft : Int) (hF : zi_By F) (hn : 0 ≤ n ∧ n ≤ 600) (hP0 : zi_By P) (hG : zi_By G) (hrd : rd = 0 ∨ rd = 1) (hbr : 0 ≤ br ∧ br ≤ 15) (hv0 : 0 ≤ v ∧ v ≤ 255) (hln : 0 ≤ ln ∧ ln ≤ 524280) (hft : 0 ≤ ft ∧ ft ≤ 1) (p0 : Int) (hp : 0 ≤ p0 ∧ p0 ≤ 10) : Met l yX4_placeSet wsX4_placeSet ({ frames := 0, cells := 0, slots := 0, locals := 0 }) (va_Pc [.ref x, .int (zi_n p0)] (zp_Q D vwCl [(x, .inr (5, [.int (zi_n ft), .ref a, .int (zi_n n), .int (zi_n rd), .int (zi_n br), .ref a2, .ref a3, .int (zi_n v), .int (zi_n ln)])), (a, .inl (cA, 600, .inl (zi_F F))), (a2, .inl (cB, 600, .inl (zi_F P))), (a3, .inl (cC, 600, .inl (zi_F G)))] [(cA, .int), (cB, .int), (cC, .int)])) (vp_Si (fun r => r = zi_n (zh_sp p0 v) ∧ 30 ≤ (zh_sp p0 v) ∧ (zh_sp p0 v) ≤ 50)) 0 0 (fun _ => False) := by
  refine Met.ofW (cc := cX4_placeSet) (maxL := 2) (ret := (some .int)) (by decide) rfl ?_
  intro p e s m args below meth c s₁ B hml hv
  obtain ⟨rfl, hP, hK⟩ := hv
  have hx := B.exec
  have hb := B.bytes
  have hr := B.returns
  have hts := atoms_spec (ws := wsX4_placeSet) B.pre
  have hown : s.vm.findClass RX4 = some m.cls := findClass_of_methodNamed B.named
  have hlocks := B.notSynchronized
  have hl := lv_entry ([.ref x, .int (zi_n p0)]) (n := 2) (Nat.le_of_ble_eq_true rfl)
  rw [lg_entry_eq]
  generalize (lg_sl ([.ref x, .int (zi_n p0)]) ++ List.replicate (2 - (lg_sl ([.ref x, .int (zi_n p0)])).length) Slot.unset).toArray = ls at hl ⊢
  have hl : lv_has ls 2 [(0, .ref x), (1, .int (zi_n p0))] := hl
  refine lv_iload_n hx hb dX4_placeSet_0 rfl (lv_at hl 1 rfl) ?_
  rcases (show p0 = 0 ∨ p0 = 1 ∨ p0 = 2 ∨ p0 = 3 ∨ p0 = 4 ∨ p0 = 5 ∨ p0 = 6 ∨ p0 = 7 ∨ p0 = 8 ∨ p0 = 9 ∨ p0 = 10 by omega) with rfl | rfl | rfl | rfl | rfl | rfl | rfl | rfl | rfl | rfl | rfl
  · skip
    refine zr_tabOut (tgt := 91) hx hb dX4_placeSet_1 (by decide) (by decide) (by decide) ?_
    refine zr_bipush hx hb dX4_placeSet_91 (by decide) ?_
    refine lv_iload_n hx hb dX4_placeSet_93 rfl (lv_at hl 1 rfl) ?_
    refine zr_iadd hx hb dX4_placeSet_94 ?_
    exact W.iret (v := zi_n 30) hx hb hr (fun t ht hW => ⟨_, rfl, zl_r (by unfold zh_sp; (repeat' split) <;> omega) (by omega), ht⟩) (fun q hq => nomatch hq) dX4_placeSet_95
  · skip
    refine zr_tabOut (tgt := 91) hx hb dX4_placeSet_1 (by decide) (by decide) (by decide) ?_
    refine zr_bipush hx hb dX4_placeSet_91 (by decide) ?_
    refine lv_iload_n hx hb dX4_placeSet_93 rfl (lv_at hl 1 rfl) ?_
    refine zr_iadd hx hb dX4_placeSet_94 ?_
    exact W.iret (v := zi_n 31) hx hb hr (fun t ht hW => ⟨_, rfl, zl_r (by unfold zh_sp; (repeat' split) <;> omega) (by omega), ht⟩) (fun q hq => nomatch hq) dX4_placeSet_95
  · skip
    refine zr_tabOut (tgt := 91) hx hb dX4_placeSet_1 (by decide) (by decide) (by decide) ?_
    refine zr_bipush hx hb dX4_placeSet_91 (by decide) ?_
    refine lv_iload_n hx hb dX4_placeSet_93 rfl (lv_at hl 1 rfl) ?_
    refine zr_iadd hx hb dX4_placeSet_94 ?_
    exact W.iret (v := zi_n 32) hx hb hr (fun t ht hW => ⟨_, rfl, zl_r (by unfold zh_sp; (repeat' split) <;> omega) (by omega), ht⟩) (fun q hq => nomatch hq) dX4_placeSet_95
  · skip
    refine zr_tabOut (tgt := 91) hx hb dX4_placeSet_1 (by decide) (by decide) (by decide) ?_
    refine zr_bipush hx hb dX4_placeSet_91 (by decide) ?_
    refine lv_iload_n hx hb dX4_placeSet_93 rfl (lv_at hl 1 rfl) ?_
    refine zr_iadd hx hb dX4_placeSet_94 ?_
    exact W.iret (v := zi_n 33) hx hb hr (fun t ht hW => ⟨_, rfl, zl_r (by unfold zh_sp; (repeat' split) <;> omega) (by omega), ht⟩) (fun q hq => nomatch hq) dX4_placeSet_95
  · skip
    refine zr_tabIn (tgt := 44) hx hb dX4_placeSet_1 (by decide) (by decide) (by decide) rfl (by decide) ?_
    refine zr_bipush hx hb dX4_placeSet_44 (by decide) ?_
    exact W.iret (v := zi_n 34) hx hb hr (fun t ht hW => ⟨_, rfl, zl_r (by unfold zh_sp; (repeat' split) <;> omega) (by omega), ht⟩) (fun q hq => nomatch hq) dX4_placeSet_46
  · skip
    refine zr_tabIn (tgt := 47) hx hb dX4_placeSet_1 (by decide) (by decide) (by decide) rfl (by decide) ?_
    refine zr_bipush hx hb dX4_placeSet_47 (by decide) ?_
    exact W.iret (v := zi_n 36) hx hb hr (fun t ht hW => ⟨_, rfl, zl_r (by unfold zh_sp; (repeat' split) <;> omega) (by omega), ht⟩) (fun q hq => nomatch hq) dX4_placeSet_49
  · skip
    refine zr_tabIn (tgt := 50) hx hb dX4_placeSet_1 (by decide) (by decide) (by decide) rfl (by decide) ?_
    refine lv_aload_n hx hb dX4_placeSet_50 rfl (lv_at hl 0 rfl) ?_
    refine va_get (D := D) (ci := 5) (v := .int (zi_n v)) (C := RX4) (T := TX4) (N := 9) hx hb hts in_X4_placeSet_X4 hown hK hP 0 rfl rfl 7 (by decide) (hts (.fieldLink RX4 51 "ZHeadsModel" "version" "I") (by decide +kernel)) (fun _ h9 => h9) rfl dX4_placeSet_51 ?_
    refine zr_iconst hx hb dX4_placeSet_54 ?_
    refine zr_icmp_ne (tgt := 63) hx hb dX4_placeSet_55 (by decide) (by omega) (by omega) (fun c_2 => ?_) (fun c_2 => ?_)
    · refine zr_bipush hx hb dX4_placeSet_63 (by decide) ?_
      exact W.iret (v := zi_n 39) hx hb hr (fun t ht hW => ⟨_, rfl, zl_r (by unfold zh_sp; (repeat' split) <;> omega) (by omega), ht⟩) (fun q hq => nomatch hq) dX4_placeSet_65
    · refine zr_bipush hx hb dX4_placeSet_58 (by decide) ?_
      refine lv_goto (tgt := 65) hx hb dX4_placeSet_60 (by decide) ?_
      exact W.iret (v := zi_n 38) hx hb hr (fun t ht hW => ⟨_, rfl, zl_r (by unfold zh_sp; (repeat' split) <;> omega) (by omega), ht⟩) (fun q hq => nomatch hq) dX4_placeSet_65
  · skip
    refine zr_tabIn (tgt := 66) hx hb dX4_placeSet_1 (by decide) (by decide) (by decide) rfl (by decide) ?_
    refine lv_aload_n hx hb dX4_placeSet_66 rfl (lv_at hl 0 rfl) ?_
    refine va_get (D := D) (ci := 5) (v := .int (zi_n v)) (C := RX4) (T := TX4) (N := 9) hx hb hts in_X4_placeSet_X4 hown hK hP 0 rfl rfl 7 (by decide) (hts (.fieldLink RX4 51 "ZHeadsModel" "version" "I") (by decide +kernel)) (fun _ h9 => h9) rfl dX4_placeSet_67 ?_
    refine zr_iconst hx hb dX4_placeSet_70 ?_
    refine zr_icmp_ne (tgt := 79) hx hb dX4_placeSet_71 (by decide) (by omega) (by omega) (fun c_3 => ?_) (fun c_3 => ?_)
    · refine zr_bipush hx hb dX4_placeSet_79 (by decide) ?_
      exact W.iret (v := zi_n 38) hx hb hr (fun t ht hW => ⟨_, rfl, zl_r (by unfold zh_sp; (repeat' split) <;> omega) (by omega), ht⟩) (fun q hq => nomatch hq) dX4_placeSet_81
    · refine zr_bipush hx hb dX4_placeSet_74 (by decide) ?_
      refine lv_goto (tgt := 81) hx hb dX4_placeSet_76 (by decide) ?_
      exact W.iret (v := zi_n 39) hx hb hr (fun t ht hW => ⟨_, rfl, zl_r (by unfold zh_sp; (repeat' split) <;> omega) (by omega), ht⟩) (fun q hq => nomatch hq) dX4_placeSet_81
  · skip
    refine zr_tabIn (tgt := 82) hx hb dX4_placeSet_1 (by decide) (by decide) (by decide) rfl (by decide) ?_
    refine zr_bipush hx hb dX4_placeSet_82 (by decide) ?_
    exact W.iret (v := zi_n 44) hx hb hr (fun t ht hW => ⟨_, rfl, zl_r (by unfold zh_sp; (repeat' split) <;> omega) (by omega), ht⟩) (fun q hq => nomatch hq) dX4_placeSet_84
  · skip
    refine zr_tabIn (tgt := 85) hx hb dX4_placeSet_1 (by decide) (by decide) (by decide) rfl (by decide) ?_
    refine zr_bipush hx hb dX4_placeSet_85 (by decide) ?_
    exact W.iret (v := zi_n 45) hx hb hr (fun t ht hW => ⟨_, rfl, zl_r (by unfold zh_sp; (repeat' split) <;> omega) (by omega), ht⟩) (fun q hq => nomatch hq) dX4_placeSet_87
  · skip
    refine zr_tabIn (tgt := 88) hx hb dX4_placeSet_1 (by decide) (by decide) (by decide) rfl (by decide) ?_
    refine zr_bipush hx hb dX4_placeSet_88 (by decide) ?_
    exact W.iret (v := zi_n 50) hx hb hr (fun t ht hW => ⟨_, rfl, zl_r (by unfold zh_sp; (repeat' split) <;> omega) (by omega), ht⟩) (fun q hq => nomatch hq) dX4_placeSet_90

theorem in_X4_flag_X4 : ∀ w ∈ u_ws RX4 TX4 9, w ∈ wsX4_flag := by decide +kernel
set_option maxHeartbeats 4000000 in
set_option maxRecDepth 100000 in
theorem c_M_flag (l : Launch) (D : va_G) (x a a2 a3 : Nat) (cA cB cC : ClassId) (F P G : Nat → Int) (n rd br v ln ft : Int) (hF : zi_By F) (hn : 0 ≤ n ∧ n ≤ 600) (hP0 : zi_By P) (hG : zi_By G) (hrd : rd = 0 ∨ rd = 1) (hbr : 0 ≤ br ∧ br ≤ 15) (hv0 : 0 ≤ v ∧ v ≤ 255) (hln : 0 ≤ ln ∧ ln ≤ 524280) (hft : 0 ≤ ft ∧ ft ≤ 1) (sz : Nat) (p0 : Int) (p1 : Int) (p2 : Int) (p3 : Int) (hR : rd = 1 → 64 ≤ n ∧ v = F 0 ∧ ln = zh_len F n ∧ (1 ≤ F 0 ∧ F 0 ≤ 8) ∧ (64 ≤ ln ∧ ln ≤ n) ∧ (64 ≤ zh_t F 14 ∧ zh_t F 14 ≤ ln) ∧ (64 ≤ zh_t F 12 ∧ zh_t F 12 + 480 ≤ zh_t F 14) ∧ (64 ≤ zh_t F 8 ∧ zh_t F 8 + F (zh_t F 8).toNat + 3 < n)) (rp0 : zi_R p0) (rp1 : zi_R p1) (bp2 : p2 = 0 ∨ p2 = 1) (bp3 : p3 = 0 ∨ p3 = 1) : Met l yX4_flag wsX4_flag ({ frames := 3, cells := 0, slots := 0, locals := 65 }) (va_Pc [.ref x, .int (zi_n p0), .int (zi_n p1), .int (zi_n p2), .int (zi_n p3)] (zp_P D vwCl sz [(x, .inr (5, [.int (zi_n ft), .ref a, .int (zi_n n), .int (zi_n rd), .int (zi_n br), .ref a2, .ref a3, .int (zi_n v), .int (zi_n ln)])), (a, .inl (cA, 600, .inl (zi_F F))), (a2, .inl (cB, 600, .inl (zi_F P))), (a3, .inl (cC, 600, .inl (zi_F G)))] [(cA, .int), (cB, .int), (cC, .int)])) (va_Qi (fun (r : Int32) (_ : Unit) => r = zi_n (zh_qfl G rd v p0 p1 p2 p3) ∧ -13 ≤ (zh_qfl G rd v p0 p1 p2 p3) ∧ (zh_qfl G rd v p0 p1 p2 p3) ≤ 1) (fun (_ : Unit) => zp_B D vwCl [(cA, .int), (cB, .int), (cC, .int)] (va_A [(x, .inr (5, [.int (zi_n ft), .ref a, .int (zi_n n), .int (zi_n rd), .int (zi_n br), .ref a2, .ref a3, .int (zi_n v), .int (zi_n ln)])), (a, .inl (cA, 600, .inl (zi_F F))), (a2, .inl (cB, 600, .inl (zi_F P))), (a3, .inl (cC, 600, .inl (zi_F G)))] sz) [(x, .inr (5, [.int (zi_n 0), .ref a, .int (zi_n n), .int (zi_n rd), .int (zi_n br), .ref a2, .ref a3, .int (zi_n v), .int (zi_n ln)])), (a, .inl (cA, 600, .inl (zi_F F))), (a2, .inl (cB, 600, .inl (zi_F P))), (a3, .inl (cC, 600, .inl (zi_F (zh_qflG G rd v p0 p1 p2 p3))))]) (va_A [(x, .inr (5, [.int (zi_n ft), .ref a, .int (zi_n n), .int (zi_n rd), .int (zi_n br), .ref a2, .ref a3, .int (zi_n v), .int (zi_n ln)])), (a, .inl (cA, 600, .inl (zi_F F))), (a2, .inl (cB, 600, .inl (zi_F P))), (a3, .inl (cC, 600, .inl (zi_F G)))] sz)) 0 0 (va_A [(x, .inr (5, [.int (zi_n ft), .ref a, .int (zi_n n), .int (zi_n rd), .int (zi_n br), .ref a2, .ref a3, .int (zi_n v), .int (zi_n ln)])), (a, .inl (cA, 600, .inl (zi_F F))), (a2, .inl (cB, 600, .inl (zi_F P))), (a3, .inl (cC, 600, .inl (zi_F G)))] sz) := by
  refine Met.ofW (cc := cX4_flag) (maxL := 8) (ret := (some .int)) (by decide) rfl ?_
  intro p e s m args below meth c s₁ B hml hv
  obtain ⟨rfl, hsz, hP, hK, hD0⟩ := hv
  have hx := B.exec
  have hb := B.bytes
  have hr := B.returns
  have hts := atoms_spec (ws := wsX4_flag) B.pre
  have hown : s.vm.findClass RX4 = some m.cls := findClass_of_methodNamed B.named
  have hlocks := B.notSynchronized
  subst hsz
  have hD := hD0.self (sz := s.heap.size)
  generalize hAe : va_A [(x, .inr (5, [.int (zi_n ft), .ref a, .int (zi_n n), .int (zi_n rd), .int (zi_n br), .ref a2, .ref a3, .int (zi_n v), .int (zi_n ln)])), (a, .inl (cA, 600, .inl (zi_F F))), (a2, .inl (cB, 600, .inl (zi_F P))), (a3, .inl (cC, 600, .inl (zi_F G)))] s.heap.size = A at hD ⊢
  have hA : ∀ q : Nat, s.heap.size ≤ q → A q := fun q h => by rw [← hAe]; exact Or.inr h
  have hS : va_S A s.heap s.heap [] := va_S.rf
  have hP : va_P D vwCl [(x, .inr (5, [.int (zi_n ft), .ref a, .int (zi_n n), .int (zi_n rd), .int (zi_n br), .ref a2, .ref a3, .int (zi_n v), .int (zi_n ln)])), (a, .inl (cA, 600, .inl (zi_F F))), (a2, .inl (cB, 600, .inl (zi_F P))), (a3, .inl (cC, 600, .inl (zi_F G)))] s.heap := hP
  have hl := lv_entry ([.ref x, .int (zi_n p0), .int (zi_n p1), .int (zi_n p2), .int (zi_n p3)]) (n := 8) (Nat.le_of_ble_eq_true rfl)
  rw [lg_entry_eq]
  generalize (lg_sl ([.ref x, .int (zi_n p0), .int (zi_n p1), .int (zi_n p2), .int (zi_n p3)]) ++ List.replicate (8 - (lg_sl ([.ref x, .int (zi_n p0), .int (zi_n p1), .int (zi_n p2), .int (zi_n p3)])).length) Slot.unset).toArray = ls at hl ⊢
  have hl : lv_has ls 8 [(0, .ref x), (1, .int (zi_n p0)), (2, .int (zi_n p1)), (3, .int (zi_n p2)), (4, .int (zi_n p3))] := hl
  refine lv_aload_n hx hb dX4_flag_0 rfl (lv_at hl 0 rfl) ?_
  refine zr_iconst hx hb dX4_flag_1 ?_
  refine va_put (D := D) (ci := 5) (v := .int (zi_n 0)) (ty := .int) (C := RX4) (T := TX4) (N := 9) hx hb hts in_X4_flag_X4 tyX4 tyX4_ok nmX4 hown hK hP hD hS 0 rfl rfl 0 (by decide) (hts (.fieldLink RX4 19 "ZHeadsModel" "fault" "I") (by decide +kernel)) (fun _ h9 => h9) rfl (by decide +kernel) rfl rfl (Nat.le_of_ble_eq_true rfl) dX4_flag_2 (fun H locs hP hD hS => ?_)
  have hP : va_P D vwCl [(x, .inr (5, [.int (zi_n 0), .ref a, .int (zi_n n), .int (zi_n rd), .int (zi_n br), .ref a2, .ref a3, .int (zi_n v), .int (zi_n ln)])), (a, .inl (cA, 600, .inl (zi_F F))), (a2, .inl (cB, 600, .inl (zi_F P))), (a3, .inl (cC, 600, .inl (zi_F G)))] H := hP
  have hD : va_D A [(x, .inr (5, [.int (zi_n 0), .ref a, .int (zi_n n), .int (zi_n rd), .int (zi_n br), .ref a2, .ref a3, .int (zi_n v), .int (zi_n ln)])), (a, .inl (cA, 600, .inl (zi_F F))), (a2, .inl (cB, 600, .inl (zi_F P))), (a3, .inl (cC, 600, .inl (zi_F G)))] := hD
  refine lv_aload_n hx hb dX4_flag_5 rfl (lv_at hl 0 rfl) ?_
  refine va_get (D := D) (ci := 5) (v := .int (zi_n rd)) (C := RX4) (T := TX4) (N := 9) hx hb hts in_X4_flag_X4 hown hK hP 0 rfl rfl 3 (by decide) (hts (.fieldLink RX4 36 "ZHeadsModel" "isRead" "Z") (by decide +kernel)) (fun _ h9 => h9) rfl dX4_flag_6 ?_
  refine zr_if_ne (tgt := 15) hx hb dX4_flag_9 (by decide) (by omega) (fun c_1 => ?_) (fun c_1 => ?_)
  · have hR1 := hR (by omega)
    refine lv_iload_n hx hb dX4_flag_15 rfl (lv_at hl 1 rfl) ?_
    refine lv_iload_n hx hb dX4_flag_16 rfl (lv_at hl 2 rfl) ?_
    refine zc_S (As := [.int (zi_n p0), .int (zi_n p1)]) (rest := []) ⟨hx, hb, hml, hown, hts⟩ (c_M_isFlag l p0 p1 (by omega) (by omega)) (va_cwS 2 hts gX4_flag_X4_isFlag rfl rfl rfl (by decide +kernel) ⟨(Nat.le_of_ble_eq_true rfl), (Nat.le_of_ble_eq_true rfl)⟩) rfl hl.1 rfl (Nat.le_of_ble_eq_true rfl) dX4_flag_17 ⟨Nat.zero_le _, Nat.zero_le _⟩ (fun r hr1 => ?_)
    rcases hr1 with ⟨rfl, c_2⟩ | ⟨rfl, c_2⟩
    · unfold zh_isF at c_2
      refine zr_if_ne (tgt := 26) hx hb dX4_flag_20 (by decide) (by omega) (fun c_3 => ?_) (fun c => absurd c (by decide))
      have hif : zh_isF p0 p1 := by unfold zh_isF; omega
      have hc9 : 0 ≤ p1 ∧ p1 ≤ 15 := by omega
      refine lv_iload_n hx hb dX4_flag_26 rfl (lv_at hl 1 rfl) ?_
      refine zr_iconst hx hb dX4_flag_27 ?_
      refine zr_icmp_ne (tgt := 52) hx hb dX4_flag_28 (by decide) (by omega) (by omega) (fun c_4 => ?_) (fun c_4 => ?_)
      · refine lv_aload_n hx hb dX4_flag_52 rfl (lv_at hl 0 rfl) ?_
        refine lv_iload_n hx hb dX4_flag_53 rfl (lv_at hl 2 rfl) ?_
        refine lv_iload_n hx hb dX4_flag_54 rfl (lv_at hl 3 rfl) ?_
        refine lv_iload hx hb dX4_flag_55 (lv_at hl 4 rfl) ?_
        refine zc_V (As := [.int (zi_n p1), .int (zi_n p2), .int (zi_n p3)]) (rest := []) ⟨hx, hb, hml, hown, hts⟩ (c_M_maySecond l D x a a2 a3 cA cB cC F P G n rd br v ln 0 hF (by omega) hP0 hG (by omega) (by omega) (by omega) (by omega) (by omega) p1 p2 p3 (by omega) (by omega) (by omega)) (cwV 3 hts gX4_flag_X4_maySecond rfl rfl rfl (by decide +kernel) ⟨(Nat.le_of_ble_eq_true rfl), (Nat.le_of_ble_eq_true rfl)⟩) hP hK [0, 1, 2, 3] [0, 1, 2] rfl rfl (ci := 5) rfl rfl rfl rfl hl.1 rfl (Nat.le_of_ble_eq_true rfl) dX4_flag_57 ⟨Nat.zero_le _, Nat.zero_le _⟩ (fun r hr1 => ?_)
        rcases hr1 with ⟨rfl, c_5⟩ | ⟨rfl, c_5⟩
        · refine lv_istore (lv' := [(5, .int (zi_n 1)), (0, .ref x), (1, .int (zi_n p0)), (2, .int (zi_n p1)), (3, .int (zi_n p2)), (4, .int (zi_n p3))]) hx hb dX4_flag_60 hl (by decide) rfl (fun ls hl => ?_)
          have hmy : zh_qmay v p0 p1 p2 p3 := by unfold zh_qmay; exact ⟨fun h => absurd h (by assumption), fun h => c_5⟩
          refine lv_iload hx hb dX4_flag_62 (lv_at hl 0 rfl) ?_
          refine zr_if_ne (tgt := 70) hx hb dX4_flag_64 (by decide) (by omega) (fun c_6 => ?_) (fun c => absurd c (by decide))
          refine lv_aload_n hx hb dX4_flag_70 rfl (lv_at hl 1 rfl) ?_
          refine lv_iload_n hx hb dX4_flag_71 rfl (lv_at hl 2 rfl) ?_
          refine lv_iload_n hx hb dX4_flag_72 rfl (lv_at hl 3 rfl) ?_
          refine zc_Vi (As := [.int (zi_n p0), .int (zi_n p1)]) (rest := []) (wr := []) (wf := fun (_ : Unit) => [(x, .inr (5, [.int (zi_n 0), .ref a, .int (zi_n n), .int (zi_n rd), .int (zi_n br), .ref a2, .ref a3, .int (zi_n v), .int (zi_n ln)])), (a, .inl (cA, 600, .inl (zi_F F))), (a2, .inl (cB, 600, .inl (zi_F P))), (a3, .inl (cC, 600, .inl (zi_F G)))]) ⟨hx, hb, hml, hown, hts⟩ (c_M_isOn l D x a a2 a3 cA cB cC F P G n rd br v ln 0 hF (by omega) hP0 hG (by omega) (by omega) (by omega) (by omega) (by omega) _ p0 p1 hR (by omega) (by omega)) (cwV 2 hts gX4_flag_X4_isOn rfl rfl rfl (by decide +kernel) ⟨(Nat.le_of_ble_eq_true rfl), (Nat.le_of_ble_eq_true rfl)⟩) hP hD hK hS hA [0, 1, 2, 3] [] [0, 1, 2] [0, 1, 2, 3] rfl rfl (by decide) rfl (by decide) (by decide) rfl (fun _ => rfl) (fun _ => rfl) (by decide) (ci := 5) rfl rfl rfl rfl hl.1 rfl (Nat.le_of_ble_eq_true rfl) dX4_flag_73 ⟨Nat.zero_le _, Nat.zero_le _⟩ (fun r _ hr1 H locs hP hD hS => ?_)
          have hP : va_P D vwCl [(x, .inr (5, [.int (zi_n 0), .ref a, .int (zi_n n), .int (zi_n rd), .int (zi_n br), .ref a2, .ref a3, .int (zi_n v), .int (zi_n ln)])), (a, .inl (cA, 600, .inl (zi_F F))), (a2, .inl (cB, 600, .inl (zi_F P))), (a3, .inl (cC, 600, .inl (zi_F G)))] H := hP
          have hD : va_D A [(x, .inr (5, [.int (zi_n 0), .ref a, .int (zi_n n), .int (zi_n rd), .int (zi_n br), .ref a2, .ref a3, .int (zi_n v), .int (zi_n ln)])), (a, .inl (cA, 600, .inl (zi_F F))), (a2, .inl (cB, 600, .inl (zi_F P))), (a3, .inl (cC, 600, .inl (zi_F G)))] := hD
          obtain ⟨rfl, b_7⟩ := hr1
          have ho9 : zh_qon G rd p0 p1 = zh_sr (G (zh_mp p0 p1).toNat) (p1 % 8) % 2 := by unfold zh_qon; rw [if_neg (by omega), zh_if_t hif]
          have hbb := zh_bit_b (k := p1 % 8) (hG (zh_mp p0 p1).toNat) (by omega)
          refine lv_istore (lv' := [(6, .int (zi_n (zh_qon G rd p0 p1))), (5, .int (zi_n 1)), (0, .ref x), (1, .int (zi_n p0)), (2, .int (zi_n p1)), (3, .int (zi_n p2)), (4, .int (zi_n p3))]) hx hb dX4_flag_76 hl (by decide) rfl (fun ls hl => ?_)
          refine zr_iconst hx hb dX4_flag_78 ?_
          refine lv_iload_n hx hb dX4_flag_79 rfl (lv_at hl 4 rfl) ?_
          refine zr_bipush hx hb dX4_flag_80 (by decide) ?_
          refine zr_irem hx hb dX4_flag_82 (by omega) (by omega) (by omega) (by omega) ?_
          refine zr_ishl1 hx hb dX4_flag_83 (by omega) ?_
          have b_8 := zh_pw_b (k := p1 % 8) (by omega)
          refine lv_istore (lv' := [(7, .int (zi_n (zh_pw (p1 % 8)))), (6, .int (zi_n (zh_qon G rd p0 p1))), (5, .int (zi_n 1)), (0, .ref x), (1, .int (zi_n p0)), (2, .int (zi_n p1)), (3, .int (zi_n p2)), (4, .int (zi_n p3))]) hx hb dX4_flag_84 hl (by decide) rfl (fun ls hl => ?_)
          refine lv_aload_n hx hb dX4_flag_86 rfl (lv_at hl 3 rfl) ?_
          refine va_get (D := D) (ci := 5) (v := .ref a3) (C := RX4) (T := TX4) (N := 9) hx hb hts in_X4_flag_X4 hown hK hP 0 rfl rfl 6 (by decide) (hts (.fieldLink RX4 16 "ZHeadsModel" "memory" "[I") (by decide +kernel)) (fun _ h9 => h9) rfl dX4_flag_87 ?_
          refine lv_iload_n hx hb dX4_flag_90 rfl (lv_at hl 4 rfl) ?_
          refine lv_iload_n hx hb dX4_flag_91 rfl (lv_at hl 5 rfl) ?_
          refine zc_S (As := [.int (zi_n p0), .int (zi_n p1)]) (rest := [.ref a3]) ⟨hx, hb, hml, hown, hts⟩ (c_M_placeOf l p0 p1 (by omega) (by omega)) (va_cwS 2 hts gX4_flag_X4_placeOf rfl rfl rfl (by decide +kernel) ⟨(Nat.le_of_ble_eq_true rfl), (Nat.le_of_ble_eq_true rfl)⟩) rfl hl.1 rfl (Nat.le_of_ble_eq_true rfl) dX4_flag_92 ⟨Nat.zero_le _, Nat.zero_le _⟩ (fun r hr1 => ?_)
          obtain ⟨rfl, b_9⟩ := hr1
          refine lv_dup2_11 hx hb dX4_flag_95 rfl rfl ?_
          refine zr_iald hx hb hK hP 3 2 rfl rfl (by decide) (by omega) dX4_flag_96 ?_
          have b_10 := hG (zh_mp p0 p1).toNat
          refine lv_iload hx hb dX4_flag_97 (lv_at hl 1 rfl) ?_
          refine zr_if_ne (tgt := 111) hx hb dX4_flag_99 (by decide) (by omega) (fun c_11 => ?_) (fun c_11 => ?_)
          · refine lv_iload hx hb dX4_flag_111 (lv_at hl 1 rfl) ?_
            refine zr_iconst hx hb dX4_flag_113 ?_
            refine zr_icmp_ne (tgt := 127) hx hb dX4_flag_114 (by decide) (by omega) (by omega) (fun c_12 => ?_) (fun c_12 => ?_)
            · refine zr_iconst hx hb dX4_flag_127 ?_
              refine zr_iadd hx hb dX4_flag_128 ?_
              refine zr_iast (x := (G (zh_mp p0 p1).toNat) + 0) hx hb hK hP hD hS 3 2 rfl rfl (by decide) (by omega) dX4_flag_129 (fun H locs hP hD hS => ?_)
              have hF_13 : zi_By (zi_up G (zh_mp p0 p1).toNat ((G (zh_mp p0 p1).toNat) + 0)) := zi_up_By hG _ (by omega)
              have hP : va_P D vwCl [(x, .inr (5, [.int (zi_n 0), .ref a, .int (zi_n n), .int (zi_n rd), .int (zi_n br), .ref a2, .ref a3, .int (zi_n v), .int (zi_n ln)])), (a, .inl (cA, 600, .inl (zi_F F))), (a2, .inl (cB, 600, .inl (zi_F P))), (a3, .inl (cC, 600, .inl (zi_F (zi_up G (zh_mp p0 p1).toNat ((G (zh_mp p0 p1).toNat) + 0)))))] H := hP
              have hD : va_D A [(x, .inr (5, [.int (zi_n 0), .ref a, .int (zi_n n), .int (zi_n rd), .int (zi_n br), .ref a2, .ref a3, .int (zi_n v), .int (zi_n ln)])), (a, .inl (cA, 600, .inl (zi_F F))), (a2, .inl (cB, 600, .inl (zi_F P))), (a3, .inl (cC, 600, .inl (zi_F (zi_up G (zh_mp p0 p1).toNat ((G (zh_mp p0 p1).toNat) + 0)))))] := hD
              refine lv_iload hx hb dX4_flag_130 (lv_at hl 1 rfl) ?_
              have e_n_14_0 : zh_qflG G rd v p0 p1 p2 p3 = zi_up G (zh_mp p0 p1).toNat ((G (zh_mp p0 p1).toNat) + 0) := by unfold zh_qflG; rw [zh_if_t ⟨by omega, hif, hmy⟩]; unfold zh_qflV; first | (rw [if_pos (by omega)]; done) | (rw [if_neg (by omega), if_pos (by omega)]; done) | (rw [if_neg (by omega), if_neg (by omega)]; done)
              have hP9 : va_P D vwCl [(x, .inr (5, [.int (zi_n 0), .ref a, .int (zi_n n), .int (zi_n rd), .int (zi_n br), .ref a2, .ref a3, .int (zi_n v), .int (zi_n ln)])), (a, .inl (cA, 600, .inl (zi_F F))), (a2, .inl (cB, 600, .inl (zi_F P))), (a3, .inl (cC, 600, .inl (zi_F (zh_qflG G rd v p0 p1 p2 p3))))] H := by rw [e_n_14_0]; exact hP
              have hD9 : va_D A [(x, .inr (5, [.int (zi_n 0), .ref a, .int (zi_n n), .int (zi_n rd), .int (zi_n br), .ref a2, .ref a3, .int (zi_n v), .int (zi_n ln)])), (a, .inl (cA, 600, .inl (zi_F F))), (a2, .inl (cB, 600, .inl (zi_F P))), (a3, .inl (cC, 600, .inl (zi_F (zh_qflG G rd v p0 p1 p2 p3))))] := by rw [e_n_14_0]; exact hD
              exact W.iret (v := zi_n (zh_qon G rd p0 p1)) hx hb hr (fun t ht hW => ⟨⟨zi_n (zh_qon G rd p0 p1), (), rfl, zl_r (by unfold zh_qfl; rw [if_neg (by omega), zh_if_t hif, zh_if_t hmy]; exact ho9.symm) (by omega), by rw [ht]; exact hP9, va_K.moved hW.alike hK, hD9⟩, hS.F ht⟩) hS.2.2 dX4_flag_132
            · refine lv_iload_n hx hb dX4_flag_117 rfl (lv_at hl 6 rfl) ?_
              refine zr_if_ne (tgt := 127) hx hb dX4_flag_118 (by decide) (by omega) (fun c_15 => ?_) (fun c_15 => ?_)
              · refine zr_iconst hx hb dX4_flag_127 ?_
                refine zr_iadd hx hb dX4_flag_128 ?_
                refine zr_iast (x := (G (zh_mp p0 p1).toNat) + 0) hx hb hK hP hD hS 3 2 rfl rfl (by decide) (by omega) dX4_flag_129 (fun H locs hP hD hS => ?_)
                have hF_16 : zi_By (zi_up G (zh_mp p0 p1).toNat ((G (zh_mp p0 p1).toNat) + 0)) := zi_up_By hG _ (by omega)
                have hP : va_P D vwCl [(x, .inr (5, [.int (zi_n 0), .ref a, .int (zi_n n), .int (zi_n rd), .int (zi_n br), .ref a2, .ref a3, .int (zi_n v), .int (zi_n ln)])), (a, .inl (cA, 600, .inl (zi_F F))), (a2, .inl (cB, 600, .inl (zi_F P))), (a3, .inl (cC, 600, .inl (zi_F (zi_up G (zh_mp p0 p1).toNat ((G (zh_mp p0 p1).toNat) + 0)))))] H := hP
                have hD : va_D A [(x, .inr (5, [.int (zi_n 0), .ref a, .int (zi_n n), .int (zi_n rd), .int (zi_n br), .ref a2, .ref a3, .int (zi_n v), .int (zi_n ln)])), (a, .inl (cA, 600, .inl (zi_F F))), (a2, .inl (cB, 600, .inl (zi_F P))), (a3, .inl (cC, 600, .inl (zi_F (zi_up G (zh_mp p0 p1).toNat ((G (zh_mp p0 p1).toNat) + 0)))))] := hD
                refine lv_iload hx hb dX4_flag_130 (lv_at hl 1 rfl) ?_
                have e_n_17_0 : zh_qflG G rd v p0 p1 p2 p3 = zi_up G (zh_mp p0 p1).toNat ((G (zh_mp p0 p1).toNat) + 0) := by unfold zh_qflG; rw [zh_if_t ⟨by omega, hif, hmy⟩]; unfold zh_qflV; first | (rw [if_pos (by omega)]; done) | (rw [if_neg (by omega), if_pos (by omega)]; done) | (rw [if_neg (by omega), if_neg (by omega)]; done)
                have hP9 : va_P D vwCl [(x, .inr (5, [.int (zi_n 0), .ref a, .int (zi_n n), .int (zi_n rd), .int (zi_n br), .ref a2, .ref a3, .int (zi_n v), .int (zi_n ln)])), (a, .inl (cA, 600, .inl (zi_F F))), (a2, .inl (cB, 600, .inl (zi_F P))), (a3, .inl (cC, 600, .inl (zi_F (zh_qflG G rd v p0 p1 p2 p3))))] H := by rw [e_n_17_0]; exact hP
                have hD9 : va_D A [(x, .inr (5, [.int (zi_n 0), .ref a, .int (zi_n n), .int (zi_n rd), .int (zi_n br), .ref a2, .ref a3, .int (zi_n v), .int (zi_n ln)])), (a, .inl (cA, 600, .inl (zi_F F))), (a2, .inl (cB, 600, .inl (zi_F P))), (a3, .inl (cC, 600, .inl (zi_F (zh_qflG G rd v p0 p1 p2 p3))))] := by rw [e_n_17_0]; exact hD
                exact W.iret (v := zi_n (zh_qon G rd p0 p1)) hx hb hr (fun t ht hW => ⟨⟨zi_n (zh_qon G rd p0 p1), (), rfl, zl_r (by unfold zh_qfl; rw [if_neg (by omega), zh_if_t hif, zh_if_t hmy]; exact ho9.symm) (by omega), by rw [ht]; exact hP9, va_K.moved hW.alike hK, hD9⟩, hS.F ht⟩) hS.2.2 dX4_flag_132
              · refine lv_iload hx hb dX4_flag_121 (lv_at hl 0 rfl) ?_
                refine zr_ineg hx hb dX4_flag_123 ?_
                refine lv_goto (tgt := 128) hx hb dX4_flag_124 (by decide) ?_
                refine zr_iadd hx hb dX4_flag_128 ?_
                refine zr_iast (x := (G (zh_mp p0 p1).toNat) + (-(zh_pw (p1 % 8)))) hx hb hK hP hD hS 3 2 rfl rfl (by decide) (by omega) dX4_flag_129 (fun H locs hP hD hS => ?_)
                have hF_18 : zi_By (zi_up G (zh_mp p0 p1).toNat ((G (zh_mp p0 p1).toNat) + (-(zh_pw (p1 % 8))))) := zi_up_By hG _ (by omega)
                have hP : va_P D vwCl [(x, .inr (5, [.int (zi_n 0), .ref a, .int (zi_n n), .int (zi_n rd), .int (zi_n br), .ref a2, .ref a3, .int (zi_n v), .int (zi_n ln)])), (a, .inl (cA, 600, .inl (zi_F F))), (a2, .inl (cB, 600, .inl (zi_F P))), (a3, .inl (cC, 600, .inl (zi_F (zi_up G (zh_mp p0 p1).toNat ((G (zh_mp p0 p1).toNat) + (-(zh_pw (p1 % 8))))))))] H := hP
                have hD : va_D A [(x, .inr (5, [.int (zi_n 0), .ref a, .int (zi_n n), .int (zi_n rd), .int (zi_n br), .ref a2, .ref a3, .int (zi_n v), .int (zi_n ln)])), (a, .inl (cA, 600, .inl (zi_F F))), (a2, .inl (cB, 600, .inl (zi_F P))), (a3, .inl (cC, 600, .inl (zi_F (zi_up G (zh_mp p0 p1).toNat ((G (zh_mp p0 p1).toNat) + (-(zh_pw (p1 % 8))))))))] := hD
                refine lv_iload hx hb dX4_flag_130 (lv_at hl 1 rfl) ?_
                have e_n_19_0 : zh_qflG G rd v p0 p1 p2 p3 = zi_up G (zh_mp p0 p1).toNat ((G (zh_mp p0 p1).toNat) + (-(zh_pw (p1 % 8)))) := by unfold zh_qflG; rw [zh_if_t ⟨by omega, hif, hmy⟩]; unfold zh_qflV; first | (rw [if_pos (by omega)]; done) | (rw [if_neg (by omega), if_pos (by omega)]; done) | (rw [if_neg (by omega), if_neg (by omega)]; done)
                have hP9 : va_P D vwCl [(x, .inr (5, [.int (zi_n 0), .ref a, .int (zi_n n), .int (zi_n rd), .int (zi_n br), .ref a2, .ref a3, .int (zi_n v), .int (zi_n ln)])), (a, .inl (cA, 600, .inl (zi_F F))), (a2, .inl (cB, 600, .inl (zi_F P))), (a3, .inl (cC, 600, .inl (zi_F (zh_qflG G rd v p0 p1 p2 p3))))] H := by rw [e_n_19_0]; exact hP
                have hD9 : va_D A [(x, .inr (5, [.int (zi_n 0), .ref a, .int (zi_n n), .int (zi_n rd), .int (zi_n br), .ref a2, .ref a3, .int (zi_n v), .int (zi_n ln)])), (a, .inl (cA, 600, .inl (zi_F F))), (a2, .inl (cB, 600, .inl (zi_F P))), (a3, .inl (cC, 600, .inl (zi_F (zh_qflG G rd v p0 p1 p2 p3))))] := by rw [e_n_19_0]; exact hD
                exact W.iret (v := zi_n (zh_qon G rd p0 p1)) hx hb hr (fun t ht hW => ⟨⟨zi_n (zh_qon G rd p0 p1), (), rfl, zl_r (by unfold zh_qfl; rw [if_neg (by omega), zh_if_t hif, zh_if_t hmy]; exact ho9.symm) (by omega), by rw [ht]; exact hP9, va_K.moved hW.alike hK, hD9⟩, hS.F ht⟩) hS.2.2 dX4_flag_132
          · refine lv_iload_n hx hb dX4_flag_102 rfl (lv_at hl 6 rfl) ?_
            refine zr_if_eq (tgt := 111) hx hb dX4_flag_103 (by decide) (by omega) (fun c_20 => ?_) (fun c_20 => ?_)
            · refine lv_iload hx hb dX4_flag_111 (lv_at hl 1 rfl) ?_
              refine zr_iconst hx hb dX4_flag_113 ?_
              refine zr_icmp_ne (tgt := 127) hx hb dX4_flag_114 (by decide) (by omega) (by omega) (fun c_21 => ?_) (fun c_21 => ?_)
              · refine zr_iconst hx hb dX4_flag_127 ?_
                refine zr_iadd hx hb dX4_flag_128 ?_
                refine zr_iast (x := (G (zh_mp p0 p1).toNat) + 0) hx hb hK hP hD hS 3 2 rfl rfl (by decide) (by omega) dX4_flag_129 (fun H locs hP hD hS => ?_)
                have hF_22 : zi_By (zi_up G (zh_mp p0 p1).toNat ((G (zh_mp p0 p1).toNat) + 0)) := zi_up_By hG _ (by omega)
                have hP : va_P D vwCl [(x, .inr (5, [.int (zi_n 0), .ref a, .int (zi_n n), .int (zi_n rd), .int (zi_n br), .ref a2, .ref a3, .int (zi_n v), .int (zi_n ln)])), (a, .inl (cA, 600, .inl (zi_F F))), (a2, .inl (cB, 600, .inl (zi_F P))), (a3, .inl (cC, 600, .inl (zi_F (zi_up G (zh_mp p0 p1).toNat ((G (zh_mp p0 p1).toNat) + 0)))))] H := hP
                have hD : va_D A [(x, .inr (5, [.int (zi_n 0), .ref a, .int (zi_n n), .int (zi_n rd), .int (zi_n br), .ref a2, .ref a3, .int (zi_n v), .int (zi_n ln)])), (a, .inl (cA, 600, .inl (zi_F F))), (a2, .inl (cB, 600, .inl (zi_F P))), (a3, .inl (cC, 600, .inl (zi_F (zi_up G (zh_mp p0 p1).toNat ((G (zh_mp p0 p1).toNat) + 0)))))] := hD
                refine lv_iload hx hb dX4_flag_130 (lv_at hl 1 rfl) ?_
                have e_n_23_0 : zh_qflG G rd v p0 p1 p2 p3 = zi_up G (zh_mp p0 p1).toNat ((G (zh_mp p0 p1).toNat) + 0) := by unfold zh_qflG; rw [zh_if_t ⟨by omega, hif, hmy⟩]; unfold zh_qflV; first | (rw [if_pos (by omega)]; done) | (rw [if_neg (by omega), if_pos (by omega)]; done) | (rw [if_neg (by omega), if_neg (by omega)]; done)
                have hP9 : va_P D vwCl [(x, .inr (5, [.int (zi_n 0), .ref a, .int (zi_n n), .int (zi_n rd), .int (zi_n br), .ref a2, .ref a3, .int (zi_n v), .int (zi_n ln)])), (a, .inl (cA, 600, .inl (zi_F F))), (a2, .inl (cB, 600, .inl (zi_F P))), (a3, .inl (cC, 600, .inl (zi_F (zh_qflG G rd v p0 p1 p2 p3))))] H := by rw [e_n_23_0]; exact hP
                have hD9 : va_D A [(x, .inr (5, [.int (zi_n 0), .ref a, .int (zi_n n), .int (zi_n rd), .int (zi_n br), .ref a2, .ref a3, .int (zi_n v), .int (zi_n ln)])), (a, .inl (cA, 600, .inl (zi_F F))), (a2, .inl (cB, 600, .inl (zi_F P))), (a3, .inl (cC, 600, .inl (zi_F (zh_qflG G rd v p0 p1 p2 p3))))] := by rw [e_n_23_0]; exact hD
                exact W.iret (v := zi_n (zh_qon G rd p0 p1)) hx hb hr (fun t ht hW => ⟨⟨zi_n (zh_qon G rd p0 p1), (), rfl, zl_r (by unfold zh_qfl; rw [if_neg (by omega), zh_if_t hif, zh_if_t hmy]; exact ho9.symm) (by omega), by rw [ht]; exact hP9, va_K.moved hW.alike hK, hD9⟩, hS.F ht⟩) hS.2.2 dX4_flag_132
              · refine lv_iload_n hx hb dX4_flag_117 rfl (lv_at hl 6 rfl) ?_
                refine zr_if_ne (tgt := 127) hx hb dX4_flag_118 (by decide) (by omega) (fun c_24 => ?_) (fun c_24 => ?_)
                · refine zr_iconst hx hb dX4_flag_127 ?_
                  refine zr_iadd hx hb dX4_flag_128 ?_
                  refine zr_iast (x := (G (zh_mp p0 p1).toNat) + 0) hx hb hK hP hD hS 3 2 rfl rfl (by decide) (by omega) dX4_flag_129 (fun H locs hP hD hS => ?_)
                  have hF_25 : zi_By (zi_up G (zh_mp p0 p1).toNat ((G (zh_mp p0 p1).toNat) + 0)) := zi_up_By hG _ (by omega)
                  have hP : va_P D vwCl [(x, .inr (5, [.int (zi_n 0), .ref a, .int (zi_n n), .int (zi_n rd), .int (zi_n br), .ref a2, .ref a3, .int (zi_n v), .int (zi_n ln)])), (a, .inl (cA, 600, .inl (zi_F F))), (a2, .inl (cB, 600, .inl (zi_F P))), (a3, .inl (cC, 600, .inl (zi_F (zi_up G (zh_mp p0 p1).toNat ((G (zh_mp p0 p1).toNat) + 0)))))] H := hP
                  have hD : va_D A [(x, .inr (5, [.int (zi_n 0), .ref a, .int (zi_n n), .int (zi_n rd), .int (zi_n br), .ref a2, .ref a3, .int (zi_n v), .int (zi_n ln)])), (a, .inl (cA, 600, .inl (zi_F F))), (a2, .inl (cB, 600, .inl (zi_F P))), (a3, .inl (cC, 600, .inl (zi_F (zi_up G (zh_mp p0 p1).toNat ((G (zh_mp p0 p1).toNat) + 0)))))] := hD
                  refine lv_iload hx hb dX4_flag_130 (lv_at hl 1 rfl) ?_
                  have e_n_26_0 : zh_qflG G rd v p0 p1 p2 p3 = zi_up G (zh_mp p0 p1).toNat ((G (zh_mp p0 p1).toNat) + 0) := by unfold zh_qflG; rw [zh_if_t ⟨by omega, hif, hmy⟩]; unfold zh_qflV; first | (rw [if_pos (by omega)]; done) | (rw [if_neg (by omega), if_pos (by omega)]; done) | (rw [if_neg (by omega), if_neg (by omega)]; done)
                  have hP9 : va_P D vwCl [(x, .inr (5, [.int (zi_n 0), .ref a, .int (zi_n n), .int (zi_n rd), .int (zi_n br), .ref a2, .ref a3, .int (zi_n v), .int (zi_n ln)])), (a, .inl (cA, 600, .inl (zi_F F))), (a2, .inl (cB, 600, .inl (zi_F P))), (a3, .inl (cC, 600, .inl (zi_F (zh_qflG G rd v p0 p1 p2 p3))))] H := by rw [e_n_26_0]; exact hP
                  have hD9 : va_D A [(x, .inr (5, [.int (zi_n 0), .ref a, .int (zi_n n), .int (zi_n rd), .int (zi_n br), .ref a2, .ref a3, .int (zi_n v), .int (zi_n ln)])), (a, .inl (cA, 600, .inl (zi_F F))), (a2, .inl (cB, 600, .inl (zi_F P))), (a3, .inl (cC, 600, .inl (zi_F (zh_qflG G rd v p0 p1 p2 p3))))] := by rw [e_n_26_0]; exact hD
                  exact W.iret (v := zi_n (zh_qon G rd p0 p1)) hx hb hr (fun t ht hW => ⟨⟨zi_n (zh_qon G rd p0 p1), (), rfl, zl_r (by unfold zh_qfl; rw [if_neg (by omega), zh_if_t hif, zh_if_t hmy]; exact ho9.symm) (by omega), by rw [ht]; exact hP9, va_K.moved hW.alike hK, hD9⟩, hS.F ht⟩) hS.2.2 dX4_flag_132
                · refine lv_iload hx hb dX4_flag_121 (lv_at hl 0 rfl) ?_
                  refine zr_ineg hx hb dX4_flag_123 ?_
                  refine lv_goto (tgt := 128) hx hb dX4_flag_124 (by decide) ?_
                  refine zr_iadd hx hb dX4_flag_128 ?_
                  refine zr_iast (x := (G (zh_mp p0 p1).toNat) + (-(zh_pw (p1 % 8)))) hx hb hK hP hD hS 3 2 rfl rfl (by decide) (by omega) dX4_flag_129 (fun H locs hP hD hS => ?_)
                  have hF_27 : zi_By (zi_up G (zh_mp p0 p1).toNat ((G (zh_mp p0 p1).toNat) + (-(zh_pw (p1 % 8))))) := zi_up_By hG _ (by omega)
                  have hP : va_P D vwCl [(x, .inr (5, [.int (zi_n 0), .ref a, .int (zi_n n), .int (zi_n rd), .int (zi_n br), .ref a2, .ref a3, .int (zi_n v), .int (zi_n ln)])), (a, .inl (cA, 600, .inl (zi_F F))), (a2, .inl (cB, 600, .inl (zi_F P))), (a3, .inl (cC, 600, .inl (zi_F (zi_up G (zh_mp p0 p1).toNat ((G (zh_mp p0 p1).toNat) + (-(zh_pw (p1 % 8))))))))] H := hP
                  have hD : va_D A [(x, .inr (5, [.int (zi_n 0), .ref a, .int (zi_n n), .int (zi_n rd), .int (zi_n br), .ref a2, .ref a3, .int (zi_n v), .int (zi_n ln)])), (a, .inl (cA, 600, .inl (zi_F F))), (a2, .inl (cB, 600, .inl (zi_F P))), (a3, .inl (cC, 600, .inl (zi_F (zi_up G (zh_mp p0 p1).toNat ((G (zh_mp p0 p1).toNat) + (-(zh_pw (p1 % 8))))))))] := hD
                  refine lv_iload hx hb dX4_flag_130 (lv_at hl 1 rfl) ?_
                  have e_n_28_0 : zh_qflG G rd v p0 p1 p2 p3 = zi_up G (zh_mp p0 p1).toNat ((G (zh_mp p0 p1).toNat) + (-(zh_pw (p1 % 8)))) := by unfold zh_qflG; rw [zh_if_t ⟨by omega, hif, hmy⟩]; unfold zh_qflV; first | (rw [if_pos (by omega)]; done) | (rw [if_neg (by omega), if_pos (by omega)]; done) | (rw [if_neg (by omega), if_neg (by omega)]; done)
                  have hP9 : va_P D vwCl [(x, .inr (5, [.int (zi_n 0), .ref a, .int (zi_n n), .int (zi_n rd), .int (zi_n br), .ref a2, .ref a3, .int (zi_n v), .int (zi_n ln)])), (a, .inl (cA, 600, .inl (zi_F F))), (a2, .inl (cB, 600, .inl (zi_F P))), (a3, .inl (cC, 600, .inl (zi_F (zh_qflG G rd v p0 p1 p2 p3))))] H := by rw [e_n_28_0]; exact hP
                  have hD9 : va_D A [(x, .inr (5, [.int (zi_n 0), .ref a, .int (zi_n n), .int (zi_n rd), .int (zi_n br), .ref a2, .ref a3, .int (zi_n v), .int (zi_n ln)])), (a, .inl (cA, 600, .inl (zi_F F))), (a2, .inl (cB, 600, .inl (zi_F P))), (a3, .inl (cC, 600, .inl (zi_F (zh_qflG G rd v p0 p1 p2 p3))))] := by rw [e_n_28_0]; exact hD
                  exact W.iret (v := zi_n (zh_qon G rd p0 p1)) hx hb hr (fun t ht hW => ⟨⟨zi_n (zh_qon G rd p0 p1), (), rfl, zl_r (by unfold zh_qfl; rw [if_neg (by omega), zh_if_t hif, zh_if_t hmy]; exact ho9.symm) (by omega), by rw [ht]; exact hP9, va_K.moved hW.alike hK, hD9⟩, hS.F ht⟩) hS.2.2 dX4_flag_132
            · refine lv_iload hx hb dX4_flag_106 (lv_at hl 0 rfl) ?_
              refine lv_goto (tgt := 128) hx hb dX4_flag_108 (by decide) ?_
              refine zr_iadd hx hb dX4_flag_128 ?_
              refine zr_iast (x := (G (zh_mp p0 p1).toNat) + (zh_pw (p1 % 8))) hx hb hK hP hD hS 3 2 rfl rfl (by decide) (by omega) dX4_flag_129 (fun H locs hP hD hS => ?_)
              have hF_29 : zi_By (zi_up G (zh_mp p0 p1).toNat ((G (zh_mp p0 p1).toNat) + (zh_pw (p1 % 8)))) := zi_up_By hG _ (by omega)
              have hP : va_P D vwCl [(x, .inr (5, [.int (zi_n 0), .ref a, .int (zi_n n), .int (zi_n rd), .int (zi_n br), .ref a2, .ref a3, .int (zi_n v), .int (zi_n ln)])), (a, .inl (cA, 600, .inl (zi_F F))), (a2, .inl (cB, 600, .inl (zi_F P))), (a3, .inl (cC, 600, .inl (zi_F (zi_up G (zh_mp p0 p1).toNat ((G (zh_mp p0 p1).toNat) + (zh_pw (p1 % 8)))))))] H := hP
              have hD : va_D A [(x, .inr (5, [.int (zi_n 0), .ref a, .int (zi_n n), .int (zi_n rd), .int (zi_n br), .ref a2, .ref a3, .int (zi_n v), .int (zi_n ln)])), (a, .inl (cA, 600, .inl (zi_F F))), (a2, .inl (cB, 600, .inl (zi_F P))), (a3, .inl (cC, 600, .inl (zi_F (zi_up G (zh_mp p0 p1).toNat ((G (zh_mp p0 p1).toNat) + (zh_pw (p1 % 8)))))))] := hD
              refine lv_iload hx hb dX4_flag_130 (lv_at hl 1 rfl) ?_
              have e_n_30_0 : zh_qflG G rd v p0 p1 p2 p3 = zi_up G (zh_mp p0 p1).toNat ((G (zh_mp p0 p1).toNat) + (zh_pw (p1 % 8))) := by unfold zh_qflG; rw [zh_if_t ⟨by omega, hif, hmy⟩]; unfold zh_qflV; first | (rw [if_pos (by omega)]; done) | (rw [if_neg (by omega), if_pos (by omega)]; done) | (rw [if_neg (by omega), if_neg (by omega)]; done)
              have hP9 : va_P D vwCl [(x, .inr (5, [.int (zi_n 0), .ref a, .int (zi_n n), .int (zi_n rd), .int (zi_n br), .ref a2, .ref a3, .int (zi_n v), .int (zi_n ln)])), (a, .inl (cA, 600, .inl (zi_F F))), (a2, .inl (cB, 600, .inl (zi_F P))), (a3, .inl (cC, 600, .inl (zi_F (zh_qflG G rd v p0 p1 p2 p3))))] H := by rw [e_n_30_0]; exact hP
              have hD9 : va_D A [(x, .inr (5, [.int (zi_n 0), .ref a, .int (zi_n n), .int (zi_n rd), .int (zi_n br), .ref a2, .ref a3, .int (zi_n v), .int (zi_n ln)])), (a, .inl (cA, 600, .inl (zi_F F))), (a2, .inl (cB, 600, .inl (zi_F P))), (a3, .inl (cC, 600, .inl (zi_F (zh_qflG G rd v p0 p1 p2 p3))))] := by rw [e_n_30_0]; exact hD
              exact W.iret (v := zi_n (zh_qon G rd p0 p1)) hx hb hr (fun t ht hW => ⟨⟨zi_n (zh_qon G rd p0 p1), (), rfl, zl_r (by unfold zh_qfl; rw [if_neg (by omega), zh_if_t hif, zh_if_t hmy]; exact ho9.symm) (by omega), by rw [ht]; exact hP9, va_K.moved hW.alike hK, hD9⟩, hS.F ht⟩) hS.2.2 dX4_flag_132
        · refine lv_istore (lv' := [(5, .int (zi_n 0)), (0, .ref x), (1, .int (zi_n p0)), (2, .int (zi_n p1)), (3, .int (zi_n p2)), (4, .int (zi_n p3))]) hx hb dX4_flag_60 hl (by decide) rfl (fun ls hl => ?_)
          have hmn : ¬ zh_qmay v p0 p1 p2 p3 := by unfold zh_qmay; intro h; exact c_5 (h.2 (by omega))
          refine lv_iload hx hb dX4_flag_62 (lv_at hl 0 rfl) ?_
          refine zr_if_ne (tgt := 70) hx hb dX4_flag_64 (by decide) (by omega) (fun c => absurd c (by decide)) (fun c_31 => ?_)
          refine zr_bipush hx hb dX4_flag_67 (by decide) ?_
          have e_n_32_0 : zh_qflG G rd v p0 p1 p2 p3 = G := by unfold zh_qflG; exact zh_if_f (fun h => hmn h.2.2) _ _
          have hP9 : va_P D vwCl [(x, .inr (5, [.int (zi_n 0), .ref a, .int (zi_n n), .int (zi_n rd), .int (zi_n br), .ref a2, .ref a3, .int (zi_n v), .int (zi_n ln)])), (a, .inl (cA, 600, .inl (zi_F F))), (a2, .inl (cB, 600, .inl (zi_F P))), (a3, .inl (cC, 600, .inl (zi_F (zh_qflG G rd v p0 p1 p2 p3))))] H := by rw [e_n_32_0]; exact hP
          have hD9 : va_D A [(x, .inr (5, [.int (zi_n 0), .ref a, .int (zi_n n), .int (zi_n rd), .int (zi_n br), .ref a2, .ref a3, .int (zi_n v), .int (zi_n ln)])), (a, .inl (cA, 600, .inl (zi_F F))), (a2, .inl (cB, 600, .inl (zi_F P))), (a3, .inl (cC, 600, .inl (zi_F (zh_qflG G rd v p0 p1 p2 p3))))] := by rw [e_n_32_0]; exact hD
          exact W.iret (v := zi_n (-13)) hx hb hr (fun t ht hW => ⟨⟨zi_n (-13), (), rfl, zl_r (by unfold zh_qfl; rw [if_neg (by omega), zh_if_t hif, zh_if_f hmn]) (by omega), by rw [ht]; exact hP9, va_K.moved hW.alike hK, hD9⟩, hS.F ht⟩) hS.2.2 dX4_flag_69
      · refine lv_iload hx hb dX4_flag_31 (lv_at hl 4 rfl) ?_
        refine zr_if_ne (tgt := 48) hx hb dX4_flag_33 (by decide) (by omega) (fun c_33 => ?_) (fun c_33 => ?_)
        · refine zr_iconst hx hb dX4_flag_48 ?_
          refine lv_goto (tgt := 60) hx hb dX4_flag_49 (by decide) ?_
          refine lv_istore (lv' := [(5, .int (zi_n 0)), (0, .ref x), (1, .int (zi_n p0)), (2, .int (zi_n p1)), (3, .int (zi_n p2)), (4, .int (zi_n p3))]) hx hb dX4_flag_60 hl (by decide) rfl (fun ls hl => ?_)
          have hmn : ¬ zh_qmay v p0 p1 p2 p3 := by unfold zh_qmay; intro h; have := (h.1 (by omega)).1; omega
          refine lv_iload hx hb dX4_flag_62 (lv_at hl 0 rfl) ?_
          refine zr_if_ne (tgt := 70) hx hb dX4_flag_64 (by decide) (by omega) (fun c => absurd c (by decide)) (fun c_34 => ?_)
          refine zr_bipush hx hb dX4_flag_67 (by decide) ?_
          have e_n_35_0 : zh_qflG G rd v p0 p1 p2 p3 = G := by unfold zh_qflG; exact zh_if_f (fun h => hmn h.2.2) _ _
          have hP9 : va_P D vwCl [(x, .inr (5, [.int (zi_n 0), .ref a, .int (zi_n n), .int (zi_n rd), .int (zi_n br), .ref a2, .ref a3, .int (zi_n v), .int (zi_n ln)])), (a, .inl (cA, 600, .inl (zi_F F))), (a2, .inl (cB, 600, .inl (zi_F P))), (a3, .inl (cC, 600, .inl (zi_F (zh_qflG G rd v p0 p1 p2 p3))))] H := by rw [e_n_35_0]; exact hP
          have hD9 : va_D A [(x, .inr (5, [.int (zi_n 0), .ref a, .int (zi_n n), .int (zi_n rd), .int (zi_n br), .ref a2, .ref a3, .int (zi_n v), .int (zi_n ln)])), (a, .inl (cA, 600, .inl (zi_F F))), (a2, .inl (cB, 600, .inl (zi_F P))), (a3, .inl (cC, 600, .inl (zi_F (zh_qflG G rd v p0 p1 p2 p3))))] := by rw [e_n_35_0]; exact hD
          exact W.iret (v := zi_n (-13)) hx hb hr (fun t ht hW => ⟨⟨zi_n (-13), (), rfl, zl_r (by unfold zh_qfl; rw [if_neg (by omega), zh_if_t hif, zh_if_f hmn]) (by omega), by rw [ht]; exact hP9, va_K.moved hW.alike hK, hD9⟩, hS.F ht⟩) hS.2.2 dX4_flag_69
        · refine lv_aload_n hx hb dX4_flag_36 rfl (lv_at hl 0 rfl) ?_
          refine lv_iload_n hx hb dX4_flag_37 rfl (lv_at hl 2 rfl) ?_
          refine zc_V (As := [.int (zi_n p1)]) (rest := []) ⟨hx, hb, hml, hown, hts⟩ (c_M_mayFirst l D x a a2 a3 cA cB cC F P G n rd br v ln 0 hF (by omega) hP0 hG (by omega) (by omega) (by omega) (by omega) (by omega) p1 (by omega) (by omega)) (cwV 1 hts gX4_flag_X4_mayFirst rfl rfl rfl (by decide +kernel) ⟨(Nat.le_of_ble_eq_true rfl), (Nat.le_of_ble_eq_true rfl)⟩) hP hK [0, 1, 2, 3] [0, 1, 2] rfl rfl (ci := 5) rfl rfl rfl rfl hl.1 rfl (Nat.le_of_ble_eq_true rfl) dX4_flag_38 ⟨Nat.zero_le _, Nat.zero_le _⟩ (fun r hr1 => ?_)
          rcases hr1 with ⟨rfl, c_36⟩ | ⟨rfl, c_36⟩
          · refine zr_if_eq (tgt := 48) hx hb dX4_flag_41 (by decide) (by omega) (fun c => absurd c (by decide)) (fun c_37 => ?_)
            refine zr_iconst hx hb dX4_flag_44 ?_
            refine lv_goto (tgt := 60) hx hb dX4_flag_45 (by decide) ?_
            refine lv_istore (lv' := [(5, .int (zi_n 1)), (0, .ref x), (1, .int (zi_n p0)), (2, .int (zi_n p1)), (3, .int (zi_n p2)), (4, .int (zi_n p3))]) hx hb dX4_flag_60 hl (by decide) rfl (fun ls hl => ?_)
            have hmy : zh_qmay v p0 p1 p2 p3 := by unfold zh_qmay; exact ⟨fun h => ⟨by omega, c_36⟩, fun h => absurd (by assumption) h⟩
            refine lv_iload hx hb dX4_flag_62 (lv_at hl 0 rfl) ?_
            refine zr_if_ne (tgt := 70) hx hb dX4_flag_64 (by decide) (by omega) (fun c_38 => ?_) (fun c => absurd c (by decide))
            refine lv_aload_n hx hb dX4_flag_70 rfl (lv_at hl 1 rfl) ?_
            refine lv_iload_n hx hb dX4_flag_71 rfl (lv_at hl 2 rfl) ?_
            refine lv_iload_n hx hb dX4_flag_72 rfl (lv_at hl 3 rfl) ?_
            refine zc_Vi (As := [.int (zi_n p0), .int (zi_n p1)]) (rest := []) (wr := []) (wf := fun (_ : Unit) => [(x, .inr (5, [.int (zi_n 0), .ref a, .int (zi_n n), .int (zi_n rd), .int (zi_n br), .ref a2, .ref a3, .int (zi_n v), .int (zi_n ln)])), (a, .inl (cA, 600, .inl (zi_F F))), (a2, .inl (cB, 600, .inl (zi_F P))), (a3, .inl (cC, 600, .inl (zi_F G)))]) ⟨hx, hb, hml, hown, hts⟩ (c_M_isOn l D x a a2 a3 cA cB cC F P G n rd br v ln 0 hF (by omega) hP0 hG (by omega) (by omega) (by omega) (by omega) (by omega) _ p0 p1 hR (by omega) (by omega)) (cwV 2 hts gX4_flag_X4_isOn rfl rfl rfl (by decide +kernel) ⟨(Nat.le_of_ble_eq_true rfl), (Nat.le_of_ble_eq_true rfl)⟩) hP hD hK hS hA [0, 1, 2, 3] [] [0, 1, 2] [0, 1, 2, 3] rfl rfl (by decide) rfl (by decide) (by decide) rfl (fun _ => rfl) (fun _ => rfl) (by decide) (ci := 5) rfl rfl rfl rfl hl.1 rfl (Nat.le_of_ble_eq_true rfl) dX4_flag_73 ⟨Nat.zero_le _, Nat.zero_le _⟩ (fun r _ hr1 H locs hP hD hS => ?_)
            have hP : va_P D vwCl [(x, .inr (5, [.int (zi_n 0), .ref a, .int (zi_n n), .int (zi_n rd), .int (zi_n br), .ref a2, .ref a3, .int (zi_n v), .int (zi_n ln)])), (a, .inl (cA, 600, .inl (zi_F F))), (a2, .inl (cB, 600, .inl (zi_F P))), (a3, .inl (cC, 600, .inl (zi_F G)))] H := hP
            have hD : va_D A [(x, .inr (5, [.int (zi_n 0), .ref a, .int (zi_n n), .int (zi_n rd), .int (zi_n br), .ref a2, .ref a3, .int (zi_n v), .int (zi_n ln)])), (a, .inl (cA, 600, .inl (zi_F F))), (a2, .inl (cB, 600, .inl (zi_F P))), (a3, .inl (cC, 600, .inl (zi_F G)))] := hD
            obtain ⟨rfl, b_39⟩ := hr1
            have ho9 : zh_qon G rd p0 p1 = zh_sr (G (zh_mp p0 p1).toNat) (p1 % 8) % 2 := by unfold zh_qon; rw [if_neg (by omega), zh_if_t hif]
            have hbb := zh_bit_b (k := p1 % 8) (hG (zh_mp p0 p1).toNat) (by omega)
            refine lv_istore (lv' := [(6, .int (zi_n (zh_qon G rd p0 p1))), (5, .int (zi_n 1)), (0, .ref x), (1, .int (zi_n p0)), (2, .int (zi_n p1)), (3, .int (zi_n p2)), (4, .int (zi_n p3))]) hx hb dX4_flag_76 hl (by decide) rfl (fun ls hl => ?_)
            refine zr_iconst hx hb dX4_flag_78 ?_
            refine lv_iload_n hx hb dX4_flag_79 rfl (lv_at hl 4 rfl) ?_
            refine zr_bipush hx hb dX4_flag_80 (by decide) ?_
            refine zr_irem hx hb dX4_flag_82 (by omega) (by omega) (by omega) (by omega) ?_
            refine zr_ishl1 hx hb dX4_flag_83 (by omega) ?_
            have b_40 := zh_pw_b (k := p1 % 8) (by omega)
            refine lv_istore (lv' := [(7, .int (zi_n (zh_pw (p1 % 8)))), (6, .int (zi_n (zh_qon G rd p0 p1))), (5, .int (zi_n 1)), (0, .ref x), (1, .int (zi_n p0)), (2, .int (zi_n p1)), (3, .int (zi_n p2)), (4, .int (zi_n p3))]) hx hb dX4_flag_84 hl (by decide) rfl (fun ls hl => ?_)
            refine lv_aload_n hx hb dX4_flag_86 rfl (lv_at hl 3 rfl) ?_
            refine va_get (D := D) (ci := 5) (v := .ref a3) (C := RX4) (T := TX4) (N := 9) hx hb hts in_X4_flag_X4 hown hK hP 0 rfl rfl 6 (by decide) (hts (.fieldLink RX4 16 "ZHeadsModel" "memory" "[I") (by decide +kernel)) (fun _ h9 => h9) rfl dX4_flag_87 ?_
            refine lv_iload_n hx hb dX4_flag_90 rfl (lv_at hl 4 rfl) ?_
            refine lv_iload_n hx hb dX4_flag_91 rfl (lv_at hl 5 rfl) ?_
            refine zc_S (As := [.int (zi_n p0), .int (zi_n p1)]) (rest := [.ref a3]) ⟨hx, hb, hml, hown, hts⟩ (c_M_placeOf l p0 p1 (by omega) (by omega)) (va_cwS 2 hts gX4_flag_X4_placeOf rfl rfl rfl (by decide +kernel) ⟨(Nat.le_of_ble_eq_true rfl), (Nat.le_of_ble_eq_true rfl)⟩) rfl hl.1 rfl (Nat.le_of_ble_eq_true rfl) dX4_flag_92 ⟨Nat.zero_le _, Nat.zero_le _⟩ (fun r hr1 => ?_)
            obtain ⟨rfl, b_41⟩ := hr1
            refine lv_dup2_11 hx hb dX4_flag_95 rfl rfl ?_
            refine zr_iald hx hb hK hP 3 2 rfl rfl (by decide) (by omega) dX4_flag_96 ?_
            have b_42 := hG (zh_mp p0 p1).toNat
            refine lv_iload hx hb dX4_flag_97 (lv_at hl 1 rfl) ?_
            refine zr_if_ne (tgt := 111) hx hb dX4_flag_99 (by decide) (by omega) (fun c_43 => ?_) (fun c_43 => ?_)
            · refine lv_iload hx hb dX4_flag_111 (lv_at hl 1 rfl) ?_
              refine zr_iconst hx hb dX4_flag_113 ?_
              refine zr_icmp_ne (tgt := 127) hx hb dX4_flag_114 (by decide) (by omega) (by omega) (fun c_44 => ?_) (fun c_44 => ?_)
              · refine zr_iconst hx hb dX4_flag_127 ?_
                refine zr_iadd hx hb dX4_flag_128 ?_
                refine zr_iast (x := (G (zh_mp p0 p1).toNat) + 0) hx hb hK hP hD hS 3 2 rfl rfl (by decide) (by omega) dX4_flag_129 (fun H locs hP hD hS => ?_)
                have hF_45 : zi_By (zi_up G (zh_mp p0 p1).toNat ((G (zh_mp p0 p1).toNat) + 0)) := zi_up_By hG _ (by omega)
                have hP : va_P D vwCl [(x, .inr (5, [.int (zi_n 0), .ref a, .int (zi_n n), .int (zi_n rd), .int (zi_n br), .ref a2, .ref a3, .int (zi_n v), .int (zi_n ln)])), (a, .inl (cA, 600, .inl (zi_F F))), (a2, .inl (cB, 600, .inl (zi_F P))), (a3, .inl (cC, 600, .inl (zi_F (zi_up G (zh_mp p0 p1).toNat ((G (zh_mp p0 p1).toNat) + 0)))))] H := hP
                have hD : va_D A [(x, .inr (5, [.int (zi_n 0), .ref a, .int (zi_n n), .int (zi_n rd), .int (zi_n br), .ref a2, .ref a3, .int (zi_n v), .int (zi_n ln)])), (a, .inl (cA, 600, .inl (zi_F F))), (a2, .inl (cB, 600, .inl (zi_F P))), (a3, .inl (cC, 600, .inl (zi_F (zi_up G (zh_mp p0 p1).toNat ((G (zh_mp p0 p1).toNat) + 0)))))] := hD
                refine lv_iload hx hb dX4_flag_130 (lv_at hl 1 rfl) ?_
                have e_n_46_0 : zh_qflG G rd v p0 p1 p2 p3 = zi_up G (zh_mp p0 p1).toNat ((G (zh_mp p0 p1).toNat) + 0) := by unfold zh_qflG; rw [zh_if_t ⟨by omega, hif, hmy⟩]; unfold zh_qflV; first | (rw [if_pos (by omega)]; done) | (rw [if_neg (by omega), if_pos (by omega)]; done) | (rw [if_neg (by omega), if_neg (by omega)]; done)
                have hP9 : va_P D vwCl [(x, .inr (5, [.int (zi_n 0), .ref a, .int (zi_n n), .int (zi_n rd), .int (zi_n br), .ref a2, .ref a3, .int (zi_n v), .int (zi_n ln)])), (a, .inl (cA, 600, .inl (zi_F F))), (a2, .inl (cB, 600, .inl (zi_F P))), (a3, .inl (cC, 600, .inl (zi_F (zh_qflG G rd v p0 p1 p2 p3))))] H := by rw [e_n_46_0]; exact hP
                have hD9 : va_D A [(x, .inr (5, [.int (zi_n 0), .ref a, .int (zi_n n), .int (zi_n rd), .int (zi_n br), .ref a2, .ref a3, .int (zi_n v), .int (zi_n ln)])), (a, .inl (cA, 600, .inl (zi_F F))), (a2, .inl (cB, 600, .inl (zi_F P))), (a3, .inl (cC, 600, .inl (zi_F (zh_qflG G rd v p0 p1 p2 p3))))] := by rw [e_n_46_0]; exact hD
                exact W.iret (v := zi_n (zh_qon G rd p0 p1)) hx hb hr (fun t ht hW => ⟨⟨zi_n (zh_qon G rd p0 p1), (), rfl, zl_r (by unfold zh_qfl; rw [if_neg (by omega), zh_if_t hif, zh_if_t hmy]; exact ho9.symm) (by omega), by rw [ht]; exact hP9, va_K.moved hW.alike hK, hD9⟩, hS.F ht⟩) hS.2.2 dX4_flag_132
              · refine lv_iload_n hx hb dX4_flag_117 rfl (lv_at hl 6 rfl) ?_
                refine zr_if_ne (tgt := 127) hx hb dX4_flag_118 (by decide) (by omega) (fun c_47 => ?_) (fun c_47 => ?_)
                · refine zr_iconst hx hb dX4_flag_127 ?_
                  refine zr_iadd hx hb dX4_flag_128 ?_
                  refine zr_iast (x := (G (zh_mp p0 p1).toNat) + 0) hx hb hK hP hD hS 3 2 rfl rfl (by decide) (by omega) dX4_flag_129 (fun H locs hP hD hS => ?_)
                  have hF_48 : zi_By (zi_up G (zh_mp p0 p1).toNat ((G (zh_mp p0 p1).toNat) + 0)) := zi_up_By hG _ (by omega)
                  have hP : va_P D vwCl [(x, .inr (5, [.int (zi_n 0), .ref a, .int (zi_n n), .int (zi_n rd), .int (zi_n br), .ref a2, .ref a3, .int (zi_n v), .int (zi_n ln)])), (a, .inl (cA, 600, .inl (zi_F F))), (a2, .inl (cB, 600, .inl (zi_F P))), (a3, .inl (cC, 600, .inl (zi_F (zi_up G (zh_mp p0 p1).toNat ((G (zh_mp p0 p1).toNat) + 0)))))] H := hP
                  have hD : va_D A [(x, .inr (5, [.int (zi_n 0), .ref a, .int (zi_n n), .int (zi_n rd), .int (zi_n br), .ref a2, .ref a3, .int (zi_n v), .int (zi_n ln)])), (a, .inl (cA, 600, .inl (zi_F F))), (a2, .inl (cB, 600, .inl (zi_F P))), (a3, .inl (cC, 600, .inl (zi_F (zi_up G (zh_mp p0 p1).toNat ((G (zh_mp p0 p1).toNat) + 0)))))] := hD
                  refine lv_iload hx hb dX4_flag_130 (lv_at hl 1 rfl) ?_
                  have e_n_49_0 : zh_qflG G rd v p0 p1 p2 p3 = zi_up G (zh_mp p0 p1).toNat ((G (zh_mp p0 p1).toNat) + 0) := by unfold zh_qflG; rw [zh_if_t ⟨by omega, hif, hmy⟩]; unfold zh_qflV; first | (rw [if_pos (by omega)]; done) | (rw [if_neg (by omega), if_pos (by omega)]; done) | (rw [if_neg (by omega), if_neg (by omega)]; done)
                  have hP9 : va_P D vwCl [(x, .inr (5, [.int (zi_n 0), .ref a, .int (zi_n n), .int (zi_n rd), .int (zi_n br), .ref a2, .ref a3, .int (zi_n v), .int (zi_n ln)])), (a, .inl (cA, 600, .inl (zi_F F))), (a2, .inl (cB, 600, .inl (zi_F P))), (a3, .inl (cC, 600, .inl (zi_F (zh_qflG G rd v p0 p1 p2 p3))))] H := by rw [e_n_49_0]; exact hP
                  have hD9 : va_D A [(x, .inr (5, [.int (zi_n 0), .ref a, .int (zi_n n), .int (zi_n rd), .int (zi_n br), .ref a2, .ref a3, .int (zi_n v), .int (zi_n ln)])), (a, .inl (cA, 600, .inl (zi_F F))), (a2, .inl (cB, 600, .inl (zi_F P))), (a3, .inl (cC, 600, .inl (zi_F (zh_qflG G rd v p0 p1 p2 p3))))] := by rw [e_n_49_0]; exact hD
                  exact W.iret (v := zi_n (zh_qon G rd p0 p1)) hx hb hr (fun t ht hW => ⟨⟨zi_n (zh_qon G rd p0 p1), (), rfl, zl_r (by unfold zh_qfl; rw [if_neg (by omega), zh_if_t hif, zh_if_t hmy]; exact ho9.symm) (by omega), by rw [ht]; exact hP9, va_K.moved hW.alike hK, hD9⟩, hS.F ht⟩) hS.2.2 dX4_flag_132
                · refine lv_iload hx hb dX4_flag_121 (lv_at hl 0 rfl) ?_
                  refine zr_ineg hx hb dX4_flag_123 ?_
                  refine lv_goto (tgt := 128) hx hb dX4_flag_124 (by decide) ?_
                  refine zr_iadd hx hb dX4_flag_128 ?_
                  refine zr_iast (x := (G (zh_mp p0 p1).toNat) + (-(zh_pw (p1 % 8)))) hx hb hK hP hD hS 3 2 rfl rfl (by decide) (by omega) dX4_flag_129 (fun H locs hP hD hS => ?_)
                  have hF_50 : zi_By (zi_up G (zh_mp p0 p1).toNat ((G (zh_mp p0 p1).toNat) + (-(zh_pw (p1 % 8))))) := zi_up_By hG _ (by omega)
                  have hP : va_P D vwCl [(x, .inr (5, [.int (zi_n 0), .ref a, .int (zi_n n), .int (zi_n rd), .int (zi_n br), .ref a2, .ref a3, .int (zi_n v), .int (zi_n ln)])), (a, .inl (cA, 600, .inl (zi_F F))), (a2, .inl (cB, 600, .inl (zi_F P))), (a3, .inl (cC, 600, .inl (zi_F (zi_up G (zh_mp p0 p1).toNat ((G (zh_mp p0 p1).toNat) + (-(zh_pw (p1 % 8))))))))] H := hP
                  have hD : va_D A [(x, .inr (5, [.int (zi_n 0), .ref a, .int (zi_n n), .int (zi_n rd), .int (zi_n br), .ref a2, .ref a3, .int (zi_n v), .int (zi_n ln)])), (a, .inl (cA, 600, .inl (zi_F F))), (a2, .inl (cB, 600, .inl (zi_F P))), (a3, .inl (cC, 600, .inl (zi_F (zi_up G (zh_mp p0 p1).toNat ((G (zh_mp p0 p1).toNat) + (-(zh_pw (p1 % 8))))))))] := hD
                  refine lv_iload hx hb dX4_flag_130 (lv_at hl 1 rfl) ?_
                  have e_n_51_0 : zh_qflG G rd v p0 p1 p2 p3 = zi_up G (zh_mp p0 p1).toNat ((G (zh_mp p0 p1).toNat) + (-(zh_pw (p1 % 8)))) := by unfold zh_qflG; rw [zh_if_t ⟨by omega, hif, hmy⟩]; unfold zh_qflV; first | (rw [if_pos (by omega)]; done) | (rw [if_neg (by omega), if_pos (by omega)]; done) | (rw [if_neg (by omega), if_neg (by omega)]; done)
                  have hP9 : va_P D vwCl [(x, .inr (5, [.int (zi_n 0), .ref a, .int (zi_n n), .int (zi_n rd), .int (zi_n br), .ref a2, .ref a3, .int (zi_n v), .int (zi_n ln)])), (a, .inl (cA, 600, .inl (zi_F F))), (a2, .inl (cB, 600, .inl (zi_F P))), (a3, .inl (cC, 600, .inl (zi_F (zh_qflG G rd v p0 p1 p2 p3))))] H := by rw [e_n_51_0]; exact hP
                  have hD9 : va_D A [(x, .inr (5, [.int (zi_n 0), .ref a, .int (zi_n n), .int (zi_n rd), .int (zi_n br), .ref a2, .ref a3, .int (zi_n v), .int (zi_n ln)])), (a, .inl (cA, 600, .inl (zi_F F))), (a2, .inl (cB, 600, .inl (zi_F P))), (a3, .inl (cC, 600, .inl (zi_F (zh_qflG G rd v p0 p1 p2 p3))))] := by rw [e_n_51_0]; exact hD
                  exact W.iret (v := zi_n (zh_qon G rd p0 p1)) hx hb hr (fun t ht hW => ⟨⟨zi_n (zh_qon G rd p0 p1), (), rfl, zl_r (by unfold zh_qfl; rw [if_neg (by omega), zh_if_t hif, zh_if_t hmy]; exact ho9.symm) (by omega), by rw [ht]; exact hP9, va_K.moved hW.alike hK, hD9⟩, hS.F ht⟩) hS.2.2 dX4_flag_132
            · refine lv_iload_n hx hb dX4_flag_102 rfl (lv_at hl 6 rfl) ?_
              refine zr_if_eq (tgt := 111) hx hb dX4_flag_103 (by decide) (by omega) (fun c_52 => ?_) (fun c_52 => ?_)
              · refine lv_iload hx hb dX4_flag_111 (lv_at hl 1 rfl) ?_
                refine zr_iconst hx hb dX4_flag_113 ?_
                refine zr_icmp_ne (tgt := 127) hx hb dX4_flag_114 (by decide) (by omega) (by omega) (fun c_53 => ?_) (fun c_53 => ?_)
                · refine zr_iconst hx hb dX4_flag_127 ?_
                  refine zr_iadd hx hb dX4_flag_128 ?_
                  refine zr_iast (x := (G (zh_mp p0 p1).toNat) + 0) hx hb hK hP hD hS 3 2 rfl rfl (by decide) (by omega) dX4_flag_129 (fun H locs hP hD hS => ?_)
                  have hF_54 : zi_By (zi_up G (zh_mp p0 p1).toNat ((G (zh_mp p0 p1).toNat) + 0)) := zi_up_By hG _ (by omega)
                  have hP : va_P D vwCl [(x, .inr (5, [.int (zi_n 0), .ref a, .int (zi_n n), .int (zi_n rd), .int (zi_n br), .ref a2, .ref a3, .int (zi_n v), .int (zi_n ln)])), (a, .inl (cA, 600, .inl (zi_F F))), (a2, .inl (cB, 600, .inl (zi_F P))), (a3, .inl (cC, 600, .inl (zi_F (zi_up G (zh_mp p0 p1).toNat ((G (zh_mp p0 p1).toNat) + 0)))))] H := hP
                  have hD : va_D A [(x, .inr (5, [.int (zi_n 0), .ref a, .int (zi_n n), .int (zi_n rd), .int (zi_n br), .ref a2, .ref a3, .int (zi_n v), .int (zi_n ln)])), (a, .inl (cA, 600, .inl (zi_F F))), (a2, .inl (cB, 600, .inl (zi_F P))), (a3, .inl (cC, 600, .inl (zi_F (zi_up G (zh_mp p0 p1).toNat ((G (zh_mp p0 p1).toNat) + 0)))))] := hD
                  refine lv_iload hx hb dX4_flag_130 (lv_at hl 1 rfl) ?_
                  have e_n_55_0 : zh_qflG G rd v p0 p1 p2 p3 = zi_up G (zh_mp p0 p1).toNat ((G (zh_mp p0 p1).toNat) + 0) := by unfold zh_qflG; rw [zh_if_t ⟨by omega, hif, hmy⟩]; unfold zh_qflV; first | (rw [if_pos (by omega)]; done) | (rw [if_neg (by omega), if_pos (by omega)]; done) | (rw [if_neg (by omega), if_neg (by omega)]; done)
                  have hP9 : va_P D vwCl [(x, .inr (5, [.int (zi_n 0), .ref a, .int (zi_n n), .int (zi_n rd), .int (zi_n br), .ref a2, .ref a3, .int (zi_n v), .int (zi_n ln)])), (a, .inl (cA, 600, .inl (zi_F F))), (a2, .inl (cB, 600, .inl (zi_F P))), (a3, .inl (cC, 600, .inl (zi_F (zh_qflG G rd v p0 p1 p2 p3))))] H := by rw [e_n_55_0]; exact hP
                  have hD9 : va_D A [(x, .inr (5, [.int (zi_n 0), .ref a, .int (zi_n n), .int (zi_n rd), .int (zi_n br), .ref a2, .ref a3, .int (zi_n v), .int (zi_n ln)])), (a, .inl (cA, 600, .inl (zi_F F))), (a2, .inl (cB, 600, .inl (zi_F P))), (a3, .inl (cC, 600, .inl (zi_F (zh_qflG G rd v p0 p1 p2 p3))))] := by rw [e_n_55_0]; exact hD
                  exact W.iret (v := zi_n (zh_qon G rd p0 p1)) hx hb hr (fun t ht hW => ⟨⟨zi_n (zh_qon G rd p0 p1), (), rfl, zl_r (by unfold zh_qfl; rw [if_neg (by omega), zh_if_t hif, zh_if_t hmy]; exact ho9.symm) (by omega), by rw [ht]; exact hP9, va_K.moved hW.alike hK, hD9⟩, hS.F ht⟩) hS.2.2 dX4_flag_132
                · refine lv_iload_n hx hb dX4_flag_117 rfl (lv_at hl 6 rfl) ?_
                  refine zr_if_ne (tgt := 127) hx hb dX4_flag_118 (by decide) (by omega) (fun c_56 => ?_) (fun c_56 => ?_)
                  · refine zr_iconst hx hb dX4_flag_127 ?_
                    refine zr_iadd hx hb dX4_flag_128 ?_
                    refine zr_iast (x := (G (zh_mp p0 p1).toNat) + 0) hx hb hK hP hD hS 3 2 rfl rfl (by decide) (by omega) dX4_flag_129 (fun H locs hP hD hS => ?_)
                    have hF_57 : zi_By (zi_up G (zh_mp p0 p1).toNat ((G (zh_mp p0 p1).toNat) + 0)) := zi_up_By hG _ (by omega)
                    have hP : va_P D vwCl [(x, .inr (5, [.int (zi_n 0), .ref a, .int (zi_n n), .int (zi_n rd), .int (zi_n br), .ref a2, .ref a3, .int (zi_n v), .int (zi_n ln)])), (a, .inl (cA, 600, .inl (zi_F F))), (a2, .inl (cB, 600, .inl (zi_F P))), (a3, .inl (cC, 600, .inl (zi_F (zi_up G (zh_mp p0 p1).toNat ((G (zh_mp p0 p1).toNat) + 0)))))] H := hP
                    have hD : va_D A [(x, .inr (5, [.int (zi_n 0), .ref a, .int (zi_n n), .int (zi_n rd), .int (zi_n br), .ref a2, .ref a3, .int (zi_n v), .int (zi_n ln)])), (a, .inl (cA, 600, .inl (zi_F F))), (a2, .inl (cB, 600, .inl (zi_F P))), (a3, .inl (cC, 600, .inl (zi_F (zi_up G (zh_mp p0 p1).toNat ((G (zh_mp p0 p1).toNat) + 0)))))] := hD
                    refine lv_iload hx hb dX4_flag_130 (lv_at hl 1 rfl) ?_
                    have e_n_58_0 : zh_qflG G rd v p0 p1 p2 p3 = zi_up G (zh_mp p0 p1).toNat ((G (zh_mp p0 p1).toNat) + 0) := by unfold zh_qflG; rw [zh_if_t ⟨by omega, hif, hmy⟩]; unfold zh_qflV; first | (rw [if_pos (by omega)]; done) | (rw [if_neg (by omega), if_pos (by omega)]; done) | (rw [if_neg (by omega), if_neg (by omega)]; done)
                    have hP9 : va_P D vwCl [(x, .inr (5, [.int (zi_n 0), .ref a, .int (zi_n n), .int (zi_n rd), .int (zi_n br), .ref a2, .ref a3, .int (zi_n v), .int (zi_n ln)])), (a, .inl (cA, 600, .inl (zi_F F))), (a2, .inl (cB, 600, .inl (zi_F P))), (a3, .inl (cC, 600, .inl (zi_F (zh_qflG G rd v p0 p1 p2 p3))))] H := by rw [e_n_58_0]; exact hP
                    have hD9 : va_D A [(x, .inr (5, [.int (zi_n 0), .ref a, .int (zi_n n), .int (zi_n rd), .int (zi_n br), .ref a2, .ref a3, .int (zi_n v), .int (zi_n ln)])), (a, .inl (cA, 600, .inl (zi_F F))), (a2, .inl (cB, 600, .inl (zi_F P))), (a3, .inl (cC, 600, .inl (zi_F (zh_qflG G rd v p0 p1 p2 p3))))] := by rw [e_n_58_0]; exact hD
                    exact W.iret (v := zi_n (zh_qon G rd p0 p1)) hx hb hr (fun t ht hW => ⟨⟨zi_n (zh_qon G rd p0 p1), (), rfl, zl_r (by unfold zh_qfl; rw [if_neg (by omega), zh_if_t hif, zh_if_t hmy]; exact ho9.symm) (by omega), by rw [ht]; exact hP9, va_K.moved hW.alike hK, hD9⟩, hS.F ht⟩) hS.2.2 dX4_flag_132
                  · refine lv_iload hx hb dX4_flag_121 (lv_at hl 0 rfl) ?_
                    refine zr_ineg hx hb dX4_flag_123 ?_
                    refine lv_goto (tgt := 128) hx hb dX4_flag_124 (by decide) ?_
                    refine zr_iadd hx hb dX4_flag_128 ?_
                    refine zr_iast (x := (G (zh_mp p0 p1).toNat) + (-(zh_pw (p1 % 8)))) hx hb hK hP hD hS 3 2 rfl rfl (by decide) (by omega) dX4_flag_129 (fun H locs hP hD hS => ?_)
                    have hF_59 : zi_By (zi_up G (zh_mp p0 p1).toNat ((G (zh_mp p0 p1).toNat) + (-(zh_pw (p1 % 8))))) := zi_up_By hG _ (by omega)
                    have hP : va_P D vwCl [(x, .inr (5, [.int (zi_n 0), .ref a, .int (zi_n n), .int (zi_n rd), .int (zi_n br), .ref a2, .ref a3, .int (zi_n v), .int (zi_n ln)])), (a, .inl (cA, 600, .inl (zi_F F))), (a2, .inl (cB, 600, .inl (zi_F P))), (a3, .inl (cC, 600, .inl (zi_F (zi_up G (zh_mp p0 p1).toNat ((G (zh_mp p0 p1).toNat) + (-(zh_pw (p1 % 8))))))))] H := hP
                    have hD : va_D A [(x, .inr (5, [.int (zi_n 0), .ref a, .int (zi_n n), .int (zi_n rd), .int (zi_n br), .ref a2, .ref a3, .int (zi_n v), .int (zi_n ln)])), (a, .inl (cA, 600, .inl (zi_F F))), (a2, .inl (cB, 600, .inl (zi_F P))), (a3, .inl (cC, 600, .inl (zi_F (zi_up G (zh_mp p0 p1).toNat ((G (zh_mp p0 p1).toNat) + (-(zh_pw (p1 % 8))))))))] := hD
                    refine lv_iload hx hb dX4_flag_130 (lv_at hl 1 rfl) ?_
                    have e_n_60_0 : zh_qflG G rd v p0 p1 p2 p3 = zi_up G (zh_mp p0 p1).toNat ((G (zh_mp p0 p1).toNat) + (-(zh_pw (p1 % 8)))) := by unfold zh_qflG; rw [zh_if_t ⟨by omega, hif, hmy⟩]; unfold zh_qflV; first | (rw [if_pos (by omega)]; done) | (rw [if_neg (by omega), if_pos (by omega)]; done) | (rw [if_neg (by omega), if_neg (by omega)]; done)
                    have hP9 : va_P D vwCl [(x, .inr (5, [.int (zi_n 0), .ref a, .int (zi_n n), .int (zi_n rd), .int (zi_n br), .ref a2, .ref a3, .int (zi_n v), .int (zi_n ln)])), (a, .inl (cA, 600, .inl (zi_F F))), (a2, .inl (cB, 600, .inl (zi_F P))), (a3, .inl (cC, 600, .inl (zi_F (zh_qflG G rd v p0 p1 p2 p3))))] H := by rw [e_n_60_0]; exact hP
                    have hD9 : va_D A [(x, .inr (5, [.int (zi_n 0), .ref a, .int (zi_n n), .int (zi_n rd), .int (zi_n br), .ref a2, .ref a3, .int (zi_n v), .int (zi_n ln)])), (a, .inl (cA, 600, .inl (zi_F F))), (a2, .inl (cB, 600, .inl (zi_F P))), (a3, .inl (cC, 600, .inl (zi_F (zh_qflG G rd v p0 p1 p2 p3))))] := by rw [e_n_60_0]; exact hD
                    exact W.iret (v := zi_n (zh_qon G rd p0 p1)) hx hb hr (fun t ht hW => ⟨⟨zi_n (zh_qon G rd p0 p1), (), rfl, zl_r (by unfold zh_qfl; rw [if_neg (by omega), zh_if_t hif, zh_if_t hmy]; exact ho9.symm) (by omega), by rw [ht]; exact hP9, va_K.moved hW.alike hK, hD9⟩, hS.F ht⟩) hS.2.2 dX4_flag_132
              · refine lv_iload hx hb dX4_flag_106 (lv_at hl 0 rfl) ?_
                refine lv_goto (tgt := 128) hx hb dX4_flag_108 (by decide) ?_
                refine zr_iadd hx hb dX4_flag_128 ?_
                refine zr_iast (x := (G (zh_mp p0 p1).toNat) + (zh_pw (p1 % 8))) hx hb hK hP hD hS 3 2 rfl rfl (by decide) (by omega) dX4_flag_129 (fun H locs hP hD hS => ?_)
                have hF_61 : zi_By (zi_up G (zh_mp p0 p1).toNat ((G (zh_mp p0 p1).toNat) + (zh_pw (p1 % 8)))) := zi_up_By hG _ (by omega)
                have hP : va_P D vwCl [(x, .inr (5, [.int (zi_n 0), .ref a, .int (zi_n n), .int (zi_n rd), .int (zi_n br), .ref a2, .ref a3, .int (zi_n v), .int (zi_n ln)])), (a, .inl (cA, 600, .inl (zi_F F))), (a2, .inl (cB, 600, .inl (zi_F P))), (a3, .inl (cC, 600, .inl (zi_F (zi_up G (zh_mp p0 p1).toNat ((G (zh_mp p0 p1).toNat) + (zh_pw (p1 % 8)))))))] H := hP
                have hD : va_D A [(x, .inr (5, [.int (zi_n 0), .ref a, .int (zi_n n), .int (zi_n rd), .int (zi_n br), .ref a2, .ref a3, .int (zi_n v), .int (zi_n ln)])), (a, .inl (cA, 600, .inl (zi_F F))), (a2, .inl (cB, 600, .inl (zi_F P))), (a3, .inl (cC, 600, .inl (zi_F (zi_up G (zh_mp p0 p1).toNat ((G (zh_mp p0 p1).toNat) + (zh_pw (p1 % 8)))))))] := hD
                refine lv_iload hx hb dX4_flag_130 (lv_at hl 1 rfl) ?_
                have e_n_62_0 : zh_qflG G rd v p0 p1 p2 p3 = zi_up G (zh_mp p0 p1).toNat ((G (zh_mp p0 p1).toNat) + (zh_pw (p1 % 8))) := by unfold zh_qflG; rw [zh_if_t ⟨by omega, hif, hmy⟩]; unfold zh_qflV; first | (rw [if_pos (by omega)]; done) | (rw [if_neg (by omega), if_pos (by omega)]; done) | (rw [if_neg (by omega), if_neg (by omega)]; done)
                have hP9 : va_P D vwCl [(x, .inr (5, [.int (zi_n 0), .ref a, .int (zi_n n), .int (zi_n rd), .int (zi_n br), .ref a2, .ref a3, .int (zi_n v), .int (zi_n ln)])), (a, .inl (cA, 600, .inl (zi_F F))), (a2, .inl (cB, 600, .inl (zi_F P))), (a3, .inl (cC, 600, .inl (zi_F (zh_qflG G rd v p0 p1 p2 p3))))] H := by rw [e_n_62_0]; exact hP
                have hD9 : va_D A [(x, .inr (5, [.int (zi_n 0), .ref a, .int (zi_n n), .int (zi_n rd), .int (zi_n br), .ref a2, .ref a3, .int (zi_n v), .int (zi_n ln)])), (a, .inl (cA, 600, .inl (zi_F F))), (a2, .inl (cB, 600, .inl (zi_F P))), (a3, .inl (cC, 600, .inl (zi_F (zh_qflG G rd v p0 p1 p2 p3))))] := by rw [e_n_62_0]; exact hD
                exact W.iret (v := zi_n (zh_qon G rd p0 p1)) hx hb hr (fun t ht hW => ⟨⟨zi_n (zh_qon G rd p0 p1), (), rfl, zl_r (by unfold zh_qfl; rw [if_neg (by omega), zh_if_t hif, zh_if_t hmy]; exact ho9.symm) (by omega), by rw [ht]; exact hP9, va_K.moved hW.alike hK, hD9⟩, hS.F ht⟩) hS.2.2 dX4_flag_132
          · refine zr_if_eq (tgt := 48) hx hb dX4_flag_41 (by decide) (by omega) (fun c_63 => ?_) (fun c => absurd c (by decide))
            refine zr_iconst hx hb dX4_flag_48 ?_
            refine lv_goto (tgt := 60) hx hb dX4_flag_49 (by decide) ?_
            refine lv_istore (lv' := [(5, .int (zi_n 0)), (0, .ref x), (1, .int (zi_n p0)), (2, .int (zi_n p1)), (3, .int (zi_n p2)), (4, .int (zi_n p3))]) hx hb dX4_flag_60 hl (by decide) rfl (fun ls hl => ?_)
            have hmn : ¬ zh_qmay v p0 p1 p2 p3 := by unfold zh_qmay; intro h; exact c_36 (h.1 (by omega)).2
            refine lv_iload hx hb dX4_flag_62 (lv_at hl 0 rfl) ?_
            refine zr_if_ne (tgt := 70) hx hb dX4_flag_64 (by decide) (by omega) (fun c => absurd c (by decide)) (fun c_64 => ?_)
            refine zr_bipush hx hb dX4_flag_67 (by decide) ?_
            have e_n_65_0 : zh_qflG G rd v p0 p1 p2 p3 = G := by unfold zh_qflG; exact zh_if_f (fun h => hmn h.2.2) _ _
            have hP9 : va_P D vwCl [(x, .inr (5, [.int (zi_n 0), .ref a, .int (zi_n n), .int (zi_n rd), .int (zi_n br), .ref a2, .ref a3, .int (zi_n v), .int (zi_n ln)])), (a, .inl (cA, 600, .inl (zi_F F))), (a2, .inl (cB, 600, .inl (zi_F P))), (a3, .inl (cC, 600, .inl (zi_F (zh_qflG G rd v p0 p1 p2 p3))))] H := by rw [e_n_65_0]; exact hP
            have hD9 : va_D A [(x, .inr (5, [.int (zi_n 0), .ref a, .int (zi_n n), .int (zi_n rd), .int (zi_n br), .ref a2, .ref a3, .int (zi_n v), .int (zi_n ln)])), (a, .inl (cA, 600, .inl (zi_F F))), (a2, .inl (cB, 600, .inl (zi_F P))), (a3, .inl (cC, 600, .inl (zi_F (zh_qflG G rd v p0 p1 p2 p3))))] := by rw [e_n_65_0]; exact hD
            exact W.iret (v := zi_n (-13)) hx hb hr (fun t ht hW => ⟨⟨zi_n (-13), (), rfl, zl_r (by unfold zh_qfl; rw [if_neg (by omega), zh_if_t hif, zh_if_f hmn]) (by omega), by rw [ht]; exact hP9, va_K.moved hW.alike hK, hD9⟩, hS.F ht⟩) hS.2.2 dX4_flag_69
    · unfold zh_isF at c_2
      refine zr_if_ne (tgt := 26) hx hb dX4_flag_20 (by decide) (by omega) (fun c => absurd c (by decide)) (fun c_66 => ?_)
      refine zr_bipush hx hb dX4_flag_23 (by decide) ?_
      have e_n_67_0 : zh_qflG G rd v p0 p1 p2 p3 = G := by unfold zh_qflG; exact zh_if_f (by intro h; have := h.2.1; unfold zh_isF at this; omega) _ _
      have hP9 : va_P D vwCl [(x, .inr (5, [.int (zi_n 0), .ref a, .int (zi_n n), .int (zi_n rd), .int (zi_n br), .ref a2, .ref a3, .int (zi_n v), .int (zi_n ln)])), (a, .inl (cA, 600, .inl (zi_F F))), (a2, .inl (cB, 600, .inl (zi_F P))), (a3, .inl (cC, 600, .inl (zi_F (zh_qflG G rd v p0 p1 p2 p3))))] H := by rw [e_n_67_0]; exact hP
      have hD9 : va_D A [(x, .inr (5, [.int (zi_n 0), .ref a, .int (zi_n n), .int (zi_n rd), .int (zi_n br), .ref a2, .ref a3, .int (zi_n v), .int (zi_n ln)])), (a, .inl (cA, 600, .inl (zi_F F))), (a2, .inl (cB, 600, .inl (zi_F P))), (a3, .inl (cC, 600, .inl (zi_F (zh_qflG G rd v p0 p1 p2 p3))))] := by rw [e_n_67_0]; exact hD
      exact W.iret (v := zi_n (-12)) hx hb hr (fun t ht hW => ⟨⟨zi_n (-12), (), rfl, zl_r (by unfold zh_qfl; rw [if_neg (by omega), zh_if_f (by unfold zh_isF; omega)]) (by omega), by rw [ht]; exact hP9, va_K.moved hW.alike hK, hD9⟩, hS.F ht⟩) hS.2.2 dX4_flag_25
  · refine zr_bipush hx hb dX4_flag_12 (by decide) ?_
    have e_n_68_0 : zh_qflG G rd v p0 p1 p2 p3 = G := by unfold zh_qflG; exact zh_if_f (by intro h; omega) _ _
    have hP9 : va_P D vwCl [(x, .inr (5, [.int (zi_n 0), .ref a, .int (zi_n n), .int (zi_n rd), .int (zi_n br), .ref a2, .ref a3, .int (zi_n v), .int (zi_n ln)])), (a, .inl (cA, 600, .inl (zi_F F))), (a2, .inl (cB, 600, .inl (zi_F P))), (a3, .inl (cC, 600, .inl (zi_F (zh_qflG G rd v p0 p1 p2 p3))))] H := by rw [e_n_68_0]; exact hP
    have hD9 : va_D A [(x, .inr (5, [.int (zi_n 0), .ref a, .int (zi_n n), .int (zi_n rd), .int (zi_n br), .ref a2, .ref a3, .int (zi_n v), .int (zi_n ln)])), (a, .inl (cA, 600, .inl (zi_F F))), (a2, .inl (cB, 600, .inl (zi_F P))), (a3, .inl (cC, 600, .inl (zi_F (zh_qflG G rd v p0 p1 p2 p3))))] := by rw [e_n_68_0]; exact hD
    exact W.iret (v := zi_n (-11)) hx hb hr (fun t ht hW => ⟨⟨zi_n (-11), (), rfl, zl_r (by unfold zh_qfl; exact if_pos (by omega)) (by omega), by rw [ht]; exact hP9, va_K.moved hW.alike hK, hD9⟩, hS.F ht⟩) hS.2.2 dX4_flag_14

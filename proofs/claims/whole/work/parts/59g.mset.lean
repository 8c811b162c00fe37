theorem in_X4_set_X4 : ∀ w ∈ u_ws RX4 TX4 9, w ∈ wsX4_set := by decide +kernel
set_option maxHeartbeats 4000000 in
set_option maxRecDepth 100000 in
theorem c_M_set (l : Launch) (D : va_G) (x a a2 a3 : Nat) (cA cB cC : ClassId) (F P G : Nat → Int) (n rd br v ln ft : Int) (hF : zi_By F) (hn : 0 ≤ n ∧ n ≤ 600) (hP0 : zi_By P) (hG : zi_By G) (hrd : rd = 0 ∨ rd = 1) (hbr : 0 ≤ br ∧ br ≤ 15) (hv0 : 0 ≤ v ∧ v ≤ 255) (hln : 0 ≤ ln ∧ ln ≤ 524280) (hft : 0 ≤ ft ∧ ft ≤ 1) (sz : Nat) (p0 : Int) (p1 : Int) (hR : rd = 1 → 64 ≤ n ∧ v = F 0 ∧ ln = zh_len F n ∧ (1 ≤ F 0 ∧ F 0 ≤ 8) ∧ (64 ≤ ln ∧ ln ≤ n) ∧ (64 ≤ zh_t F 14 ∧ zh_t F 14 ≤ ln) ∧ (64 ≤ zh_t F 12 ∧ zh_t F 12 + 480 ≤ zh_t F 14) ∧ (64 ≤ zh_t F 8 ∧ zh_t F 8 + F (zh_t F 8).toNat + 3 < n)) (rp0 : zi_R p0) (rp1 : zi_R p1) : Met l yX4_set wsX4_set ({ frames := 1, cells := 0, slots := 0, locals := 22 }) (va_Pc [.ref x, .int (zi_n p0), .int (zi_n p1)] (zp_P D vwCl sz [(x, .inr (5, [.int (zi_n ft), .ref a, .int (zi_n n), .int (zi_n rd), .int (zi_n br), .ref a2, .ref a3, .int (zi_n v), .int (zi_n ln)])), (a, .inl (cA, 600, .inl (zi_F F))), (a2, .inl (cB, 600, .inl (zi_F P))), (a3, .inl (cC, 600, .inl (zi_F G)))] [(cA, .int), (cB, .int), (cC, .int)])) (va_Qi (fun (r : Int32) (_ : Unit) => r = zi_n (zh_seE F G n rd p0 p1) ∧ -13 ≤ (zh_seE F G n rd p0 p1) ∧ (zh_seE F G n rd p0 p1) ≤ 65535) (fun (_ : Unit) => zp_B D vwCl [(cA, .int), (cB, .int), (cC, .int)] (va_A [(x, .inr (5, [.int (zi_n ft), .ref a, .int (zi_n n), .int (zi_n rd), .int (zi_n br), .ref a2, .ref a3, .int (zi_n v), .int (zi_n ln)])), (a, .inl (cA, 600, .inl (zi_F F))), (a2, .inl (cB, 600, .inl (zi_F P))), (a3, .inl (cC, 600, .inl (zi_F G)))] sz) [(x, .inr (5, [.int (zi_n 0), .ref a, .int (zi_n n), .int (zi_n rd), .int (zi_n br), .ref a2, .ref a3, .int (zi_n v), .int (zi_n ln)])), (a, .inl (cA, 600, .inl (zi_F F))), (a2, .inl (cB, 600, .inl (zi_F P))), (a3, .inl (cC, 600, .inl (zi_F (zh_seG F G n rd p0 p1))))]) (va_A [(x, .inr (5, [.int (zi_n ft), .ref a, .int (zi_n n), .int (zi_n rd), .int (zi_n br), .ref a2, .ref a3, .int (zi_n v), .int (zi_n ln)])), (a, .inl (cA, 600, .inl (zi_F F))), (a2, .inl (cB, 600, .inl (zi_F P))), (a3, .inl (cC, 600, .inl (zi_F G)))] sz)) 0 0 (va_A [(x, .inr (5, [.int (zi_n ft), .ref a, .int (zi_n n), .int (zi_n rd), .int (zi_n br), .ref a2, .ref a3, .int (zi_n v), .int (zi_n ln)])), (a, .inl (cA, 600, .inl (zi_F F))), (a2, .inl (cB, 600, .inl (zi_F P))), (a3, .inl (cC, 600, .inl (zi_F G)))] sz) := by
  refine Met.ofW (cc := cX4_set) (maxL := 5) (ret := (some .int)) (by decide) rfl ?_
  intro p e s m args below meth c s₁ B hml hv
  obtain ⟨rfl, hsz, hP, hK, hD0⟩ := hv
  have hx := B.exec
  have hb := B.bytes
  have hr := B.returns
  have hts := atoms_spec (ws := wsX4_set) B.pre
  have hown : s.vm.findClass RX4 = some m.cls := findClass_of_methodNamed B.named
  have hlocks := B.notSynchronized
  subst hsz
  have hD := hD0.self (sz := s.heap.size)
  generalize hAe : va_A [(x, .inr (5, [.int (zi_n ft), .ref a, .int (zi_n n), .int (zi_n rd), .int (zi_n br), .ref a2, .ref a3, .int (zi_n v), .int (zi_n ln)])), (a, .inl (cA, 600, .inl (zi_F F))), (a2, .inl (cB, 600, .inl (zi_F P))), (a3, .inl (cC, 600, .inl (zi_F G)))] s.heap.size = A at hD ⊢
  have hA : ∀ q : Nat, s.heap.size ≤ q → A q := fun q h => by rw [← hAe]; exact Or.inr h
  have hS : va_S A s.heap s.heap [] := va_S.rf
  have hP : va_P D vwCl [(x, .inr (5, [.int (zi_n ft), .ref a, .int (zi_n n), .int (zi_n rd), .int (zi_n br), .ref a2, .ref a3, .int (zi_n v), .int (zi_n ln)])), (a, .inl (cA, 600, .inl (zi_F F))), (a2, .inl (cB, 600, .inl (zi_F P))), (a3, .inl (cC, 600, .inl (zi_F G)))] s.heap := hP
  have hl := lv_entry ([.ref x, .int (zi_n p0), .int (zi_n p1)]) (n := 5) (Nat.le_of_ble_eq_true rfl)
  rw [lg_entry_eq]
  generalize (lg_sl ([.ref x, .int (zi_n p0), .int (zi_n p1)]) ++ List.replicate (5 - (lg_sl ([.ref x, .int (zi_n p0), .int (zi_n p1)])).length) Slot.unset).toArray = ls at hl ⊢
  have hl : lv_has ls 5 [(0, .ref x), (1, .int (zi_n p0)), (2, .int (zi_n p1))] := hl
  refine lv_aload_n hx hb dX4_set_0 rfl (lv_at hl 0 rfl) ?_
  refine zr_iconst hx hb dX4_set_1 ?_
  refine va_put (D := D) (ci := 5) (v := .int (zi_n 0)) (ty := .int) (C := RX4) (T := TX4) (N := 9) hx hb hts in_X4_set_X4 tyX4 tyX4_ok nmX4 hown hK hP hD hS 0 rfl rfl 0 (by decide) (hts (.fieldLink RX4 19 "ZHeadsModel" "fault" "I") (by decide +kernel)) (fun _ h9 => h9) rfl (by decide +kernel) rfl rfl (Nat.le_of_ble_eq_true rfl) dX4_set_2 (fun H locs hP hD hS => ?_)
  have hP : va_P D vwCl [(x, .inr (5, [.int (zi_n 0), .ref a, .int (zi_n n), .int (zi_n rd), .int (zi_n br), .ref a2, .ref a3, .int (zi_n v), .int (zi_n ln)])), (a, .inl (cA, 600, .inl (zi_F F))), (a2, .inl (cB, 600, .inl (zi_F P))), (a3, .inl (cC, 600, .inl (zi_F G)))] H := hP
  have hD : va_D A [(x, .inr (5, [.int (zi_n 0), .ref a, .int (zi_n n), .int (zi_n rd), .int (zi_n br), .ref a2, .ref a3, .int (zi_n v), .int (zi_n ln)])), (a, .inl (cA, 600, .inl (zi_F F))), (a2, .inl (cB, 600, .inl (zi_F P))), (a3, .inl (cC, 600, .inl (zi_F G)))] := hD
  refine lv_aload_n hx hb dX4_set_5 rfl (lv_at hl 0 rfl) ?_
  refine va_get (D := D) (ci := 5) (v := .int (zi_n rd)) (C := RX4) (T := TX4) (N := 9) hx hb hts in_X4_set_X4 hown hK hP 0 rfl rfl 3 (by decide) (hts (.fieldLink RX4 36 "ZHeadsModel" "isRead" "Z") (by decide +kernel)) (fun _ h9 => h9) rfl dX4_set_6 ?_
  refine zr_if_ne (tgt := 15) hx hb dX4_set_9 (by decide) (by omega) (fun c_1 => ?_) (fun c_1 => ?_)
  · have hR1 := hR (by omega)
    refine lv_iload_n hx hb dX4_set_15 rfl (lv_at hl 1 rfl) ?_
    refine zr_iconst hx hb dX4_set_16 ?_
    refine zr_bipush hx hb dX4_set_17 (by decide) ?_
    refine zc_S (As := [.int (zi_n p0), .int (zi_n 0), .int (zi_n 10)]) (rest := []) ⟨hx, hb, hml, hown, hts⟩ (c_M_in l p0 0 10 (by omega) (by omega) (by omega)) (va_cwS 3 hts gX4_set_X4_in rfl rfl rfl (by decide +kernel) ⟨(Nat.le_of_ble_eq_true rfl), (Nat.le_of_ble_eq_true rfl)⟩) rfl hl.1 rfl (Nat.le_of_ble_eq_true rfl) dX4_set_19 ⟨Nat.zero_le _, Nat.zero_le _⟩ (fun r hr1 => ?_)
    rcases hr1 with ⟨rfl, c_2⟩ | ⟨rfl, c_2⟩
    · refine zr_if_eq (tgt := 48) hx hb dX4_set_22 (by decide) (by omega) (fun c => absurd c (by decide)) (fun c_3 => ?_)
      refine lv_iload_n hx hb dX4_set_25 rfl (lv_at hl 2 rfl) ?_
      refine zr_iconst hx hb dX4_set_26 ?_
      refine lv_iload_n hx hb dX4_set_27 rfl (lv_at hl 1 rfl) ?_
      refine zc_S (As := [.int (zi_n p0)]) (rest := [.int (zi_n 0), .int (zi_n p1)]) ⟨hx, hb, hml, hown, hts⟩ (c_M_isWide l p0 (by omega)) (va_cwS 1 hts gX4_set_X4_isWide rfl rfl rfl (by decide +kernel) ⟨(Nat.le_of_ble_eq_true rfl), (Nat.le_of_ble_eq_true rfl)⟩) rfl hl.1 rfl (Nat.le_of_ble_eq_true rfl) dX4_set_28 ⟨Nat.zero_le _, Nat.zero_le _⟩ (fun r hr1 => ?_)
      rcases hr1 with ⟨rfl, c_4⟩ | ⟨rfl, c_4⟩
      · unfold zh_wide at c_4
        refine zr_if_eq (tgt := 39) hx hb dX4_set_31 (by decide) (by omega) (fun c => absurd c (by decide)) (fun c_5 => ?_)
        refine zr_ldc (n := 65535) hx hb hown (hts (.constant RX4 94 (65535)) (by decide +kernel)) (by decide) dX4_set_34 ?_
        refine lv_goto (tgt := 42) hx hb dX4_set_36 (by decide) ?_
        refine zc_S (As := [.int (zi_n p1), .int (zi_n 0), .int (zi_n 65535)]) (rest := []) ⟨hx, hb, hml, hown, hts⟩ (c_M_in l p1 0 65535 (by omega) (by omega) (by omega)) (va_cwS 3 hts gX4_set_X4_in rfl rfl rfl (by decide +kernel) ⟨(Nat.le_of_ble_eq_true rfl), (Nat.le_of_ble_eq_true rfl)⟩) rfl hl.1 rfl (Nat.le_of_ble_eq_true rfl) dX4_set_42 ⟨Nat.zero_le _, Nat.zero_le _⟩ (fun r hr1 => ?_)
        rcases hr1 with ⟨rfl, c_6⟩ | ⟨rfl, c_6⟩
        · refine zr_if_ne (tgt := 51) hx hb dX4_set_45 (by decide) (by omega) (fun c_7 => ?_) (fun c => absurd c (by decide))
          refine lv_iload_n hx hb dX4_set_51 rfl (lv_at hl 1 rfl) ?_
          refine zr_iconst hx hb dX4_set_52 ?_
          refine zr_icmp_ge (tgt := 64) hx hb dX4_set_53 (by decide) (by omega) (by omega) (fun c_8 => ?_) (fun c_8 => ?_)
          · refine lv_iload_n hx hb dX4_set_64 rfl (lv_at hl 1 rfl) ?_
            refine zr_iconst hx hb dX4_set_65 ?_
            refine zr_bipush hx hb dX4_set_66 (by decide) ?_
            refine zc_S (As := [.int (zi_n p0), .int (zi_n 4), .int (zi_n 9)]) (rest := []) ⟨hx, hb, hml, hown, hts⟩ (c_M_in l p0 4 9 (by omega) (by omega) (by omega)) (va_cwS 3 hts gX4_set_X4_in rfl rfl rfl (by decide +kernel) ⟨(Nat.le_of_ble_eq_true rfl), (Nat.le_of_ble_eq_true rfl)⟩) rfl hl.1 rfl (Nat.le_of_ble_eq_true rfl) dX4_set_68 ⟨Nat.zero_le _, Nat.zero_le _⟩ (fun r hr1 => ?_)
            rcases hr1 with ⟨rfl, c_9⟩ | ⟨rfl, c_9⟩
            · refine zr_if_eq (tgt := 85) hx hb dX4_set_71 (by decide) (by omega) (fun c => absurd c (by decide)) (fun c_10 => ?_)
              refine lv_aload_n hx hb dX4_set_74 rfl (lv_at hl 0 rfl) ?_
              refine va_get (D := D) (ci := 5) (v := .int (zi_n v)) (C := RX4) (T := TX4) (N := 9) hx hb hts in_X4_set_X4 hown hK hP 0 rfl rfl 7 (by decide) (hts (.fieldLink RX4 51 "ZHeadsModel" "version" "I") (by decide +kernel)) (fun _ h9 => h9) rfl dX4_set_75 ?_
              refine zr_iconst hx hb dX4_set_78 ?_
              refine zr_icmp_ge (tgt := 85) hx hb dX4_set_79 (by decide) (by omega) (by omega) (fun c_11 => ?_) (fun c_11 => ?_)
              · have htd : p1.tdiv 256 = p1 / 256 := Int.tdiv_eq_ediv_of_nonneg (by omega)
                refine lv_aload_n hx hb dX4_set_85 rfl (lv_at hl 0 rfl) ?_
                refine lv_iload_n hx hb dX4_set_86 rfl (lv_at hl 1 rfl) ?_
                refine zc_V (As := [.int (zi_n p0)]) (rest := []) ⟨hx, hb, hml, hown, hts⟩ (c_M_placeSet l D x a a2 a3 cA cB cC F P G n rd br v ln 0 hF (by omega) hP0 hG (by omega) (by omega) (by omega) (by omega) (by omega) p0 (by omega)) (cwV 1 hts gX4_set_X4_placeSet rfl rfl rfl (by decide +kernel) ⟨(Nat.le_of_ble_eq_true rfl), (Nat.le_of_ble_eq_true rfl)⟩) hP hK [0, 1, 2, 3] [0, 1, 2] rfl rfl (ci := 5) rfl rfl rfl rfl hl.1 rfl (Nat.le_of_ble_eq_true rfl) dX4_set_87 ⟨Nat.zero_le _, Nat.zero_le _⟩ (fun r hr1 => ?_)
                obtain ⟨rfl, b_12⟩ := hr1
                refine lv_istore_n (lv' := [(3, .int (zi_n (zh_sp p0 v))), (0, .ref x), (1, .int (zi_n p0)), (2, .int (zi_n p1))]) hx hb dX4_set_90 rfl hl (by decide) rfl (fun ls hl => ?_)
                refine lv_aload_n hx hb dX4_set_91 rfl (lv_at hl 1 rfl) ?_
                refine va_get (D := D) (ci := 5) (v := .ref a3) (C := RX4) (T := TX4) (N := 9) hx hb hts in_X4_set_X4 hown hK hP 0 rfl rfl 6 (by decide) (hts (.fieldLink RX4 16 "ZHeadsModel" "memory" "[I") (by decide +kernel)) (fun _ h9 => h9) rfl dX4_set_92 ?_
                refine lv_iload_n hx hb dX4_set_95 rfl (lv_at hl 0 rfl) ?_
                refine zr_iald hx hb hK hP 3 2 rfl rfl (by decide) (by omega) dX4_set_96 ?_
                have b_13 := hG (zh_sp p0 v).toNat
                refine lv_istore (lv' := [(4, .int (zi_n (G (zh_sp p0 v).toNat))), (3, .int (zi_n (zh_sp p0 v))), (0, .ref x), (1, .int (zi_n p0)), (2, .int (zi_n p1))]) hx hb dX4_set_97 hl (by decide) rfl (fun ls hl => ?_)
                refine lv_iload_n hx hb dX4_set_99 rfl (lv_at hl 3 rfl) ?_
                refine zc_S (As := [.int (zi_n p0)]) (rest := []) ⟨hx, hb, hml, hown, hts⟩ (c_M_isWide l p0 (by omega)) (va_cwS 1 hts gX4_set_X4_isWide rfl rfl rfl (by decide +kernel) ⟨(Nat.le_of_ble_eq_true rfl), (Nat.le_of_ble_eq_true rfl)⟩) rfl hl.1 rfl (Nat.le_of_ble_eq_true rfl) dX4_set_100 ⟨Nat.zero_le _, Nat.zero_le _⟩ (fun r hr1 => ?_)
                rcases hr1 with ⟨rfl, c_14⟩ | ⟨rfl, c_14⟩
                · unfold zh_wide at c_14
                  refine zr_if_eq (tgt := 150) hx hb dX4_set_103 (by decide) (by omega) (fun c => absurd c (by decide)) (fun c_15 => ?_)
                  refine zr_sipush hx hb dX4_set_106 (by decide) ?_
                  refine lv_iload hx hb dX4_set_109 (lv_at hl 0 rfl) ?_
                  refine zr_imul hx hb dX4_set_111 ?_
                  refine lv_aload_n hx hb dX4_set_112 rfl (lv_at hl 2 rfl) ?_
                  refine va_get (D := D) (ci := 5) (v := .ref a3) (C := RX4) (T := TX4) (N := 9) hx hb hts in_X4_set_X4 hown hK hP 0 rfl rfl 6 (by decide) (hts (.fieldLink RX4 16 "ZHeadsModel" "memory" "[I") (by decide +kernel)) (fun _ h9 => h9) rfl dX4_set_113 ?_
                  refine lv_iload_n hx hb dX4_set_116 rfl (lv_at hl 1 rfl) ?_
                  refine zr_iconst hx hb dX4_set_117 ?_
                  refine zr_iadd hx hb dX4_set_118 ?_
                  refine zr_iald hx hb hK hP 3 2 rfl rfl (by decide) (by omega) dX4_set_119 ?_
                  have b_16 := hG ((zh_sp p0 v) + 1).toNat
                  refine zr_iadd hx hb dX4_set_120 ?_
                  refine lv_istore (lv' := [(4, .int (zi_n ((256 * (G (zh_sp p0 v).toNat)) + (G ((zh_sp p0 v) + 1).toNat)))), (3, .int (zi_n (zh_sp p0 v))), (0, .ref x), (1, .int (zi_n p0)), (2, .int (zi_n p1))]) hx hb dX4_set_121 hl (by decide) rfl (fun ls hl => ?_)
                  refine lv_aload_n hx hb dX4_set_123 rfl (lv_at hl 2 rfl) ?_
                  refine va_get (D := D) (ci := 5) (v := .ref a3) (C := RX4) (T := TX4) (N := 9) hx hb hts in_X4_set_X4 hown hK hP 0 rfl rfl 6 (by decide) (hts (.fieldLink RX4 16 "ZHeadsModel" "memory" "[I") (by decide +kernel)) (fun _ h9 => h9) rfl dX4_set_124 ?_
                  refine lv_iload_n hx hb dX4_set_127 rfl (lv_at hl 1 rfl) ?_
                  refine lv_iload_n hx hb dX4_set_128 rfl (lv_at hl 4 rfl) ?_
                  refine zr_sipush hx hb dX4_set_129 (by decide) ?_
                  refine zr_idiv hx hb dX4_set_132 (by omega) (by omega) (by omega) (by omega) ?_
                  refine zr_iast (x := p1.tdiv 256) hx hb hK hP hD hS 3 2 rfl rfl (by decide) (by omega) dX4_set_133 (fun H locs hP hD hS => ?_)
                  have hF_17 : zi_By (zi_up G (zh_sp p0 v).toNat (p1.tdiv 256)) := zi_up_By hG _ (by omega)
                  have hP : va_P D vwCl [(x, .inr (5, [.int (zi_n 0), .ref a, .int (zi_n n), .int (zi_n rd), .int (zi_n br), .ref a2, .ref a3, .int (zi_n v), .int (zi_n ln)])), (a, .inl (cA, 600, .inl (zi_F F))), (a2, .inl (cB, 600, .inl (zi_F P))), (a3, .inl (cC, 600, .inl (zi_F (zi_up G (zh_sp p0 v).toNat (p1.tdiv 256)))))] H := hP
                  have hD : va_D A [(x, .inr (5, [.int (zi_n 0), .ref a, .int (zi_n n), .int (zi_n rd), .int (zi_n br), .ref a2, .ref a3, .int (zi_n v), .int (zi_n ln)])), (a, .inl (cA, 600, .inl (zi_F F))), (a2, .inl (cB, 600, .inl (zi_F P))), (a3, .inl (cC, 600, .inl (zi_F (zi_up G (zh_sp p0 v).toNat (p1.tdiv 256)))))] := hD
                  refine lv_aload_n hx hb dX4_set_134 rfl (lv_at hl 2 rfl) ?_
                  refine va_get (D := D) (ci := 5) (v := .ref a3) (C := RX4) (T := TX4) (N := 9) hx hb hts in_X4_set_X4 hown hK hP 0 rfl rfl 6 (by decide) (hts (.fieldLink RX4 16 "ZHeadsModel" "memory" "[I") (by decide +kernel)) (fun _ h9 => h9) rfl dX4_set_135 ?_
                  refine lv_iload_n hx hb dX4_set_138 rfl (lv_at hl 1 rfl) ?_
                  refine zr_iconst hx hb dX4_set_139 ?_
                  refine zr_iadd hx hb dX4_set_140 ?_
                  refine lv_iload_n hx hb dX4_set_141 rfl (lv_at hl 4 rfl) ?_
                  refine zr_sipush hx hb dX4_set_142 (by decide) ?_
                  refine zr_irem hx hb dX4_set_145 (by omega) (by omega) (by omega) (by omega) ?_
                  refine zr_iast (x := p1 % 256) hx hb hK hP hD hS 3 2 rfl rfl (by decide) (by omega) dX4_set_146 (fun H locs hP hD hS => ?_)
                  have hF_18 : zi_By (zi_up (zi_up G (zh_sp p0 v).toNat (p1.tdiv 256)) ((zh_sp p0 v) + 1).toNat (p1 % 256)) := zi_up_By hF_17 _ (by omega)
                  have hP : va_P D vwCl [(x, .inr (5, [.int (zi_n 0), .ref a, .int (zi_n n), .int (zi_n rd), .int (zi_n br), .ref a2, .ref a3, .int (zi_n v), .int (zi_n ln)])), (a, .inl (cA, 600, .inl (zi_F F))), (a2, .inl (cB, 600, .inl (zi_F P))), (a3, .inl (cC, 600, .inl (zi_F (zi_up (zi_up G (zh_sp p0 v).toNat (p1.tdiv 256)) ((zh_sp p0 v) + 1).toNat (p1 % 256)))))] H := hP
                  have hD : va_D A [(x, .inr (5, [.int (zi_n 0), .ref a, .int (zi_n n), .int (zi_n rd), .int (zi_n br), .ref a2, .ref a3, .int (zi_n v), .int (zi_n ln)])), (a, .inl (cA, 600, .inl (zi_F F))), (a2, .inl (cB, 600, .inl (zi_F P))), (a3, .inl (cC, 600, .inl (zi_F (zi_up (zi_up G (zh_sp p0 v).toNat (p1.tdiv 256)) ((zh_sp p0 v) + 1).toNat (p1 % 256)))))] := hD
                  refine lv_goto (tgt := 157) hx hb dX4_set_147 (by decide) ?_
                  refine lv_iload hx hb dX4_set_157 (lv_at hl 0 rfl) ?_
                  have e_n_19_0 : zh_seG F G n rd p0 p1 = zi_up (zi_up G (zh_sp p0 v).toNat (p1.tdiv 256)) ((zh_sp p0 v) + 1).toNat (p1 % 256) := by unfold zh_seG; rw [zh_if_t (by refine ⟨by omega, by unfold zh_seB; omega, ?_⟩; unfold zh_sf; (repeat' split) <;> omega), ← (show v = F 0 by omega)]; first | (rw [if_pos (by omega)]; unfold zh_put; rw [if_pos (by omega), if_pos (by omega), show p1 / 256 % 256 = p1.tdiv 256 by omega]; done) | (rw [if_neg (by omega)]; unfold zh_put; rw [if_pos (by omega), show p1 % 256 = p1 by omega])
                  have hP9 : va_P D vwCl [(x, .inr (5, [.int (zi_n 0), .ref a, .int (zi_n n), .int (zi_n rd), .int (zi_n br), .ref a2, .ref a3, .int (zi_n v), .int (zi_n ln)])), (a, .inl (cA, 600, .inl (zi_F F))), (a2, .inl (cB, 600, .inl (zi_F P))), (a3, .inl (cC, 600, .inl (zi_F (zh_seG F G n rd p0 p1))))] H := by rw [e_n_19_0]; exact hP
                  have hD9 : va_D A [(x, .inr (5, [.int (zi_n 0), .ref a, .int (zi_n n), .int (zi_n rd), .int (zi_n br), .ref a2, .ref a3, .int (zi_n v), .int (zi_n ln)])), (a, .inl (cA, 600, .inl (zi_F F))), (a2, .inl (cB, 600, .inl (zi_F P))), (a3, .inl (cC, 600, .inl (zi_F (zh_seG F G n rd p0 p1))))] := by rw [e_n_19_0]; exact hD
                  exact W.iret (v := zi_n ((256 * (G (zh_sp p0 v).toNat)) + (G ((zh_sp p0 v) + 1).toNat))) hx hb hr (fun t ht hW => ⟨⟨zi_n ((256 * (G (zh_sp p0 v).toNat)) + (G ((zh_sp p0 v) + 1).toNat)), (), rfl, zl_r (by unfold zh_seE; rw [if_neg (by omega), zh_if_t (by unfold zh_seB; omega), if_neg (by unfold zh_sf; (repeat' split) <;> omega), ← (show v = F 0 by omega)]; first | (rw [if_pos (by omega), zh_two_T (by omega)]; rfl) | (rw [if_neg (by omega), zh_at_in (by omega)])) (by omega), by rw [ht]; exact hP9, va_K.moved hW.alike hK, hD9⟩, hS.F ht⟩) hS.2.2 dX4_set_159
                · unfold zh_wide at c_14
                  refine zr_if_eq (tgt := 150) hx hb dX4_set_103 (by decide) (by omega) (fun c_20 => ?_) (fun c => absurd c (by decide))
                  refine lv_aload_n hx hb dX4_set_150 rfl (lv_at hl 2 rfl) ?_
                  refine va_get (D := D) (ci := 5) (v := .ref a3) (C := RX4) (T := TX4) (N := 9) hx hb hts in_X4_set_X4 hown hK hP 0 rfl rfl 6 (by decide) (hts (.fieldLink RX4 16 "ZHeadsModel" "memory" "[I") (by decide +kernel)) (fun _ h9 => h9) rfl dX4_set_151 ?_
                  refine lv_iload_n hx hb dX4_set_154 rfl (lv_at hl 1 rfl) ?_
                  refine lv_iload_n hx hb dX4_set_155 rfl (lv_at hl 4 rfl) ?_
                  refine zr_iast (x := p1) hx hb hK hP hD hS 3 2 rfl rfl (by decide) (by omega) dX4_set_156 (fun H locs hP hD hS => ?_)
                  have hF_21 : zi_By (zi_up G (zh_sp p0 v).toNat p1) := zi_up_By hG _ (by omega)
                  have hP : va_P D vwCl [(x, .inr (5, [.int (zi_n 0), .ref a, .int (zi_n n), .int (zi_n rd), .int (zi_n br), .ref a2, .ref a3, .int (zi_n v), .int (zi_n ln)])), (a, .inl (cA, 600, .inl (zi_F F))), (a2, .inl (cB, 600, .inl (zi_F P))), (a3, .inl (cC, 600, .inl (zi_F (zi_up G (zh_sp p0 v).toNat p1))))] H := hP
                  have hD : va_D A [(x, .inr (5, [.int (zi_n 0), .ref a, .int (zi_n n), .int (zi_n rd), .int (zi_n br), .ref a2, .ref a3, .int (zi_n v), .int (zi_n ln)])), (a, .inl (cA, 600, .inl (zi_F F))), (a2, .inl (cB, 600, .inl (zi_F P))), (a3, .inl (cC, 600, .inl (zi_F (zi_up G (zh_sp p0 v).toNat p1))))] := hD
                  refine lv_iload hx hb dX4_set_157 (lv_at hl 0 rfl) ?_
                  have e_n_22_0 : zh_seG F G n rd p0 p1 = zi_up G (zh_sp p0 v).toNat p1 := by unfold zh_seG; rw [zh_if_t (by refine ⟨by omega, by unfold zh_seB; omega, ?_⟩; unfold zh_sf; (repeat' split) <;> omega), ← (show v = F 0 by omega)]; first | (rw [if_pos (by omega)]; unfold zh_put; rw [if_pos (by omega), if_pos (by omega), show p1 / 256 % 256 = p1.tdiv 256 by omega]; done) | (rw [if_neg (by omega)]; unfold zh_put; rw [if_pos (by omega), show p1 % 256 = p1 by omega])
                  have hP9 : va_P D vwCl [(x, .inr (5, [.int (zi_n 0), .ref a, .int (zi_n n), .int (zi_n rd), .int (zi_n br), .ref a2, .ref a3, .int (zi_n v), .int (zi_n ln)])), (a, .inl (cA, 600, .inl (zi_F F))), (a2, .inl (cB, 600, .inl (zi_F P))), (a3, .inl (cC, 600, .inl (zi_F (zh_seG F G n rd p0 p1))))] H := by rw [e_n_22_0]; exact hP
                  have hD9 : va_D A [(x, .inr (5, [.int (zi_n 0), .ref a, .int (zi_n n), .int (zi_n rd), .int (zi_n br), .ref a2, .ref a3, .int (zi_n v), .int (zi_n ln)])), (a, .inl (cA, 600, .inl (zi_F F))), (a2, .inl (cB, 600, .inl (zi_F P))), (a3, .inl (cC, 600, .inl (zi_F (zh_seG F G n rd p0 p1))))] := by rw [e_n_22_0]; exact hD
                  exact W.iret (v := zi_n (G (zh_sp p0 v).toNat)) hx hb hr (fun t ht hW => ⟨⟨zi_n (G (zh_sp p0 v).toNat), (), rfl, zl_r (by unfold zh_seE; rw [if_neg (by omega), zh_if_t (by unfold zh_seB; omega), if_neg (by unfold zh_sf; (repeat' split) <;> omega), ← (show v = F 0 by omega)]; first | (rw [if_pos (by omega), zh_two_T (by omega)]; rfl) | (rw [if_neg (by omega), zh_at_in (by omega)])) (by omega), by rw [ht]; exact hP9, va_K.moved hW.alike hK, hD9⟩, hS.F ht⟩) hS.2.2 dX4_set_159
              · refine zr_bipush hx hb dX4_set_82 (by decide) ?_
                have e_n_23_0 : zh_seG F G n rd p0 p1 = G := by unfold zh_seG; exact zh_if_f (by intro h; exact h.2.2 (by unfold zh_sf; (repeat' split) <;> omega)) _ _
                have hP9 : va_P D vwCl [(x, .inr (5, [.int (zi_n 0), .ref a, .int (zi_n n), .int (zi_n rd), .int (zi_n br), .ref a2, .ref a3, .int (zi_n v), .int (zi_n ln)])), (a, .inl (cA, 600, .inl (zi_F F))), (a2, .inl (cB, 600, .inl (zi_F P))), (a3, .inl (cC, 600, .inl (zi_F (zh_seG F G n rd p0 p1))))] H := by rw [e_n_23_0]; exact hP
                have hD9 : va_D A [(x, .inr (5, [.int (zi_n 0), .ref a, .int (zi_n n), .int (zi_n rd), .int (zi_n br), .ref a2, .ref a3, .int (zi_n v), .int (zi_n ln)])), (a, .inl (cA, 600, .inl (zi_F F))), (a2, .inl (cB, 600, .inl (zi_F P))), (a3, .inl (cC, 600, .inl (zi_F (zh_seG F G n rd p0 p1))))] := by rw [e_n_23_0]; exact hD
                exact W.iret (v := zi_n (-13)) hx hb hr (fun t ht hW => ⟨⟨zi_n (-13), (), rfl, zl_r (by unfold zh_seE; rw [if_neg (by omega), zh_if_t (by unfold zh_seB; omega), if_pos (by unfold zh_sf; (repeat' split) <;> omega)]) (by omega), by rw [ht]; exact hP9, va_K.moved hW.alike hK, hD9⟩, hS.F ht⟩) hS.2.2 dX4_set_84
            · refine zr_if_eq (tgt := 85) hx hb dX4_set_71 (by decide) (by omega) (fun c_24 => ?_) (fun c => absurd c (by decide))
              have htd : p1.tdiv 256 = p1 / 256 := Int.tdiv_eq_ediv_of_nonneg (by omega)
              refine lv_aload_n hx hb dX4_set_85 rfl (lv_at hl 0 rfl) ?_
              refine lv_iload_n hx hb dX4_set_86 rfl (lv_at hl 1 rfl) ?_
              refine zc_V (As := [.int (zi_n p0)]) (rest := []) ⟨hx, hb, hml, hown, hts⟩ (c_M_placeSet l D x a a2 a3 cA cB cC F P G n rd br v ln 0 hF (by omega) hP0 hG (by omega) (by omega) (by omega) (by omega) (by omega) p0 (by omega)) (cwV 1 hts gX4_set_X4_placeSet rfl rfl rfl (by decide +kernel) ⟨(Nat.le_of_ble_eq_true rfl), (Nat.le_of_ble_eq_true rfl)⟩) hP hK [0, 1, 2, 3] [0, 1, 2] rfl rfl (ci := 5) rfl rfl rfl rfl hl.1 rfl (Nat.le_of_ble_eq_true rfl) dX4_set_87 ⟨Nat.zero_le _, Nat.zero_le _⟩ (fun r hr1 => ?_)
              obtain ⟨rfl, b_25⟩ := hr1
              refine lv_istore_n (lv' := [(3, .int (zi_n (zh_sp p0 v))), (0, .ref x), (1, .int (zi_n p0)), (2, .int (zi_n p1))]) hx hb dX4_set_90 rfl hl (by decide) rfl (fun ls hl => ?_)
              refine lv_aload_n hx hb dX4_set_91 rfl (lv_at hl 1 rfl) ?_
              refine va_get (D := D) (ci := 5) (v := .ref a3) (C := RX4) (T := TX4) (N := 9) hx hb hts in_X4_set_X4 hown hK hP 0 rfl rfl 6 (by decide) (hts (.fieldLink RX4 16 "ZHeadsModel" "memory" "[I") (by decide +kernel)) (fun _ h9 => h9) rfl dX4_set_92 ?_
              refine lv_iload_n hx hb dX4_set_95 rfl (lv_at hl 0 rfl) ?_
              refine zr_iald hx hb hK hP 3 2 rfl rfl (by decide) (by omega) dX4_set_96 ?_
              have b_26 := hG (zh_sp p0 v).toNat
              refine lv_istore (lv' := [(4, .int (zi_n (G (zh_sp p0 v).toNat))), (3, .int (zi_n (zh_sp p0 v))), (0, .ref x), (1, .int (zi_n p0)), (2, .int (zi_n p1))]) hx hb dX4_set_97 hl (by decide) rfl (fun ls hl => ?_)
              refine lv_iload_n hx hb dX4_set_99 rfl (lv_at hl 3 rfl) ?_
              refine zc_S (As := [.int (zi_n p0)]) (rest := []) ⟨hx, hb, hml, hown, hts⟩ (c_M_isWide l p0 (by omega)) (va_cwS 1 hts gX4_set_X4_isWide rfl rfl rfl (by decide +kernel) ⟨(Nat.le_of_ble_eq_true rfl), (Nat.le_of_ble_eq_true rfl)⟩) rfl hl.1 rfl (Nat.le_of_ble_eq_true rfl) dX4_set_100 ⟨Nat.zero_le _, Nat.zero_le _⟩ (fun r hr1 => ?_)
              rcases hr1 with ⟨rfl, c_27⟩ | ⟨rfl, c_27⟩
              · unfold zh_wide at c_27
                refine zr_if_eq (tgt := 150) hx hb dX4_set_103 (by decide) (by omega) (fun c => absurd c (by decide)) (fun c_28 => ?_)
                refine zr_sipush hx hb dX4_set_106 (by decide) ?_
                refine lv_iload hx hb dX4_set_109 (lv_at hl 0 rfl) ?_
                refine zr_imul hx hb dX4_set_111 ?_
                refine lv_aload_n hx hb dX4_set_112 rfl (lv_at hl 2 rfl) ?_
                refine va_get (D := D) (ci := 5) (v := .ref a3) (C := RX4) (T := TX4) (N := 9) hx hb hts in_X4_set_X4 hown hK hP 0 rfl rfl 6 (by decide) (hts (.fieldLink RX4 16 "ZHeadsModel" "memory" "[I") (by decide +kernel)) (fun _ h9 => h9) rfl dX4_set_113 ?_
                refine lv_iload_n hx hb dX4_set_116 rfl (lv_at hl 1 rfl) ?_
                refine zr_iconst hx hb dX4_set_117 ?_
                refine zr_iadd hx hb dX4_set_118 ?_
                refine zr_iald hx hb hK hP 3 2 rfl rfl (by decide) (by omega) dX4_set_119 ?_
                have b_29 := hG ((zh_sp p0 v) + 1).toNat
                refine zr_iadd hx hb dX4_set_120 ?_
                refine lv_istore (lv' := [(4, .int (zi_n ((256 * (G (zh_sp p0 v).toNat)) + (G ((zh_sp p0 v) + 1).toNat)))), (3, .int (zi_n (zh_sp p0 v))), (0, .ref x), (1, .int (zi_n p0)), (2, .int (zi_n p1))]) hx hb dX4_set_121 hl (by decide) rfl (fun ls hl => ?_)
                refine lv_aload_n hx hb dX4_set_123 rfl (lv_at hl 2 rfl) ?_
                refine va_get (D := D) (ci := 5) (v := .ref a3) (C := RX4) (T := TX4) (N := 9) hx hb hts in_X4_set_X4 hown hK hP 0 rfl rfl 6 (by decide) (hts (.fieldLink RX4 16 "ZHeadsModel" "memory" "[I") (by decide +kernel)) (fun _ h9 => h9) rfl dX4_set_124 ?_
                refine lv_iload_n hx hb dX4_set_127 rfl (lv_at hl 1 rfl) ?_
                refine lv_iload_n hx hb dX4_set_128 rfl (lv_at hl 4 rfl) ?_
                refine zr_sipush hx hb dX4_set_129 (by decide) ?_
                refine zr_idiv hx hb dX4_set_132 (by omega) (by omega) (by omega) (by omega) ?_
                refine zr_iast (x := p1.tdiv 256) hx hb hK hP hD hS 3 2 rfl rfl (by decide) (by omega) dX4_set_133 (fun H locs hP hD hS => ?_)
                have hF_30 : zi_By (zi_up G (zh_sp p0 v).toNat (p1.tdiv 256)) := zi_up_By hG _ (by omega)
                have hP : va_P D vwCl [(x, .inr (5, [.int (zi_n 0), .ref a, .int (zi_n n), .int (zi_n rd), .int (zi_n br), .ref a2, .ref a3, .int (zi_n v), .int (zi_n ln)])), (a, .inl (cA, 600, .inl (zi_F F))), (a2, .inl (cB, 600, .inl (zi_F P))), (a3, .inl (cC, 600, .inl (zi_F (zi_up G (zh_sp p0 v).toNat (p1.tdiv 256)))))] H := hP
                have hD : va_D A [(x, .inr (5, [.int (zi_n 0), .ref a, .int (zi_n n), .int (zi_n rd), .int (zi_n br), .ref a2, .ref a3, .int (zi_n v), .int (zi_n ln)])), (a, .inl (cA, 600, .inl (zi_F F))), (a2, .inl (cB, 600, .inl (zi_F P))), (a3, .inl (cC, 600, .inl (zi_F (zi_up G (zh_sp p0 v).toNat (p1.tdiv 256)))))] := hD
                refine lv_aload_n hx hb dX4_set_134 rfl (lv_at hl 2 rfl) ?_
                refine va_get (D := D) (ci := 5) (v := .ref a3) (C := RX4) (T := TX4) (N := 9) hx hb hts in_X4_set_X4 hown hK hP 0 rfl rfl 6 (by decide) (hts (.fieldLink RX4 16 "ZHeadsModel" "memory" "[I") (by decide +kernel)) (fun _ h9 => h9) rfl dX4_set_135 ?_
                refine lv_iload_n hx hb dX4_set_138 rfl (lv_at hl 1 rfl) ?_
                refine zr_iconst hx hb dX4_set_139 ?_
                refine zr_iadd hx hb dX4_set_140 ?_
                refine lv_iload_n hx hb dX4_set_141 rfl (lv_at hl 4 rfl) ?_
                refine zr_sipush hx hb dX4_set_142 (by decide) ?_
                refine zr_irem hx hb dX4_set_145 (by omega) (by omega) (by omega) (by omega) ?_
                refine zr_iast (x := p1 % 256) hx hb hK hP hD hS 3 2 rfl rfl (by decide) (by omega) dX4_set_146 (fun H locs hP hD hS => ?_)
                have hF_31 : zi_By (zi_up (zi_up G (zh_sp p0 v).toNat (p1.tdiv 256)) ((zh_sp p0 v) + 1).toNat (p1 % 256)) := zi_up_By hF_30 _ (by omega)
                have hP : va_P D vwCl [(x, .inr (5, [.int (zi_n 0), .ref a, .int (zi_n n), .int (zi_n rd), .int (zi_n br), .ref a2, .ref a3, .int (zi_n v), .int (zi_n ln)])), (a, .inl (cA, 600, .inl (zi_F F))), (a2, .inl (cB, 600, .inl (zi_F P))), (a3, .inl (cC, 600, .inl (zi_F (zi_up (zi_up G (zh_sp p0 v).toNat (p1.tdiv 256)) ((zh_sp p0 v) + 1).toNat (p1 % 256)))))] H := hP
                have hD : va_D A [(x, .inr (5, [.int (zi_n 0), .ref a, .int (zi_n n), .int (zi_n rd), .int (zi_n br), .ref a2, .ref a3, .int (zi_n v), .int (zi_n ln)])), (a, .inl (cA, 600, .inl (zi_F F))), (a2, .inl (cB, 600, .inl (zi_F P))), (a3, .inl (cC, 600, .inl (zi_F (zi_up (zi_up G (zh_sp p0 v).toNat (p1.tdiv 256)) ((zh_sp p0 v) + 1).toNat (p1 % 256)))))] := hD
                refine lv_goto (tgt := 157) hx hb dX4_set_147 (by decide) ?_
                refine lv_iload hx hb dX4_set_157 (lv_at hl 0 rfl) ?_
                have e_n_32_0 : zh_seG F G n rd p0 p1 = zi_up (zi_up G (zh_sp p0 v).toNat (p1.tdiv 256)) ((zh_sp p0 v) + 1).toNat (p1 % 256) := by unfold zh_seG; rw [zh_if_t (by refine ⟨by omega, by unfold zh_seB; omega, ?_⟩; unfold zh_sf; (repeat' split) <;> omega), ← (show v = F 0 by omega)]; first | (rw [if_pos (by omega)]; unfold zh_put; rw [if_pos (by omega), if_pos (by omega), show p1 / 256 % 256 = p1.tdiv 256 by omega]; done) | (rw [if_neg (by omega)]; unfold zh_put; rw [if_pos (by omega), show p1 % 256 = p1 by omega])
                have hP9 : va_P D vwCl [(x, .inr (5, [.int (zi_n 0), .ref a, .int (zi_n n), .int (zi_n rd), .int (zi_n br), .ref a2, .ref a3, .int (zi_n v), .int (zi_n ln)])), (a, .inl (cA, 600, .inl (zi_F F))), (a2, .inl (cB, 600, .inl (zi_F P))), (a3, .inl (cC, 600, .inl (zi_F (zh_seG F G n rd p0 p1))))] H := by rw [e_n_32_0]; exact hP
                have hD9 : va_D A [(x, .inr (5, [.int (zi_n 0), .ref a, .int (zi_n n), .int (zi_n rd), .int (zi_n br), .ref a2, .ref a3, .int (zi_n v), .int (zi_n ln)])), (a, .inl (cA, 600, .inl (zi_F F))), (a2, .inl (cB, 600, .inl (zi_F P))), (a3, .inl (cC, 600, .inl (zi_F (zh_seG F G n rd p0 p1))))] := by rw [e_n_32_0]; exact hD
                exact W.iret (v := zi_n ((256 * (G (zh_sp p0 v).toNat)) + (G ((zh_sp p0 v) + 1).toNat))) hx hb hr (fun t ht hW => ⟨⟨zi_n ((256 * (G (zh_sp p0 v).toNat)) + (G ((zh_sp p0 v) + 1).toNat)), (), rfl, zl_r (by unfold zh_seE; rw [if_neg (by omega), zh_if_t (by unfold zh_seB; omega), if_neg (by unfold zh_sf; (repeat' split) <;> omega), ← (show v = F 0 by omega)]; first | (rw [if_pos (by omega), zh_two_T (by omega)]; rfl) | (rw [if_neg (by omega), zh_at_in (by omega)])) (by omega), by rw [ht]; exact hP9, va_K.moved hW.alike hK, hD9⟩, hS.F ht⟩) hS.2.2 dX4_set_159
              · unfold zh_wide at c_27
                refine zr_if_eq (tgt := 150) hx hb dX4_set_103 (by decide) (by omega) (fun c_33 => ?_) (fun c => absurd c (by decide))
                refine lv_aload_n hx hb dX4_set_150 rfl (lv_at hl 2 rfl) ?_
                refine va_get (D := D) (ci := 5) (v := .ref a3) (C := RX4) (T := TX4) (N := 9) hx hb hts in_X4_set_X4 hown hK hP 0 rfl rfl 6 (by decide) (hts (.fieldLink RX4 16 "ZHeadsModel" "memory" "[I") (by decide +kernel)) (fun _ h9 => h9) rfl dX4_set_151 ?_
                refine lv_iload_n hx hb dX4_set_154 rfl (lv_at hl 1 rfl) ?_
                refine lv_iload_n hx hb dX4_set_155 rfl (lv_at hl 4 rfl) ?_
                refine zr_iast (x := p1) hx hb hK hP hD hS 3 2 rfl rfl (by decide) (by omega) dX4_set_156 (fun H locs hP hD hS => ?_)
                have hF_34 : zi_By (zi_up G (zh_sp p0 v).toNat p1) := zi_up_By hG _ (by omega)
                have hP : va_P D vwCl [(x, .inr (5, [.int (zi_n 0), .ref a, .int (zi_n n), .int (zi_n rd), .int (zi_n br), .ref a2, .ref a3, .int (zi_n v), .int (zi_n ln)])), (a, .inl (cA, 600, .inl (zi_F F))), (a2, .inl (cB, 600, .inl (zi_F P))), (a3, .inl (cC, 600, .inl (zi_F (zi_up G (zh_sp p0 v).toNat p1))))] H := hP
                have hD : va_D A [(x, .inr (5, [.int (zi_n 0), .ref a, .int (zi_n n), .int (zi_n rd), .int (zi_n br), .ref a2, .ref a3, .int (zi_n v), .int (zi_n ln)])), (a, .inl (cA, 600, .inl (zi_F F))), (a2, .inl (cB, 600, .inl (zi_F P))), (a3, .inl (cC, 600, .inl (zi_F (zi_up G (zh_sp p0 v).toNat p1))))] := hD
                refine lv_iload hx hb dX4_set_157 (lv_at hl 0 rfl) ?_
                have e_n_35_0 : zh_seG F G n rd p0 p1 = zi_up G (zh_sp p0 v).toNat p1 := by unfold zh_seG; rw [zh_if_t (by refine ⟨by omega, by unfold zh_seB; omega, ?_⟩; unfold zh_sf; (repeat' split) <;> omega), ← (show v = F 0 by omega)]; first | (rw [if_pos (by omega)]; unfold zh_put; rw [if_pos (by omega), if_pos (by omega), show p1 / 256 % 256 = p1.tdiv 256 by omega]; done) | (rw [if_neg (by omega)]; unfold zh_put; rw [if_pos (by omega), show p1 % 256 = p1 by omega])
                have hP9 : va_P D vwCl [(x, .inr (5, [.int (zi_n 0), .ref a, .int (zi_n n), .int (zi_n rd), .int (zi_n br), .ref a2, .ref a3, .int (zi_n v), .int (zi_n ln)])), (a, .inl (cA, 600, .inl (zi_F F))), (a2, .inl (cB, 600, .inl (zi_F P))), (a3, .inl (cC, 600, .inl (zi_F (zh_seG F G n rd p0 p1))))] H := by rw [e_n_35_0]; exact hP
                have hD9 : va_D A [(x, .inr (5, [.int (zi_n 0), .ref a, .int (zi_n n), .int (zi_n rd), .int (zi_n br), .ref a2, .ref a3, .int (zi_n v), .int (zi_n ln)])), (a, .inl (cA, 600, .inl (zi_F F))), (a2, .inl (cB, 600, .inl (zi_F P))), (a3, .inl (cC, 600, .inl (zi_F (zh_seG F G n rd p0 p1))))] := by rw [e_n_35_0]; exact hD
                exact W.iret (v := zi_n (G (zh_sp p0 v).toNat)) hx hb hr (fun t ht hW => ⟨⟨zi_n (G (zh_sp p0 v).toNat), (), rfl, zl_r (by unfold zh_seE; rw [if_neg (by omega), zh_if_t (by unfold zh_seB; omega), if_neg (by unfold zh_sf; (repeat' split) <;> omega), ← (show v = F 0 by omega)]; first | (rw [if_pos (by omega), zh_two_T (by omega)]; rfl) | (rw [if_neg (by omega), zh_at_in (by omega)])) (by omega), by rw [ht]; exact hP9, va_K.moved hW.alike hK, hD9⟩, hS.F ht⟩) hS.2.2 dX4_set_159
          · refine lv_aload_n hx hb dX4_set_56 rfl (lv_at hl 0 rfl) ?_
            refine va_get (D := D) (ci := 5) (v := .int (zi_n v)) (C := RX4) (T := TX4) (N := 9) hx hb hts in_X4_set_X4 hown hK hP 0 rfl rfl 7 (by decide) (hts (.fieldLink RX4 51 "ZHeadsModel" "version" "I") (by decide +kernel)) (fun _ h9 => h9) rfl dX4_set_57 ?_
            refine zr_iconst hx hb dX4_set_60 ?_
            refine zr_icmp_lt (tgt := 82) hx hb dX4_set_61 (by decide) (by omega) (by omega) (fun c_36 => ?_) (fun c_36 => ?_)
            · refine zr_bipush hx hb dX4_set_82 (by decide) ?_
              have e_n_37_0 : zh_seG F G n rd p0 p1 = G := by unfold zh_seG; exact zh_if_f (by intro h; exact h.2.2 (by unfold zh_sf; (repeat' split) <;> omega)) _ _
              have hP9 : va_P D vwCl [(x, .inr (5, [.int (zi_n 0), .ref a, .int (zi_n n), .int (zi_n rd), .int (zi_n br), .ref a2, .ref a3, .int (zi_n v), .int (zi_n ln)])), (a, .inl (cA, 600, .inl (zi_F F))), (a2, .inl (cB, 600, .inl (zi_F P))), (a3, .inl (cC, 600, .inl (zi_F (zh_seG F G n rd p0 p1))))] H := by rw [e_n_37_0]; exact hP
              have hD9 : va_D A [(x, .inr (5, [.int (zi_n 0), .ref a, .int (zi_n n), .int (zi_n rd), .int (zi_n br), .ref a2, .ref a3, .int (zi_n v), .int (zi_n ln)])), (a, .inl (cA, 600, .inl (zi_F F))), (a2, .inl (cB, 600, .inl (zi_F P))), (a3, .inl (cC, 600, .inl (zi_F (zh_seG F G n rd p0 p1))))] := by rw [e_n_37_0]; exact hD
              exact W.iret (v := zi_n (-13)) hx hb hr (fun t ht hW => ⟨⟨zi_n (-13), (), rfl, zl_r (by unfold zh_seE; rw [if_neg (by omega), zh_if_t (by unfold zh_seB; omega), if_pos (by unfold zh_sf; (repeat' split) <;> omega)]) (by omega), by rw [ht]; exact hP9, va_K.moved hW.alike hK, hD9⟩, hS.F ht⟩) hS.2.2 dX4_set_84
            · refine lv_iload_n hx hb dX4_set_64 rfl (lv_at hl 1 rfl) ?_
              refine zr_iconst hx hb dX4_set_65 ?_
              refine zr_bipush hx hb dX4_set_66 (by decide) ?_
              refine zc_S (As := [.int (zi_n p0), .int (zi_n 4), .int (zi_n 9)]) (rest := []) ⟨hx, hb, hml, hown, hts⟩ (c_M_in l p0 4 9 (by omega) (by omega) (by omega)) (va_cwS 3 hts gX4_set_X4_in rfl rfl rfl (by decide +kernel) ⟨(Nat.le_of_ble_eq_true rfl), (Nat.le_of_ble_eq_true rfl)⟩) rfl hl.1 rfl (Nat.le_of_ble_eq_true rfl) dX4_set_68 ⟨Nat.zero_le _, Nat.zero_le _⟩ (fun r hr1 => ?_)
              rcases hr1 with ⟨rfl, c_38⟩ | ⟨rfl, c_38⟩
              · refine zr_if_eq (tgt := 85) hx hb dX4_set_71 (by decide) (by omega) (fun c => absurd c (by decide)) (fun c_39 => ?_)
                refine lv_aload_n hx hb dX4_set_74 rfl (lv_at hl 0 rfl) ?_
                refine va_get (D := D) (ci := 5) (v := .int (zi_n v)) (C := RX4) (T := TX4) (N := 9) hx hb hts in_X4_set_X4 hown hK hP 0 rfl rfl 7 (by decide) (hts (.fieldLink RX4 51 "ZHeadsModel" "version" "I") (by decide +kernel)) (fun _ h9 => h9) rfl dX4_set_75 ?_
                refine zr_iconst hx hb dX4_set_78 ?_
                refine zr_icmp_ge (tgt := 85) hx hb dX4_set_79 (by decide) (by omega) (by omega) (fun c_40 => ?_) (fun c_40 => ?_)
                · have htd : p1.tdiv 256 = p1 / 256 := Int.tdiv_eq_ediv_of_nonneg (by omega)
                  refine lv_aload_n hx hb dX4_set_85 rfl (lv_at hl 0 rfl) ?_
                  refine lv_iload_n hx hb dX4_set_86 rfl (lv_at hl 1 rfl) ?_
                  refine zc_V (As := [.int (zi_n p0)]) (rest := []) ⟨hx, hb, hml, hown, hts⟩ (c_M_placeSet l D x a a2 a3 cA cB cC F P G n rd br v ln 0 hF (by omega) hP0 hG (by omega) (by omega) (by omega) (by omega) (by omega) p0 (by omega)) (cwV 1 hts gX4_set_X4_placeSet rfl rfl rfl (by decide +kernel) ⟨(Nat.le_of_ble_eq_true rfl), (Nat.le_of_ble_eq_true rfl)⟩) hP hK [0, 1, 2, 3] [0, 1, 2] rfl rfl (ci := 5) rfl rfl rfl rfl hl.1 rfl (Nat.le_of_ble_eq_true rfl) dX4_set_87 ⟨Nat.zero_le _, Nat.zero_le _⟩ (fun r hr1 => ?_)
                  obtain ⟨rfl, b_41⟩ := hr1
                  refine lv_istore_n (lv' := [(3, .int (zi_n (zh_sp p0 v))), (0, .ref x), (1, .int (zi_n p0)), (2, .int (zi_n p1))]) hx hb dX4_set_90 rfl hl (by decide) rfl (fun ls hl => ?_)
                  refine lv_aload_n hx hb dX4_set_91 rfl (lv_at hl 1 rfl) ?_
                  refine va_get (D := D) (ci := 5) (v := .ref a3) (C := RX4) (T := TX4) (N := 9) hx hb hts in_X4_set_X4 hown hK hP 0 rfl rfl 6 (by decide) (hts (.fieldLink RX4 16 "ZHeadsModel" "memory" "[I") (by decide +kernel)) (fun _ h9 => h9) rfl dX4_set_92 ?_
                  refine lv_iload_n hx hb dX4_set_95 rfl (lv_at hl 0 rfl) ?_
                  refine zr_iald hx hb hK hP 3 2 rfl rfl (by decide) (by omega) dX4_set_96 ?_
                  have b_42 := hG (zh_sp p0 v).toNat
                  refine lv_istore (lv' := [(4, .int (zi_n (G (zh_sp p0 v).toNat))), (3, .int (zi_n (zh_sp p0 v))), (0, .ref x), (1, .int (zi_n p0)), (2, .int (zi_n p1))]) hx hb dX4_set_97 hl (by decide) rfl (fun ls hl => ?_)
                  refine lv_iload_n hx hb dX4_set_99 rfl (lv_at hl 3 rfl) ?_
                  refine zc_S (As := [.int (zi_n p0)]) (rest := []) ⟨hx, hb, hml, hown, hts⟩ (c_M_isWide l p0 (by omega)) (va_cwS 1 hts gX4_set_X4_isWide rfl rfl rfl (by decide +kernel) ⟨(Nat.le_of_ble_eq_true rfl), (Nat.le_of_ble_eq_true rfl)⟩) rfl hl.1 rfl (Nat.le_of_ble_eq_true rfl) dX4_set_100 ⟨Nat.zero_le _, Nat.zero_le _⟩ (fun r hr1 => ?_)
                  rcases hr1 with ⟨rfl, c_43⟩ | ⟨rfl, c_43⟩
                  · unfold zh_wide at c_43
                    refine zr_if_eq (tgt := 150) hx hb dX4_set_103 (by decide) (by omega) (fun c => absurd c (by decide)) (fun c_44 => ?_)
                    refine zr_sipush hx hb dX4_set_106 (by decide) ?_
                    refine lv_iload hx hb dX4_set_109 (lv_at hl 0 rfl) ?_
                    refine zr_imul hx hb dX4_set_111 ?_
                    refine lv_aload_n hx hb dX4_set_112 rfl (lv_at hl 2 rfl) ?_
                    refine va_get (D := D) (ci := 5) (v := .ref a3) (C := RX4) (T := TX4) (N := 9) hx hb hts in_X4_set_X4 hown hK hP 0 rfl rfl 6 (by decide) (hts (.fieldLink RX4 16 "ZHeadsModel" "memory" "[I") (by decide +kernel)) (fun _ h9 => h9) rfl dX4_set_113 ?_
                    refine lv_iload_n hx hb dX4_set_116 rfl (lv_at hl 1 rfl) ?_
                    refine zr_iconst hx hb dX4_set_117 ?_
                    refine zr_iadd hx hb dX4_set_118 ?_
                    refine zr_iald hx hb hK hP 3 2 rfl rfl (by decide) (by omega) dX4_set_119 ?_
                    have b_45 := hG ((zh_sp p0 v) + 1).toNat
                    refine zr_iadd hx hb dX4_set_120 ?_
                    refine lv_istore (lv' := [(4, .int (zi_n ((256 * (G (zh_sp p0 v).toNat)) + (G ((zh_sp p0 v) + 1).toNat)))), (3, .int (zi_n (zh_sp p0 v))), (0, .ref x), (1, .int (zi_n p0)), (2, .int (zi_n p1))]) hx hb dX4_set_121 hl (by decide) rfl (fun ls hl => ?_)
                    refine lv_aload_n hx hb dX4_set_123 rfl (lv_at hl 2 rfl) ?_
                    refine va_get (D := D) (ci := 5) (v := .ref a3) (C := RX4) (T := TX4) (N := 9) hx hb hts in_X4_set_X4 hown hK hP 0 rfl rfl 6 (by decide) (hts (.fieldLink RX4 16 "ZHeadsModel" "memory" "[I") (by decide +kernel)) (fun _ h9 => h9) rfl dX4_set_124 ?_
                    refine lv_iload_n hx hb dX4_set_127 rfl (lv_at hl 1 rfl) ?_
                    refine lv_iload_n hx hb dX4_set_128 rfl (lv_at hl 4 rfl) ?_
                    refine zr_sipush hx hb dX4_set_129 (by decide) ?_
                    refine zr_idiv hx hb dX4_set_132 (by omega) (by omega) (by omega) (by omega) ?_
                    refine zr_iast (x := p1.tdiv 256) hx hb hK hP hD hS 3 2 rfl rfl (by decide) (by omega) dX4_set_133 (fun H locs hP hD hS => ?_)
                    have hF_46 : zi_By (zi_up G (zh_sp p0 v).toNat (p1.tdiv 256)) := zi_up_By hG _ (by omega)
                    have hP : va_P D vwCl [(x, .inr (5, [.int (zi_n 0), .ref a, .int (zi_n n), .int (zi_n rd), .int (zi_n br), .ref a2, .ref a3, .int (zi_n v), .int (zi_n ln)])), (a, .inl (cA, 600, .inl (zi_F F))), (a2, .inl (cB, 600, .inl (zi_F P))), (a3, .inl (cC, 600, .inl (zi_F (zi_up G (zh_sp p0 v).toNat (p1.tdiv 256)))))] H := hP
                    have hD : va_D A [(x, .inr (5, [.int (zi_n 0), .ref a, .int (zi_n n), .int (zi_n rd), .int (zi_n br), .ref a2, .ref a3, .int (zi_n v), .int (zi_n ln)])), (a, .inl (cA, 600, .inl (zi_F F))), (a2, .inl (cB, 600, .inl (zi_F P))), (a3, .inl (cC, 600, .inl (zi_F (zi_up G (zh_sp p0 v).toNat (p1.tdiv 256)))))] := hD
                    refine lv_aload_n hx hb dX4_set_134 rfl (lv_at hl 2 rfl) ?_
                    refine va_get (D := D) (ci := 5) (v := .ref a3) (C := RX4) (T := TX4) (N := 9) hx hb hts in_X4_set_X4 hown hK hP 0 rfl rfl 6 (by decide) (hts (.fieldLink RX4 16 "ZHeadsModel" "memory" "[I") (by decide +kernel)) (fun _ h9 => h9) rfl dX4_set_135 ?_
                    refine lv_iload_n hx hb dX4_set_138 rfl (lv_at hl 1 rfl) ?_
                    refine zr_iconst hx hb dX4_set_139 ?_
                    refine zr_iadd hx hb dX4_set_140 ?_
                    refine lv_iload_n hx hb dX4_set_141 rfl (lv_at hl 4 rfl) ?_
                    refine zr_sipush hx hb dX4_set_142 (by decide) ?_
                    refine zr_irem hx hb dX4_set_145 (by omega) (by omega) (by omega) (by omega) ?_
                    refine zr_iast (x := p1 % 256) hx hb hK hP hD hS 3 2 rfl rfl (by decide) (by omega) dX4_set_146 (fun H locs hP hD hS => ?_)
                    have hF_47 : zi_By (zi_up (zi_up G (zh_sp p0 v).toNat (p1.tdiv 256)) ((zh_sp p0 v) + 1).toNat (p1 % 256)) := zi_up_By hF_46 _ (by omega)
                    have hP : va_P D vwCl [(x, .inr (5, [.int (zi_n 0), .ref a, .int (zi_n n), .int (zi_n rd), .int (zi_n br), .ref a2, .ref a3, .int (zi_n v), .int (zi_n ln)])), (a, .inl (cA, 600, .inl (zi_F F))), (a2, .inl (cB, 600, .inl (zi_F P))), (a3, .inl (cC, 600, .inl (zi_F (zi_up (zi_up G (zh_sp p0 v).toNat (p1.tdiv 256)) ((zh_sp p0 v) + 1).toNat (p1 % 256)))))] H := hP
                    have hD : va_D A [(x, .inr (5, [.int (zi_n 0), .ref a, .int (zi_n n), .int (zi_n rd), .int (zi_n br), .ref a2, .ref a3, .int (zi_n v), .int (zi_n ln)])), (a, .inl (cA, 600, .inl (zi_F F))), (a2, .inl (cB, 600, .inl (zi_F P))), (a3, .inl (cC, 600, .inl (zi_F (zi_up (zi_up G (zh_sp p0 v).toNat (p1.tdiv 256)) ((zh_sp p0 v) + 1).toNat (p1 % 256)))))] := hD
                    refine lv_goto (tgt := 157) hx hb dX4_set_147 (by decide) ?_
                    refine lv_iload hx hb dX4_set_157 (lv_at hl 0 rfl) ?_
                    have e_n_48_0 : zh_seG F G n rd p0 p1 = zi_up (zi_up G (zh_sp p0 v).toNat (p1.tdiv 256)) ((zh_sp p0 v) + 1).toNat (p1 % 256) := by unfold zh_seG; rw [zh_if_t (by refine ⟨by omega, by unfold zh_seB; omega, ?_⟩; unfold zh_sf; (repeat' split) <;> omega), ← (show v = F 0 by omega)]; first | (rw [if_pos (by omega)]; unfold zh_put; rw [if_pos (by omega), if_pos (by omega), show p1 / 256 % 256 = p1.tdiv 256 by omega]; done) | (rw [if_neg (by omega)]; unfold zh_put; rw [if_pos (by omega), show p1 % 256 = p1 by omega])
                    have hP9 : va_P D vwCl [(x, .inr (5, [.int (zi_n 0), .ref a, .int (zi_n n), .int (zi_n rd), .int (zi_n br), .ref a2, .ref a3, .int (zi_n v), .int (zi_n ln)])), (a, .inl (cA, 600, .inl (zi_F F))), (a2, .inl (cB, 600, .inl (zi_F P))), (a3, .inl (cC, 600, .inl (zi_F (zh_seG F G n rd p0 p1))))] H := by rw [e_n_48_0]; exact hP
                    have hD9 : va_D A [(x, .inr (5, [.int (zi_n 0), .ref a, .int (zi_n n), .int (zi_n rd), .int (zi_n br), .ref a2, .ref a3, .int (zi_n v), .int (zi_n ln)])), (a, .inl (cA, 600, .inl (zi_F F))), (a2, .inl (cB, 600, .inl (zi_F P))), (a3, .inl (cC, 600, .inl (zi_F (zh_seG F G n rd p0 p1))))] := by rw [e_n_48_0]; exact hD
                    exact W.iret (v := zi_n ((256 * (G (zh_sp p0 v).toNat)) + (G ((zh_sp p0 v) + 1).toNat))) hx hb hr (fun t ht hW => ⟨⟨zi_n ((256 * (G (zh_sp p0 v).toNat)) + (G ((zh_sp p0 v) + 1).toNat)), (), rfl, zl_r (by unfold zh_seE; rw [if_neg (by omega), zh_if_t (by unfold zh_seB; omega), if_neg (by unfold zh_sf; (repeat' split) <;> omega), ← (show v = F 0 by omega)]; first | (rw [if_pos (by omega), zh_two_T (by omega)]; rfl) | (rw [if_neg (by omega), zh_at_in (by omega)])) (by omega), by rw [ht]; exact hP9, va_K.moved hW.alike hK, hD9⟩, hS.F ht⟩) hS.2.2 dX4_set_159
                  · unfold zh_wide at c_43
                    refine zr_if_eq (tgt := 150) hx hb dX4_set_103 (by decide) (by omega) (fun c_49 => ?_) (fun c => absurd c (by decide))
                    refine lv_aload_n hx hb dX4_set_150 rfl (lv_at hl 2 rfl) ?_
                    refine va_get (D := D) (ci := 5) (v := .ref a3) (C := RX4) (T := TX4) (N := 9) hx hb hts in_X4_set_X4 hown hK hP 0 rfl rfl 6 (by decide) (hts (.fieldLink RX4 16 "ZHeadsModel" "memory" "[I") (by decide +kernel)) (fun _ h9 => h9) rfl dX4_set_151 ?_
                    refine lv_iload_n hx hb dX4_set_154 rfl (lv_at hl 1 rfl) ?_
                    refine lv_iload_n hx hb dX4_set_155 rfl (lv_at hl 4 rfl) ?_
                    refine zr_iast (x := p1) hx hb hK hP hD hS 3 2 rfl rfl (by decide) (by omega) dX4_set_156 (fun H locs hP hD hS => ?_)
                    have hF_50 : zi_By (zi_up G (zh_sp p0 v).toNat p1) := zi_up_By hG _ (by omega)
                    have hP : va_P D vwCl [(x, .inr (5, [.int (zi_n 0), .ref a, .int (zi_n n), .int (zi_n rd), .int (zi_n br), .ref a2, .ref a3, .int (zi_n v), .int (zi_n ln)])), (a, .inl (cA, 600, .inl (zi_F F))), (a2, .inl (cB, 600, .inl (zi_F P))), (a3, .inl (cC, 600, .inl (zi_F (zi_up G (zh_sp p0 v).toNat p1))))] H := hP
                    have hD : va_D A [(x, .inr (5, [.int (zi_n 0), .ref a, .int (zi_n n), .int (zi_n rd), .int (zi_n br), .ref a2, .ref a3, .int (zi_n v), .int (zi_n ln)])), (a, .inl (cA, 600, .inl (zi_F F))), (a2, .inl (cB, 600, .inl (zi_F P))), (a3, .inl (cC, 600, .inl (zi_F (zi_up G (zh_sp p0 v).toNat p1))))] := hD
                    refine lv_iload hx hb dX4_set_157 (lv_at hl 0 rfl) ?_
                    have e_n_51_0 : zh_seG F G n rd p0 p1 = zi_up G (zh_sp p0 v).toNat p1 := by unfold zh_seG; rw [zh_if_t (by refine ⟨by omega, by unfold zh_seB; omega, ?_⟩; unfold zh_sf; (repeat' split) <;> omega), ← (show v = F 0 by omega)]; first | (rw [if_pos (by omega)]; unfold zh_put; rw [if_pos (by omega), if_pos (by omega), show p1 / 256 % 256 = p1.tdiv 256 by omega]; done) | (rw [if_neg (by omega)]; unfold zh_put; rw [if_pos (by omega), show p1 % 256 = p1 by omega])
                    have hP9 : va_P D vwCl [(x, .inr (5, [.int (zi_n 0), .ref a, .int (zi_n n), .int (zi_n rd), .int (zi_n br), .ref a2, .ref a3, .int (zi_n v), .int (zi_n ln)])), (a, .inl (cA, 600, .inl (zi_F F))), (a2, .inl (cB, 600, .inl (zi_F P))), (a3, .inl (cC, 600, .inl (zi_F (zh_seG F G n rd p0 p1))))] H := by rw [e_n_51_0]; exact hP
                    have hD9 : va_D A [(x, .inr (5, [.int (zi_n 0), .ref a, .int (zi_n n), .int (zi_n rd), .int (zi_n br), .ref a2, .ref a3, .int (zi_n v), .int (zi_n ln)])), (a, .inl (cA, 600, .inl (zi_F F))), (a2, .inl (cB, 600, .inl (zi_F P))), (a3, .inl (cC, 600, .inl (zi_F (zh_seG F G n rd p0 p1))))] := by rw [e_n_51_0]; exact hD
                    exact W.iret (v := zi_n (G (zh_sp p0 v).toNat)) hx hb hr (fun t ht hW => ⟨⟨zi_n (G (zh_sp p0 v).toNat), (), rfl, zl_r (by unfold zh_seE; rw [if_neg (by omega), zh_if_t (by unfold zh_seB; omega), if_neg (by unfold zh_sf; (repeat' split) <;> omega), ← (show v = F 0 by omega)]; first | (rw [if_pos (by omega), zh_two_T (by omega)]; rfl) | (rw [if_neg (by omega), zh_at_in (by omega)])) (by omega), by rw [ht]; exact hP9, va_K.moved hW.alike hK, hD9⟩, hS.F ht⟩) hS.2.2 dX4_set_159
                · refine zr_bipush hx hb dX4_set_82 (by decide) ?_
                  have e_n_52_0 : zh_seG F G n rd p0 p1 = G := by unfold zh_seG; exact zh_if_f (by intro h; exact h.2.2 (by unfold zh_sf; (repeat' split) <;> omega)) _ _
                  have hP9 : va_P D vwCl [(x, .inr (5, [.int (zi_n 0), .ref a, .int (zi_n n), .int (zi_n rd), .int (zi_n br), .ref a2, .ref a3, .int (zi_n v), .int (zi_n ln)])), (a, .inl (cA, 600, .inl (zi_F F))), (a2, .inl (cB, 600, .inl (zi_F P))), (a3, .inl (cC, 600, .inl (zi_F (zh_seG F G n rd p0 p1))))] H := by rw [e_n_52_0]; exact hP
                  have hD9 : va_D A [(x, .inr (5, [.int (zi_n 0), .ref a, .int (zi_n n), .int (zi_n rd), .int (zi_n br), .ref a2, .ref a3, .int (zi_n v), .int (zi_n ln)])), (a, .inl (cA, 600, .inl (zi_F F))), (a2, .inl (cB, 600, .inl (zi_F P))), (a3, .inl (cC, 600, .inl (zi_F (zh_seG F G n rd p0 p1))))] := by rw [e_n_52_0]; exact hD
                  exact W.iret (v := zi_n (-13)) hx hb hr (fun t ht hW => ⟨⟨zi_n (-13), (), rfl, zl_r (by unfold zh_seE; rw [if_neg (by omega), zh_if_t (by unfold zh_seB; omega), if_pos (by unfold zh_sf; (repeat' split) <;> omega)]) (by omega), by rw [ht]; exact hP9, va_K.moved hW.alike hK, hD9⟩, hS.F ht⟩) hS.2.2 dX4_set_84
              · refine zr_if_eq (tgt := 85) hx hb dX4_set_71 (by decide) (by omega) (fun c_53 => ?_) (fun c => absurd c (by decide))
                have htd : p1.tdiv 256 = p1 / 256 := Int.tdiv_eq_ediv_of_nonneg (by omega)
                refine lv_aload_n hx hb dX4_set_85 rfl (lv_at hl 0 rfl) ?_
                refine lv_iload_n hx hb dX4_set_86 rfl (lv_at hl 1 rfl) ?_
                refine zc_V (As := [.int (zi_n p0)]) (rest := []) ⟨hx, hb, hml, hown, hts⟩ (c_M_placeSet l D x a a2 a3 cA cB cC F P G n rd br v ln 0 hF (by omega) hP0 hG (by omega) (by omega) (by omega) (by omega) (by omega) p0 (by omega)) (cwV 1 hts gX4_set_X4_placeSet rfl rfl rfl (by decide +kernel) ⟨(Nat.le_of_ble_eq_true rfl), (Nat.le_of_ble_eq_true rfl)⟩) hP hK [0, 1, 2, 3] [0, 1, 2] rfl rfl (ci := 5) rfl rfl rfl rfl hl.1 rfl (Nat.le_of_ble_eq_true rfl) dX4_set_87 ⟨Nat.zero_le _, Nat.zero_le _⟩ (fun r hr1 => ?_)
                obtain ⟨rfl, b_54⟩ := hr1
                refine lv_istore_n (lv' := [(3, .int (zi_n (zh_sp p0 v))), (0, .ref x), (1, .int (zi_n p0)), (2, .int (zi_n p1))]) hx hb dX4_set_90 rfl hl (by decide) rfl (fun ls hl => ?_)
                refine lv_aload_n hx hb dX4_set_91 rfl (lv_at hl 1 rfl) ?_
                refine va_get (D := D) (ci := 5) (v := .ref a3) (C := RX4) (T := TX4) (N := 9) hx hb hts in_X4_set_X4 hown hK hP 0 rfl rfl 6 (by decide) (hts (.fieldLink RX4 16 "ZHeadsModel" "memory" "[I") (by decide +kernel)) (fun _ h9 => h9) rfl dX4_set_92 ?_
                refine lv_iload_n hx hb dX4_set_95 rfl (lv_at hl 0 rfl) ?_
                refine zr_iald hx hb hK hP 3 2 rfl rfl (by decide) (by omega) dX4_set_96 ?_
                have b_55 := hG (zh_sp p0 v).toNat
                refine lv_istore (lv' := [(4, .int (zi_n (G (zh_sp p0 v).toNat))), (3, .int (zi_n (zh_sp p0 v))), (0, .ref x), (1, .int (zi_n p0)), (2, .int (zi_n p1))]) hx hb dX4_set_97 hl (by decide) rfl (fun ls hl => ?_)
                refine lv_iload_n hx hb dX4_set_99 rfl (lv_at hl 3 rfl) ?_
                refine zc_S (As := [.int (zi_n p0)]) (rest := []) ⟨hx, hb, hml, hown, hts⟩ (c_M_isWide l p0 (by omega)) (va_cwS 1 hts gX4_set_X4_isWide rfl rfl rfl (by decide +kernel) ⟨(Nat.le_of_ble_eq_true rfl), (Nat.le_of_ble_eq_true rfl)⟩) rfl hl.1 rfl (Nat.le_of_ble_eq_true rfl) dX4_set_100 ⟨Nat.zero_le _, Nat.zero_le _⟩ (fun r hr1 => ?_)
                rcases hr1 with ⟨rfl, c_56⟩ | ⟨rfl, c_56⟩
                · unfold zh_wide at c_56
                  refine zr_if_eq (tgt := 150) hx hb dX4_set_103 (by decide) (by omega) (fun c => absurd c (by decide)) (fun c_57 => ?_)
                  refine zr_sipush hx hb dX4_set_106 (by decide) ?_
                  refine lv_iload hx hb dX4_set_109 (lv_at hl 0 rfl) ?_
                  refine zr_imul hx hb dX4_set_111 ?_
                  refine lv_aload_n hx hb dX4_set_112 rfl (lv_at hl 2 rfl) ?_
                  refine va_get (D := D) (ci := 5) (v := .ref a3) (C := RX4) (T := TX4) (N := 9) hx hb hts in_X4_set_X4 hown hK hP 0 rfl rfl 6 (by decide) (hts (.fieldLink RX4 16 "ZHeadsModel" "memory" "[I") (by decide +kernel)) (fun _ h9 => h9) rfl dX4_set_113 ?_
                  refine lv_iload_n hx hb dX4_set_116 rfl (lv_at hl 1 rfl) ?_
                  refine zr_iconst hx hb dX4_set_117 ?_
                  refine zr_iadd hx hb dX4_set_118 ?_
                  refine zr_iald hx hb hK hP 3 2 rfl rfl (by decide) (by omega) dX4_set_119 ?_
                  have b_58 := hG ((zh_sp p0 v) + 1).toNat
                  refine zr_iadd hx hb dX4_set_120 ?_
                  refine lv_istore (lv' := [(4, .int (zi_n ((256 * (G (zh_sp p0 v).toNat)) + (G ((zh_sp p0 v) + 1).toNat)))), (3, .int (zi_n (zh_sp p0 v))), (0, .ref x), (1, .int (zi_n p0)), (2, .int (zi_n p1))]) hx hb dX4_set_121 hl (by decide) rfl (fun ls hl => ?_)
                  refine lv_aload_n hx hb dX4_set_123 rfl (lv_at hl 2 rfl) ?_
                  refine va_get (D := D) (ci := 5) (v := .ref a3) (C := RX4) (T := TX4) (N := 9) hx hb hts in_X4_set_X4 hown hK hP 0 rfl rfl 6 (by decide) (hts (.fieldLink RX4 16 "ZHeadsModel" "memory" "[I") (by decide +kernel)) (fun _ h9 => h9) rfl dX4_set_124 ?_
                  refine lv_iload_n hx hb dX4_set_127 rfl (lv_at hl 1 rfl) ?_
                  refine lv_iload_n hx hb dX4_set_128 rfl (lv_at hl 4 rfl) ?_
                  refine zr_sipush hx hb dX4_set_129 (by decide) ?_
                  refine zr_idiv hx hb dX4_set_132 (by omega) (by omega) (by omega) (by omega) ?_
                  refine zr_iast (x := p1.tdiv 256) hx hb hK hP hD hS 3 2 rfl rfl (by decide) (by omega) dX4_set_133 (fun H locs hP hD hS => ?_)
                  have hF_59 : zi_By (zi_up G (zh_sp p0 v).toNat (p1.tdiv 256)) := zi_up_By hG _ (by omega)
                  have hP : va_P D vwCl [(x, .inr (5, [.int (zi_n 0), .ref a, .int (zi_n n), .int (zi_n rd), .int (zi_n br), .ref a2, .ref a3, .int (zi_n v), .int (zi_n ln)])), (a, .inl (cA, 600, .inl (zi_F F))), (a2, .inl (cB, 600, .inl (zi_F P))), (a3, .inl (cC, 600, .inl (zi_F (zi_up G (zh_sp p0 v).toNat (p1.tdiv 256)))))] H := hP
                  have hD : va_D A [(x, .inr (5, [.int (zi_n 0), .ref a, .int (zi_n n), .int (zi_n rd), .int (zi_n br), .ref a2, .ref a3, .int (zi_n v), .int (zi_n ln)])), (a, .inl (cA, 600, .inl (zi_F F))), (a2, .inl (cB, 600, .inl (zi_F P))), (a3, .inl (cC, 600, .inl (zi_F (zi_up G (zh_sp p0 v).toNat (p1.tdiv 256)))))] := hD
                  refine lv_aload_n hx hb dX4_set_134 rfl (lv_at hl 2 rfl) ?_
                  refine va_get (D := D) (ci := 5) (v := .ref a3) (C := RX4) (T := TX4) (N := 9) hx hb hts in_X4_set_X4 hown hK hP 0 rfl rfl 6 (by decide) (hts (.fieldLink RX4 16 "ZHeadsModel" "memory" "[I") (by decide +kernel)) (fun _ h9 => h9) rfl dX4_set_135 ?_
                  refine lv_iload_n hx hb dX4_set_138 rfl (lv_at hl 1 rfl) ?_
                  refine zr_iconst hx hb dX4_set_139 ?_
                  refine zr_iadd hx hb dX4_set_140 ?_
                  refine lv_iload_n hx hb dX4_set_141 rfl (lv_at hl 4 rfl) ?_
                  refine zr_sipush hx hb dX4_set_142 (by decide) ?_
                  refine zr_irem hx hb dX4_set_145 (by omega) (by omega) (by omega) (by omega) ?_
                  refine zr_iast (x := p1 % 256) hx hb hK hP hD hS 3 2 rfl rfl (by decide) (by omega) dX4_set_146 (fun H locs hP hD hS => ?_)
                  have hF_60 : zi_By (zi_up (zi_up G (zh_sp p0 v).toNat (p1.tdiv 256)) ((zh_sp p0 v) + 1).toNat (p1 % 256)) := zi_up_By hF_59 _ (by omega)
                  have hP : va_P D vwCl [(x, .inr (5, [.int (zi_n 0), .ref a, .int (zi_n n), .int (zi_n rd), .int (zi_n br), .ref a2, .ref a3, .int (zi_n v), .int (zi_n ln)])), (a, .inl (cA, 600, .inl (zi_F F))), (a2, .inl (cB, 600, .inl (zi_F P))), (a3, .inl (cC, 600, .inl (zi_F (zi_up (zi_up G (zh_sp p0 v).toNat (p1.tdiv 256)) ((zh_sp p0 v) + 1).toNat (p1 % 256)))))] H := hP
                  have hD : va_D A [(x, .inr (5, [.int (zi_n 0), .ref a, .int (zi_n n), .int (zi_n rd), .int (zi_n br), .ref a2, .ref a3, .int (zi_n v), .int (zi_n ln)])), (a, .inl (cA, 600, .inl (zi_F F))), (a2, .inl (cB, 600, .inl (zi_F P))), (a3, .inl (cC, 600, .inl (zi_F (zi_up (zi_up G (zh_sp p0 v).toNat (p1.tdiv 256)) ((zh_sp p0 v) + 1).toNat (p1 % 256)))))] := hD
                  refine lv_goto (tgt := 157) hx hb dX4_set_147 (by decide) ?_
                  refine lv_iload hx hb dX4_set_157 (lv_at hl 0 rfl) ?_
                  have e_n_61_0 : zh_seG F G n rd p0 p1 = zi_up (zi_up G (zh_sp p0 v).toNat (p1.tdiv 256)) ((zh_sp p0 v) + 1).toNat (p1 % 256) := by unfold zh_seG; rw [zh_if_t (by refine ⟨by omega, by unfold zh_seB; omega, ?_⟩; unfold zh_sf; (repeat' split) <;> omega), ← (show v = F 0 by omega)]; first | (rw [if_pos (by omega)]; unfold zh_put; rw [if_pos (by omega), if_pos (by omega), show p1 / 256 % 256 = p1.tdiv 256 by omega]; done) | (rw [if_neg (by omega)]; unfold zh_put; rw [if_pos (by omega), show p1 % 256 = p1 by omega])
                  have hP9 : va_P D vwCl [(x, .inr (5, [.int (zi_n 0), .ref a, .int (zi_n n), .int (zi_n rd), .int (zi_n br), .ref a2, .ref a3, .int (zi_n v), .int (zi_n ln)])), (a, .inl (cA, 600, .inl (zi_F F))), (a2, .inl (cB, 600, .inl (zi_F P))), (a3, .inl (cC, 600, .inl (zi_F (zh_seG F G n rd p0 p1))))] H := by rw [e_n_61_0]; exact hP
                  have hD9 : va_D A [(x, .inr (5, [.int (zi_n 0), .ref a, .int (zi_n n), .int (zi_n rd), .int (zi_n br), .ref a2, .ref a3, .int (zi_n v), .int (zi_n ln)])), (a, .inl (cA, 600, .inl (zi_F F))), (a2, .inl (cB, 600, .inl (zi_F P))), (a3, .inl (cC, 600, .inl (zi_F (zh_seG F G n rd p0 p1))))] := by rw [e_n_61_0]; exact hD
                  exact W.iret (v := zi_n ((256 * (G (zh_sp p0 v).toNat)) + (G ((zh_sp p0 v) + 1).toNat))) hx hb hr (fun t ht hW => ⟨⟨zi_n ((256 * (G (zh_sp p0 v).toNat)) + (G ((zh_sp p0 v) + 1).toNat)), (), rfl, zl_r (by unfold zh_seE; rw [if_neg (by omega), zh_if_t (by unfold zh_seB; omega), if_neg (by unfold zh_sf; (repeat' split) <;> omega), ← (show v = F 0 by omega)]; first | (rw [if_pos (by omega), zh_two_T (by omega)]; rfl) | (rw [if_neg (by omega), zh_at_in (by omega)])) (by omega), by rw [ht]; exact hP9, va_K.moved hW.alike hK, hD9⟩, hS.F ht⟩) hS.2.2 dX4_set_159
                · unfold zh_wide at c_56
                  refine zr_if_eq (tgt := 150) hx hb dX4_set_103 (by decide) (by omega) (fun c_62 => ?_) (fun c => absurd c (by decide))
                  refine lv_aload_n hx hb dX4_set_150 rfl (lv_at hl 2 rfl) ?_
                  refine va_get (D := D) (ci := 5) (v := .ref a3) (C := RX4) (T := TX4) (N := 9) hx hb hts in_X4_set_X4 hown hK hP 0 rfl rfl 6 (by decide) (hts (.fieldLink RX4 16 "ZHeadsModel" "memory" "[I") (by decide +kernel)) (fun _ h9 => h9) rfl dX4_set_151 ?_
                  refine lv_iload_n hx hb dX4_set_154 rfl (lv_at hl 1 rfl) ?_
                  refine lv_iload_n hx hb dX4_set_155 rfl (lv_at hl 4 rfl) ?_
                  refine zr_iast (x := p1) hx hb hK hP hD hS 3 2 rfl rfl (by decide) (by omega) dX4_set_156 (fun H locs hP hD hS => ?_)
                  have hF_63 : zi_By (zi_up G (zh_sp p0 v).toNat p1) := zi_up_By hG _ (by omega)
                  have hP : va_P D vwCl [(x, .inr (5, [.int (zi_n 0), .ref a, .int (zi_n n), .int (zi_n rd), .int (zi_n br), .ref a2, .ref a3, .int (zi_n v), .int (zi_n ln)])), (a, .inl (cA, 600, .inl (zi_F F))), (a2, .inl (cB, 600, .inl (zi_F P))), (a3, .inl (cC, 600, .inl (zi_F (zi_up G (zh_sp p0 v).toNat p1))))] H := hP
                  have hD : va_D A [(x, .inr (5, [.int (zi_n 0), .ref a, .int (zi_n n), .int (zi_n rd), .int (zi_n br), .ref a2, .ref a3, .int (zi_n v), .int (zi_n ln)])), (a, .inl (cA, 600, .inl (zi_F F))), (a2, .inl (cB, 600, .inl (zi_F P))), (a3, .inl (cC, 600, .inl (zi_F (zi_up G (zh_sp p0 v).toNat p1))))] := hD
                  refine lv_iload hx hb dX4_set_157 (lv_at hl 0 rfl) ?_
                  have e_n_64_0 : zh_seG F G n rd p0 p1 = zi_up G (zh_sp p0 v).toNat p1 := by unfold zh_seG; rw [zh_if_t (by refine ⟨by omega, by unfold zh_seB; omega, ?_⟩; unfold zh_sf; (repeat' split) <;> omega), ← (show v = F 0 by omega)]; first | (rw [if_pos (by omega)]; unfold zh_put; rw [if_pos (by omega), if_pos (by omega), show p1 / 256 % 256 = p1.tdiv 256 by omega]; done) | (rw [if_neg (by omega)]; unfold zh_put; rw [if_pos (by omega), show p1 % 256 = p1 by omega])
                  have hP9 : va_P D vwCl [(x, .inr (5, [.int (zi_n 0), .ref a, .int (zi_n n), .int (zi_n rd), .int (zi_n br), .ref a2, .ref a3, .int (zi_n v), .int (zi_n ln)])), (a, .inl (cA, 600, .inl (zi_F F))), (a2, .inl (cB, 600, .inl (zi_F P))), (a3, .inl (cC, 600, .inl (zi_F (zh_seG F G n rd p0 p1))))] H := by rw [e_n_64_0]; exact hP
                  have hD9 : va_D A [(x, .inr (5, [.int (zi_n 0), .ref a, .int (zi_n n), .int (zi_n rd), .int (zi_n br), .ref a2, .ref a3, .int (zi_n v), .int (zi_n ln)])), (a, .inl (cA, 600, .inl (zi_F F))), (a2, .inl (cB, 600, .inl (zi_F P))), (a3, .inl (cC, 600, .inl (zi_F (zh_seG F G n rd p0 p1))))] := by rw [e_n_64_0]; exact hD
                  exact W.iret (v := zi_n (G (zh_sp p0 v).toNat)) hx hb hr (fun t ht hW => ⟨⟨zi_n (G (zh_sp p0 v).toNat), (), rfl, zl_r (by unfold zh_seE; rw [if_neg (by omega), zh_if_t (by unfold zh_seB; omega), if_neg (by unfold zh_sf; (repeat' split) <;> omega), ← (show v = F 0 by omega)]; first | (rw [if_pos (by omega), zh_two_T (by omega)]; rfl) | (rw [if_neg (by omega), zh_at_in (by omega)])) (by omega), by rw [ht]; exact hP9, va_K.moved hW.alike hK, hD9⟩, hS.F ht⟩) hS.2.2 dX4_set_159
        · refine zr_if_ne (tgt := 51) hx hb dX4_set_45 (by decide) (by omega) (fun c => absurd c (by decide)) (fun c_65 => ?_)
          refine zr_bipush hx hb dX4_set_48 (by decide) ?_
          have e_n_66_0 : zh_seG F G n rd p0 p1 = G := by unfold zh_seG; exact zh_if_f (by intro h; have := h.2.1; unfold zh_seB at this; omega) _ _
          have hP9 : va_P D vwCl [(x, .inr (5, [.int (zi_n 0), .ref a, .int (zi_n n), .int (zi_n rd), .int (zi_n br), .ref a2, .ref a3, .int (zi_n v), .int (zi_n ln)])), (a, .inl (cA, 600, .inl (zi_F F))), (a2, .inl (cB, 600, .inl (zi_F P))), (a3, .inl (cC, 600, .inl (zi_F (zh_seG F G n rd p0 p1))))] H := by rw [e_n_66_0]; exact hP
          have hD9 : va_D A [(x, .inr (5, [.int (zi_n 0), .ref a, .int (zi_n n), .int (zi_n rd), .int (zi_n br), .ref a2, .ref a3, .int (zi_n v), .int (zi_n ln)])), (a, .inl (cA, 600, .inl (zi_F F))), (a2, .inl (cB, 600, .inl (zi_F P))), (a3, .inl (cC, 600, .inl (zi_F (zh_seG F G n rd p0 p1))))] := by rw [e_n_66_0]; exact hD
          exact W.iret (v := zi_n (-12)) hx hb hr (fun t ht hW => ⟨⟨zi_n (-12), (), rfl, zl_r (by unfold zh_seE; rw [if_neg (by omega), zh_if_f (by unfold zh_seB; omega)]) (by omega), by rw [ht]; exact hP9, va_K.moved hW.alike hK, hD9⟩, hS.F ht⟩) hS.2.2 dX4_set_50
      · unfold zh_wide at c_4
        refine zr_if_eq (tgt := 39) hx hb dX4_set_31 (by decide) (by omega) (fun c_67 => ?_) (fun c => absurd c (by decide))
        refine zr_sipush hx hb dX4_set_39 (by decide) ?_
        refine zc_S (As := [.int (zi_n p1), .int (zi_n 0), .int (zi_n 255)]) (rest := []) ⟨hx, hb, hml, hown, hts⟩ (c_M_in l p1 0 255 (by omega) (by omega) (by omega)) (va_cwS 3 hts gX4_set_X4_in rfl rfl rfl (by decide +kernel) ⟨(Nat.le_of_ble_eq_true rfl), (Nat.le_of_ble_eq_true rfl)⟩) rfl hl.1 rfl (Nat.le_of_ble_eq_true rfl) dX4_set_42 ⟨Nat.zero_le _, Nat.zero_le _⟩ (fun r hr1 => ?_)
        rcases hr1 with ⟨rfl, c_68⟩ | ⟨rfl, c_68⟩
        · refine zr_if_ne (tgt := 51) hx hb dX4_set_45 (by decide) (by omega) (fun c_69 => ?_) (fun c => absurd c (by decide))
          refine lv_iload_n hx hb dX4_set_51 rfl (lv_at hl 1 rfl) ?_
          refine zr_iconst hx hb dX4_set_52 ?_
          refine zr_icmp_ge (tgt := 64) hx hb dX4_set_53 (by decide) (by omega) (by omega) (fun c_70 => ?_) (fun c_70 => ?_)
          · refine lv_iload_n hx hb dX4_set_64 rfl (lv_at hl 1 rfl) ?_
            refine zr_iconst hx hb dX4_set_65 ?_
            refine zr_bipush hx hb dX4_set_66 (by decide) ?_
            refine zc_S (As := [.int (zi_n p0), .int (zi_n 4), .int (zi_n 9)]) (rest := []) ⟨hx, hb, hml, hown, hts⟩ (c_M_in l p0 4 9 (by omega) (by omega) (by omega)) (va_cwS 3 hts gX4_set_X4_in rfl rfl rfl (by decide +kernel) ⟨(Nat.le_of_ble_eq_true rfl), (Nat.le_of_ble_eq_true rfl)⟩) rfl hl.1 rfl (Nat.le_of_ble_eq_true rfl) dX4_set_68 ⟨Nat.zero_le _, Nat.zero_le _⟩ (fun r hr1 => ?_)
            rcases hr1 with ⟨rfl, c_71⟩ | ⟨rfl, c_71⟩
            · refine zr_if_eq (tgt := 85) hx hb dX4_set_71 (by decide) (by omega) (fun c => absurd c (by decide)) (fun c_72 => ?_)
              refine lv_aload_n hx hb dX4_set_74 rfl (lv_at hl 0 rfl) ?_
              refine va_get (D := D) (ci := 5) (v := .int (zi_n v)) (C := RX4) (T := TX4) (N := 9) hx hb hts in_X4_set_X4 hown hK hP 0 rfl rfl 7 (by decide) (hts (.fieldLink RX4 51 "ZHeadsModel" "version" "I") (by decide +kernel)) (fun _ h9 => h9) rfl dX4_set_75 ?_
              refine zr_iconst hx hb dX4_set_78 ?_
              refine zr_icmp_ge (tgt := 85) hx hb dX4_set_79 (by decide) (by omega) (by omega) (fun c_73 => ?_) (fun c_73 => ?_)
              · have htd : p1.tdiv 256 = p1 / 256 := Int.tdiv_eq_ediv_of_nonneg (by omega)
                refine lv_aload_n hx hb dX4_set_85 rfl (lv_at hl 0 rfl) ?_
                refine lv_iload_n hx hb dX4_set_86 rfl (lv_at hl 1 rfl) ?_
                refine zc_V (As := [.int (zi_n p0)]) (rest := []) ⟨hx, hb, hml, hown, hts⟩ (c_M_placeSet l D x a a2 a3 cA cB cC F P G n rd br v ln 0 hF (by omega) hP0 hG (by omega) (by omega) (by omega) (by omega) (by omega) p0 (by omega)) (cwV 1 hts gX4_set_X4_placeSet rfl rfl rfl (by decide +kernel) ⟨(Nat.le_of_ble_eq_true rfl), (Nat.le_of_ble_eq_true rfl)⟩) hP hK [0, 1, 2, 3] [0, 1, 2] rfl rfl (ci := 5) rfl rfl rfl rfl hl.1 rfl (Nat.le_of_ble_eq_true rfl) dX4_set_87 ⟨Nat.zero_le _, Nat.zero_le _⟩ (fun r hr1 => ?_)
                obtain ⟨rfl, b_74⟩ := hr1
                refine lv_istore_n (lv' := [(3, .int (zi_n (zh_sp p0 v))), (0, .ref x), (1, .int (zi_n p0)), (2, .int (zi_n p1))]) hx hb dX4_set_90 rfl hl (by decide) rfl (fun ls hl => ?_)
                refine lv_aload_n hx hb dX4_set_91 rfl (lv_at hl 1 rfl) ?_
                refine va_get (D := D) (ci := 5) (v := .ref a3) (C := RX4) (T := TX4) (N := 9) hx hb hts in_X4_set_X4 hown hK hP 0 rfl rfl 6 (by decide) (hts (.fieldLink RX4 16 "ZHeadsModel" "memory" "[I") (by decide +kernel)) (fun _ h9 => h9) rfl dX4_set_92 ?_
                refine lv_iload_n hx hb dX4_set_95 rfl (lv_at hl 0 rfl) ?_
                refine zr_iald hx hb hK hP 3 2 rfl rfl (by decide) (by omega) dX4_set_96 ?_
                have b_75 := hG (zh_sp p0 v).toNat
                refine lv_istore (lv' := [(4, .int (zi_n (G (zh_sp p0 v).toNat))), (3, .int (zi_n (zh_sp p0 v))), (0, .ref x), (1, .int (zi_n p0)), (2, .int (zi_n p1))]) hx hb dX4_set_97 hl (by decide) rfl (fun ls hl => ?_)
                refine lv_iload_n hx hb dX4_set_99 rfl (lv_at hl 3 rfl) ?_
                refine zc_S (As := [.int (zi_n p0)]) (rest := []) ⟨hx, hb, hml, hown, hts⟩ (c_M_isWide l p0 (by omega)) (va_cwS 1 hts gX4_set_X4_isWide rfl rfl rfl (by decide +kernel) ⟨(Nat.le_of_ble_eq_true rfl), (Nat.le_of_ble_eq_true rfl)⟩) rfl hl.1 rfl (Nat.le_of_ble_eq_true rfl) dX4_set_100 ⟨Nat.zero_le _, Nat.zero_le _⟩ (fun r hr1 => ?_)
                rcases hr1 with ⟨rfl, c_76⟩ | ⟨rfl, c_76⟩
                · unfold zh_wide at c_76
                  refine zr_if_eq (tgt := 150) hx hb dX4_set_103 (by decide) (by omega) (fun c => absurd c (by decide)) (fun c_77 => ?_)
                  refine zr_sipush hx hb dX4_set_106 (by decide) ?_
                  refine lv_iload hx hb dX4_set_109 (lv_at hl 0 rfl) ?_
                  refine zr_imul hx hb dX4_set_111 ?_
                  refine lv_aload_n hx hb dX4_set_112 rfl (lv_at hl 2 rfl) ?_
                  refine va_get (D := D) (ci := 5) (v := .ref a3) (C := RX4) (T := TX4) (N := 9) hx hb hts in_X4_set_X4 hown hK hP 0 rfl rfl 6 (by decide) (hts (.fieldLink RX4 16 "ZHeadsModel" "memory" "[I") (by decide +kernel)) (fun _ h9 => h9) rfl dX4_set_113 ?_
                  refine lv_iload_n hx hb dX4_set_116 rfl (lv_at hl 1 rfl) ?_
                  refine zr_iconst hx hb dX4_set_117 ?_
                  refine zr_iadd hx hb dX4_set_118 ?_
                  refine zr_iald hx hb hK hP 3 2 rfl rfl (by decide) (by omega) dX4_set_119 ?_
                  have b_78 := hG ((zh_sp p0 v) + 1).toNat
                  refine zr_iadd hx hb dX4_set_120 ?_
                  refine lv_istore (lv' := [(4, .int (zi_n ((256 * (G (zh_sp p0 v).toNat)) + (G ((zh_sp p0 v) + 1).toNat)))), (3, .int (zi_n (zh_sp p0 v))), (0, .ref x), (1, .int (zi_n p0)), (2, .int (zi_n p1))]) hx hb dX4_set_121 hl (by decide) rfl (fun ls hl => ?_)
                  refine lv_aload_n hx hb dX4_set_123 rfl (lv_at hl 2 rfl) ?_
                  refine va_get (D := D) (ci := 5) (v := .ref a3) (C := RX4) (T := TX4) (N := 9) hx hb hts in_X4_set_X4 hown hK hP 0 rfl rfl 6 (by decide) (hts (.fieldLink RX4 16 "ZHeadsModel" "memory" "[I") (by decide +kernel)) (fun _ h9 => h9) rfl dX4_set_124 ?_
                  refine lv_iload_n hx hb dX4_set_127 rfl (lv_at hl 1 rfl) ?_
                  refine lv_iload_n hx hb dX4_set_128 rfl (lv_at hl 4 rfl) ?_
                  refine zr_sipush hx hb dX4_set_129 (by decide) ?_
                  refine zr_idiv hx hb dX4_set_132 (by omega) (by omega) (by omega) (by omega) ?_
                  refine zr_iast (x := p1.tdiv 256) hx hb hK hP hD hS 3 2 rfl rfl (by decide) (by omega) dX4_set_133 (fun H locs hP hD hS => ?_)
                  have hF_79 : zi_By (zi_up G (zh_sp p0 v).toNat (p1.tdiv 256)) := zi_up_By hG _ (by omega)
                  have hP : va_P D vwCl [(x, .inr (5, [.int (zi_n 0), .ref a, .int (zi_n n), .int (zi_n rd), .int (zi_n br), .ref a2, .ref a3, .int (zi_n v), .int (zi_n ln)])), (a, .inl (cA, 600, .inl (zi_F F))), (a2, .inl (cB, 600, .inl (zi_F P))), (a3, .inl (cC, 600, .inl (zi_F (zi_up G (zh_sp p0 v).toNat (p1.tdiv 256)))))] H := hP
                  have hD : va_D A [(x, .inr (5, [.int (zi_n 0), .ref a, .int (zi_n n), .int (zi_n rd), .int (zi_n br), .ref a2, .ref a3, .int (zi_n v), .int (zi_n ln)])), (a, .inl (cA, 600, .inl (zi_F F))), (a2, .inl (cB, 600, .inl (zi_F P))), (a3, .inl (cC, 600, .inl (zi_F (zi_up G (zh_sp p0 v).toNat (p1.tdiv 256)))))] := hD
                  refine lv_aload_n hx hb dX4_set_134 rfl (lv_at hl 2 rfl) ?_
                  refine va_get (D := D) (ci := 5) (v := .ref a3) (C := RX4) (T := TX4) (N := 9) hx hb hts in_X4_set_X4 hown hK hP 0 rfl rfl 6 (by decide) (hts (.fieldLink RX4 16 "ZHeadsModel" "memory" "[I") (by decide +kernel)) (fun _ h9 => h9) rfl dX4_set_135 ?_
                  refine lv_iload_n hx hb dX4_set_138 rfl (lv_at hl 1 rfl) ?_
                  refine zr_iconst hx hb dX4_set_139 ?_
                  refine zr_iadd hx hb dX4_set_140 ?_
                  refine lv_iload_n hx hb dX4_set_141 rfl (lv_at hl 4 rfl) ?_
                  refine zr_sipush hx hb dX4_set_142 (by decide) ?_
                  refine zr_irem hx hb dX4_set_145 (by omega) (by omega) (by omega) (by omega) ?_
                  refine zr_iast (x := p1 % 256) hx hb hK hP hD hS 3 2 rfl rfl (by decide) (by omega) dX4_set_146 (fun H locs hP hD hS => ?_)
                  have hF_80 : zi_By (zi_up (zi_up G (zh_sp p0 v).toNat (p1.tdiv 256)) ((zh_sp p0 v) + 1).toNat (p1 % 256)) := zi_up_By hF_79 _ (by omega)
                  have hP : va_P D vwCl [(x, .inr (5, [.int (zi_n 0), .ref a, .int (zi_n n), .int (zi_n rd), .int (zi_n br), .ref a2, .ref a3, .int (zi_n v), .int (zi_n ln)])), (a, .inl (cA, 600, .inl (zi_F F))), (a2, .inl (cB, 600, .inl (zi_F P))), (a3, .inl (cC, 600, .inl (zi_F (zi_up (zi_up G (zh_sp p0 v).toNat (p1.tdiv 256)) ((zh_sp p0 v) + 1).toNat (p1 % 256)))))] H := hP
                  have hD : va_D A [(x, .inr (5, [.int (zi_n 0), .ref a, .int (zi_n n), .int (zi_n rd), .int (zi_n br), .ref a2, .ref a3, .int (zi_n v), .int (zi_n ln)])), (a, .inl (cA, 600, .inl (zi_F F))), (a2, .inl (cB, 600, .inl (zi_F P))), (a3, .inl (cC, 600, .inl (zi_F (zi_up (zi_up G (zh_sp p0 v).toNat (p1.tdiv 256)) ((zh_sp p0 v) + 1).toNat (p1 % 256)))))] := hD
                  refine lv_goto (tgt := 157) hx hb dX4_set_147 (by decide) ?_
                  refine lv_iload hx hb dX4_set_157 (lv_at hl 0 rfl) ?_
                  have e_n_81_0 : zh_seG F G n rd p0 p1 = zi_up (zi_up G (zh_sp p0 v).toNat (p1.tdiv 256)) ((zh_sp p0 v) + 1).toNat (p1 % 256) := by unfold zh_seG; rw [zh_if_t (by refine ⟨by omega, by unfold zh_seB; omega, ?_⟩; unfold zh_sf; (repeat' split) <;> omega), ← (show v = F 0 by omega)]; first | (rw [if_pos (by omega)]; unfold zh_put; rw [if_pos (by omega), if_pos (by omega), show p1 / 256 % 256 = p1.tdiv 256 by omega]; done) | (rw [if_neg (by omega)]; unfold zh_put; rw [if_pos (by omega), show p1 % 256 = p1 by omega])
                  have hP9 : va_P D vwCl [(x, .inr (5, [.int (zi_n 0), .ref a, .int (zi_n n), .int (zi_n rd), .int (zi_n br), .ref a2, .ref a3, .int (zi_n v), .int (zi_n ln)])), (a, .inl (cA, 600, .inl (zi_F F))), (a2, .inl (cB, 600, .inl (zi_F P))), (a3, .inl (cC, 600, .inl (zi_F (zh_seG F G n rd p0 p1))))] H := by rw [e_n_81_0]; exact hP
                  have hD9 : va_D A [(x, .inr (5, [.int (zi_n 0), .ref a, .int (zi_n n), .int (zi_n rd), .int (zi_n br), .ref a2, .ref a3, .int (zi_n v), .int (zi_n ln)])), (a, .inl (cA, 600, .inl (zi_F F))), (a2, .inl (cB, 600, .inl (zi_F P))), (a3, .inl (cC, 600, .inl (zi_F (zh_seG F G n rd p0 p1))))] := by rw [e_n_81_0]; exact hD
                  exact W.iret (v := zi_n ((256 * (G (zh_sp p0 v).toNat)) + (G ((zh_sp p0 v) + 1).toNat))) hx hb hr (fun t ht hW => ⟨⟨zi_n ((256 * (G (zh_sp p0 v).toNat)) + (G ((zh_sp p0 v) + 1).toNat)), (), rfl, zl_r (by unfold zh_seE; rw [if_neg (by omega), zh_if_t (by unfold zh_seB; omega), if_neg (by unfold zh_sf; (repeat' split) <;> omega), ← (show v = F 0 by omega)]; first | (rw [if_pos (by omega), zh_two_T (by omega)]; rfl) | (rw [if_neg (by omega), zh_at_in (by omega)])) (by omega), by rw [ht]; exact hP9, va_K.moved hW.alike hK, hD9⟩, hS.F ht⟩) hS.2.2 dX4_set_159
                · unfold zh_wide at c_76
                  refine zr_if_eq (tgt := 150) hx hb dX4_set_103 (by decide) (by omega) (fun c_82 => ?_) (fun c => absurd c (by decide))
                  refine lv_aload_n hx hb dX4_set_150 rfl (lv_at hl 2 rfl) ?_
                  refine va_get (D := D) (ci := 5) (v := .ref a3) (C := RX4) (T := TX4) (N := 9) hx hb hts in_X4_set_X4 hown hK hP 0 rfl rfl 6 (by decide) (hts (.fieldLink RX4 16 "ZHeadsModel" "memory" "[I") (by decide +kernel)) (fun _ h9 => h9) rfl dX4_set_151 ?_
                  refine lv_iload_n hx hb dX4_set_154 rfl (lv_at hl 1 rfl) ?_
                  refine lv_iload_n hx hb dX4_set_155 rfl (lv_at hl 4 rfl) ?_
                  refine zr_iast (x := p1) hx hb hK hP hD hS 3 2 rfl rfl (by decide) (by omega) dX4_set_156 (fun H locs hP hD hS => ?_)
                  have hF_83 : zi_By (zi_up G (zh_sp p0 v).toNat p1) := zi_up_By hG _ (by omega)
                  have hP : va_P D vwCl [(x, .inr (5, [.int (zi_n 0), .ref a, .int (zi_n n), .int (zi_n rd), .int (zi_n br), .ref a2, .ref a3, .int (zi_n v), .int (zi_n ln)])), (a, .inl (cA, 600, .inl (zi_F F))), (a2, .inl (cB, 600, .inl (zi_F P))), (a3, .inl (cC, 600, .inl (zi_F (zi_up G (zh_sp p0 v).toNat p1))))] H := hP
                  have hD : va_D A [(x, .inr (5, [.int (zi_n 0), .ref a, .int (zi_n n), .int (zi_n rd), .int (zi_n br), .ref a2, .ref a3, .int (zi_n v), .int (zi_n ln)])), (a, .inl (cA, 600, .inl (zi_F F))), (a2, .inl (cB, 600, .inl (zi_F P))), (a3, .inl (cC, 600, .inl (zi_F (zi_up G (zh_sp p0 v).toNat p1))))] := hD
                  refine lv_iload hx hb dX4_set_157 (lv_at hl 0 rfl) ?_
                  have e_n_84_0 : zh_seG F G n rd p0 p1 = zi_up G (zh_sp p0 v).toNat p1 := by unfold zh_seG; rw [zh_if_t (by refine ⟨by omega, by unfold zh_seB; omega, ?_⟩; unfold zh_sf; (repeat' split) <;> omega), ← (show v = F 0 by omega)]; first | (rw [if_pos (by omega)]; unfold zh_put; rw [if_pos (by omega), if_pos (by omega), show p1 / 256 % 256 = p1.tdiv 256 by omega]; done) | (rw [if_neg (by omega)]; unfold zh_put; rw [if_pos (by omega), show p1 % 256 = p1 by omega])
                  have hP9 : va_P D vwCl [(x, .inr (5, [.int (zi_n 0), .ref a, .int (zi_n n), .int (zi_n rd), .int (zi_n br), .ref a2, .ref a3, .int (zi_n v), .int (zi_n ln)])), (a, .inl (cA, 600, .inl (zi_F F))), (a2, .inl (cB, 600, .inl (zi_F P))), (a3, .inl (cC, 600, .inl (zi_F (zh_seG F G n rd p0 p1))))] H := by rw [e_n_84_0]; exact hP
                  have hD9 : va_D A [(x, .inr (5, [.int (zi_n 0), .ref a, .int (zi_n n), .int (zi_n rd), .int (zi_n br), .ref a2, .ref a3, .int (zi_n v), .int (zi_n ln)])), (a, .inl (cA, 600, .inl (zi_F F))), (a2, .inl (cB, 600, .inl (zi_F P))), (a3, .inl (cC, 600, .inl (zi_F (zh_seG F G n rd p0 p1))))] := by rw [e_n_84_0]; exact hD
                  exact W.iret (v := zi_n (G (zh_sp p0 v).toNat)) hx hb hr (fun t ht hW => ⟨⟨zi_n (G (zh_sp p0 v).toNat), (), rfl, zl_r (by unfold zh_seE; rw [if_neg (by omega), zh_if_t (by unfold zh_seB; omega), if_neg (by unfold zh_sf; (repeat' split) <;> omega), ← (show v = F 0 by omega)]; first | (rw [if_pos (by omega), zh_two_T (by omega)]; rfl) | (rw [if_neg (by omega), zh_at_in (by omega)])) (by omega), by rw [ht]; exact hP9, va_K.moved hW.alike hK, hD9⟩, hS.F ht⟩) hS.2.2 dX4_set_159
              · refine zr_bipush hx hb dX4_set_82 (by decide) ?_
                have e_n_85_0 : zh_seG F G n rd p0 p1 = G := by unfold zh_seG; exact zh_if_f (by intro h; exact h.2.2 (by unfold zh_sf; (repeat' split) <;> omega)) _ _
                have hP9 : va_P D vwCl [(x, .inr (5, [.int (zi_n 0), .ref a, .int (zi_n n), .int (zi_n rd), .int (zi_n br), .ref a2, .ref a3, .int (zi_n v), .int (zi_n ln)])), (a, .inl (cA, 600, .inl (zi_F F))), (a2, .inl (cB, 600, .inl (zi_F P))), (a3, .inl (cC, 600, .inl (zi_F (zh_seG F G n rd p0 p1))))] H := by rw [e_n_85_0]; exact hP
                have hD9 : va_D A [(x, .inr (5, [.int (zi_n 0), .ref a, .int (zi_n n), .int (zi_n rd), .int (zi_n br), .ref a2, .ref a3, .int (zi_n v), .int (zi_n ln)])), (a, .inl (cA, 600, .inl (zi_F F))), (a2, .inl (cB, 600, .inl (zi_F P))), (a3, .inl (cC, 600, .inl (zi_F (zh_seG F G n rd p0 p1))))] := by rw [e_n_85_0]; exact hD
                exact W.iret (v := zi_n (-13)) hx hb hr (fun t ht hW => ⟨⟨zi_n (-13), (), rfl, zl_r (by unfold zh_seE; rw [if_neg (by omega), zh_if_t (by unfold zh_seB; omega), if_pos (by unfold zh_sf; (repeat' split) <;> omega)]) (by omega), by rw [ht]; exact hP9, va_K.moved hW.alike hK, hD9⟩, hS.F ht⟩) hS.2.2 dX4_set_84
            · refine zr_if_eq (tgt := 85) hx hb dX4_set_71 (by decide) (by omega) (fun c_86 => ?_) (fun c => absurd c (by decide))
              have htd : p1.tdiv 256 = p1 / 256 := Int.tdiv_eq_ediv_of_nonneg (by omega)
              refine lv_aload_n hx hb dX4_set_85 rfl (lv_at hl 0 rfl) ?_
              refine lv_iload_n hx hb dX4_set_86 rfl (lv_at hl 1 rfl) ?_
              refine zc_V (As := [.int (zi_n p0)]) (rest := []) ⟨hx, hb, hml, hown, hts⟩ (c_M_placeSet l D x a a2 a3 cA cB cC F P G n rd br v ln 0 hF (by omega) hP0 hG (by omega) (by omega) (by omega) (by omega) (by omega) p0 (by omega)) (cwV 1 hts gX4_set_X4_placeSet rfl rfl rfl (by decide +kernel) ⟨(Nat.le_of_ble_eq_true rfl), (Nat.le_of_ble_eq_true rfl)⟩) hP hK [0, 1, 2, 3] [0, 1, 2] rfl rfl (ci := 5) rfl rfl rfl rfl hl.1 rfl (Nat.le_of_ble_eq_true rfl) dX4_set_87 ⟨Nat.zero_le _, Nat.zero_le _⟩ (fun r hr1 => ?_)
              obtain ⟨rfl, b_87⟩ := hr1
              refine lv_istore_n (lv' := [(3, .int (zi_n (zh_sp p0 v))), (0, .ref x), (1, .int (zi_n p0)), (2, .int (zi_n p1))]) hx hb dX4_set_90 rfl hl (by decide) rfl (fun ls hl => ?_)
              refine lv_aload_n hx hb dX4_set_91 rfl (lv_at hl 1 rfl) ?_
              refine va_get (D := D) (ci := 5) (v := .ref a3) (C := RX4) (T := TX4) (N := 9) hx hb hts in_X4_set_X4 hown hK hP 0 rfl rfl 6 (by decide) (hts (.fieldLink RX4 16 "ZHeadsModel" "memory" "[I") (by decide +kernel)) (fun _ h9 => h9) rfl dX4_set_92 ?_
              refine lv_iload_n hx hb dX4_set_95 rfl (lv_at hl 0 rfl) ?_
              refine zr_iald hx hb hK hP 3 2 rfl rfl (by decide) (by omega) dX4_set_96 ?_
              have b_88 := hG (zh_sp p0 v).toNat
              refine lv_istore (lv' := [(4, .int (zi_n (G (zh_sp p0 v).toNat))), (3, .int (zi_n (zh_sp p0 v))), (0, .ref x), (1, .int (zi_n p0)), (2, .int (zi_n p1))]) hx hb dX4_set_97 hl (by decide) rfl (fun ls hl => ?_)
              refine lv_iload_n hx hb dX4_set_99 rfl (lv_at hl 3 rfl) ?_
              refine zc_S (As := [.int (zi_n p0)]) (rest := []) ⟨hx, hb, hml, hown, hts⟩ (c_M_isWide l p0 (by omega)) (va_cwS 1 hts gX4_set_X4_isWide rfl rfl rfl (by decide +kernel) ⟨(Nat.le_of_ble_eq_true rfl), (Nat.le_of_ble_eq_true rfl)⟩) rfl hl.1 rfl (Nat.le_of_ble_eq_true rfl) dX4_set_100 ⟨Nat.zero_le _, Nat.zero_le _⟩ (fun r hr1 => ?_)
              rcases hr1 with ⟨rfl, c_89⟩ | ⟨rfl, c_89⟩
              · unfold zh_wide at c_89
                refine zr_if_eq (tgt := 150) hx hb dX4_set_103 (by decide) (by omega) (fun c => absurd c (by decide)) (fun c_90 => ?_)
                refine zr_sipush hx hb dX4_set_106 (by decide) ?_
                refine lv_iload hx hb dX4_set_109 (lv_at hl 0 rfl) ?_
                refine zr_imul hx hb dX4_set_111 ?_
                refine lv_aload_n hx hb dX4_set_112 rfl (lv_at hl 2 rfl) ?_
                refine va_get (D := D) (ci := 5) (v := .ref a3) (C := RX4) (T := TX4) (N := 9) hx hb hts in_X4_set_X4 hown hK hP 0 rfl rfl 6 (by decide) (hts (.fieldLink RX4 16 "ZHeadsModel" "memory" "[I") (by decide +kernel)) (fun _ h9 => h9) rfl dX4_set_113 ?_
                refine lv_iload_n hx hb dX4_set_116 rfl (lv_at hl 1 rfl) ?_
                refine zr_iconst hx hb dX4_set_117 ?_
                refine zr_iadd hx hb dX4_set_118 ?_
                refine zr_iald hx hb hK hP 3 2 rfl rfl (by decide) (by omega) dX4_set_119 ?_
                have b_91 := hG ((zh_sp p0 v) + 1).toNat
                refine zr_iadd hx hb dX4_set_120 ?_
                refine lv_istore (lv' := [(4, .int (zi_n ((256 * (G (zh_sp p0 v).toNat)) + (G ((zh_sp p0 v) + 1).toNat)))), (3, .int (zi_n (zh_sp p0 v))), (0, .ref x), (1, .int (zi_n p0)), (2, .int (zi_n p1))]) hx hb dX4_set_121 hl (by decide) rfl (fun ls hl => ?_)
                refine lv_aload_n hx hb dX4_set_123 rfl (lv_at hl 2 rfl) ?_
                refine va_get (D := D) (ci := 5) (v := .ref a3) (C := RX4) (T := TX4) (N := 9) hx hb hts in_X4_set_X4 hown hK hP 0 rfl rfl 6 (by decide) (hts (.fieldLink RX4 16 "ZHeadsModel" "memory" "[I") (by decide +kernel)) (fun _ h9 => h9) rfl dX4_set_124 ?_
                refine lv_iload_n hx hb dX4_set_127 rfl (lv_at hl 1 rfl) ?_
                refine lv_iload_n hx hb dX4_set_128 rfl (lv_at hl 4 rfl) ?_
                refine zr_sipush hx hb dX4_set_129 (by decide) ?_
                refine zr_idiv hx hb dX4_set_132 (by omega) (by omega) (by omega) (by omega) ?_
                refine zr_iast (x := p1.tdiv 256) hx hb hK hP hD hS 3 2 rfl rfl (by decide) (by omega) dX4_set_133 (fun H locs hP hD hS => ?_)
                have hF_92 : zi_By (zi_up G (zh_sp p0 v).toNat (p1.tdiv 256)) := zi_up_By hG _ (by omega)
                have hP : va_P D vwCl [(x, .inr (5, [.int (zi_n 0), .ref a, .int (zi_n n), .int (zi_n rd), .int (zi_n br), .ref a2, .ref a3, .int (zi_n v), .int (zi_n ln)])), (a, .inl (cA, 600, .inl (zi_F F))), (a2, .inl (cB, 600, .inl (zi_F P))), (a3, .inl (cC, 600, .inl (zi_F (zi_up G (zh_sp p0 v).toNat (p1.tdiv 256)))))] H := hP
                have hD : va_D A [(x, .inr (5, [.int (zi_n 0), .ref a, .int (zi_n n), .int (zi_n rd), .int (zi_n br), .ref a2, .ref a3, .int (zi_n v), .int (zi_n ln)])), (a, .inl (cA, 600, .inl (zi_F F))), (a2, .inl (cB, 600, .inl (zi_F P))), (a3, .inl (cC, 600, .inl (zi_F (zi_up G (zh_sp p0 v).toNat (p1.tdiv 256)))))] := hD
                refine lv_aload_n hx hb dX4_set_134 rfl (lv_at hl 2 rfl) ?_
                refine va_get (D := D) (ci := 5) (v := .ref a3) (C := RX4) (T := TX4) (N := 9) hx hb hts in_X4_set_X4 hown hK hP 0 rfl rfl 6 (by decide) (hts (.fieldLink RX4 16 "ZHeadsModel" "memory" "[I") (by decide +kernel)) (fun _ h9 => h9) rfl dX4_set_135 ?_
                refine lv_iload_n hx hb dX4_set_138 rfl (lv_at hl 1 rfl) ?_
                refine zr_iconst hx hb dX4_set_139 ?_
                refine zr_iadd hx hb dX4_set_140 ?_
                refine lv_iload_n hx hb dX4_set_141 rfl (lv_at hl 4 rfl) ?_
                refine zr_sipush hx hb dX4_set_142 (by decide) ?_
                refine zr_irem hx hb dX4_set_145 (by omega) (by omega) (by omega) (by omega) ?_
                refine zr_iast (x := p1 % 256) hx hb hK hP hD hS 3 2 rfl rfl (by decide) (by omega) dX4_set_146 (fun H locs hP hD hS => ?_)
                have hF_93 : zi_By (zi_up (zi_up G (zh_sp p0 v).toNat (p1.tdiv 256)) ((zh_sp p0 v) + 1).toNat (p1 % 256)) := zi_up_By hF_92 _ (by omega)
                have hP : va_P D vwCl [(x, .inr (5, [.int (zi_n 0), .ref a, .int (zi_n n), .int (zi_n rd), .int (zi_n br), .ref a2, .ref a3, .int (zi_n v), .int (zi_n ln)])), (a, .inl (cA, 600, .inl (zi_F F))), (a2, .inl (cB, 600, .inl (zi_F P))), (a3, .inl (cC, 600, .inl (zi_F (zi_up (zi_up G (zh_sp p0 v).toNat (p1.tdiv 256)) ((zh_sp p0 v) + 1).toNat (p1 % 256)))))] H := hP
                have hD : va_D A [(x, .inr (5, [.int (zi_n 0), .ref a, .int (zi_n n), .int (zi_n rd), .int (zi_n br), .ref a2, .ref a3, .int (zi_n v), .int (zi_n ln)])), (a, .inl (cA, 600, .inl (zi_F F))), (a2, .inl (cB, 600, .inl (zi_F P))), (a3, .inl (cC, 600, .inl (zi_F (zi_up (zi_up G (zh_sp p0 v).toNat (p1.tdiv 256)) ((zh_sp p0 v) + 1).toNat (p1 % 256)))))] := hD
                refine lv_goto (tgt := 157) hx hb dX4_set_147 (by decide) ?_
                refine lv_iload hx hb dX4_set_157 (lv_at hl 0 rfl) ?_
                have e_n_94_0 : zh_seG F G n rd p0 p1 = zi_up (zi_up G (zh_sp p0 v).toNat (p1.tdiv 256)) ((zh_sp p0 v) + 1).toNat (p1 % 256) := by unfold zh_seG; rw [zh_if_t (by refine ⟨by omega, by unfold zh_seB; omega, ?_⟩; unfold zh_sf; (repeat' split) <;> omega), ← (show v = F 0 by omega)]; first | (rw [if_pos (by omega)]; unfold zh_put; rw [if_pos (by omega), if_pos (by omega), show p1 / 256 % 256 = p1.tdiv 256 by omega]; done) | (rw [if_neg (by omega)]; unfold zh_put; rw [if_pos (by omega), show p1 % 256 = p1 by omega])
                have hP9 : va_P D vwCl [(x, .inr (5, [.int (zi_n 0), .ref a, .int (zi_n n), .int (zi_n rd), .int (zi_n br), .ref a2, .ref a3, .int (zi_n v), .int (zi_n ln)])), (a, .inl (cA, 600, .inl (zi_F F))), (a2, .inl (cB, 600, .inl (zi_F P))), (a3, .inl (cC, 600, .inl (zi_F (zh_seG F G n rd p0 p1))))] H := by rw [e_n_94_0]; exact hP
                have hD9 : va_D A [(x, .inr (5, [.int (zi_n 0), .ref a, .int (zi_n n), .int (zi_n rd), .int (zi_n br), .ref a2, .ref a3, .int (zi_n v), .int (zi_n ln)])), (a, .inl (cA, 600, .inl (zi_F F))), (a2, .inl (cB, 600, .inl (zi_F P))), (a3, .inl (cC, 600, .inl (zi_F (zh_seG F G n rd p0 p1))))] := by rw [e_n_94_0]; exact hD
                exact W.iret (v := zi_n ((256 * (G (zh_sp p0 v).toNat)) + (G ((zh_sp p0 v) + 1).toNat))) hx hb hr (fun t ht hW => ⟨⟨zi_n ((256 * (G (zh_sp p0 v).toNat)) + (G ((zh_sp p0 v) + 1).toNat)), (), rfl, zl_r (by unfold zh_seE; rw [if_neg (by omega), zh_if_t (by unfold zh_seB; omega), if_neg (by unfold zh_sf; (repeat' split) <;> omega), ← (show v = F 0 by omega)]; first | (rw [if_pos (by omega), zh_two_T (by omega)]; rfl) | (rw [if_neg (by omega), zh_at_in (by omega)])) (by omega), by rw [ht]; exact hP9, va_K.moved hW.alike hK, hD9⟩, hS.F ht⟩) hS.2.2 dX4_set_159
              · unfold zh_wide at c_89
                refine zr_if_eq (tgt := 150) hx hb dX4_set_103 (by decide) (by omega) (fun c_95 => ?_) (fun c => absurd c (by decide))
                refine lv_aload_n hx hb dX4_set_150 rfl (lv_at hl 2 rfl) ?_
                refine va_get (D := D) (ci := 5) (v := .ref a3) (C := RX4) (T := TX4) (N := 9) hx hb hts in_X4_set_X4 hown hK hP 0 rfl rfl 6 (by decide) (hts (.fieldLink RX4 16 "ZHeadsModel" "memory" "[I") (by decide +kernel)) (fun _ h9 => h9) rfl dX4_set_151 ?_
                refine lv_iload_n hx hb dX4_set_154 rfl (lv_at hl 1 rfl) ?_
                refine lv_iload_n hx hb dX4_set_155 rfl (lv_at hl 4 rfl) ?_
                refine zr_iast (x := p1) hx hb hK hP hD hS 3 2 rfl rfl (by decide) (by omega) dX4_set_156 (fun H locs hP hD hS => ?_)
                have hF_96 : zi_By (zi_up G (zh_sp p0 v).toNat p1) := zi_up_By hG _ (by omega)
                have hP : va_P D vwCl [(x, .inr (5, [.int (zi_n 0), .ref a, .int (zi_n n), .int (zi_n rd), .int (zi_n br), .ref a2, .ref a3, .int (zi_n v), .int (zi_n ln)])), (a, .inl (cA, 600, .inl (zi_F F))), (a2, .inl (cB, 600, .inl (zi_F P))), (a3, .inl (cC, 600, .inl (zi_F (zi_up G (zh_sp p0 v).toNat p1))))] H := hP
                have hD : va_D A [(x, .inr (5, [.int (zi_n 0), .ref a, .int (zi_n n), .int (zi_n rd), .int (zi_n br), .ref a2, .ref a3, .int (zi_n v), .int (zi_n ln)])), (a, .inl (cA, 600, .inl (zi_F F))), (a2, .inl (cB, 600, .inl (zi_F P))), (a3, .inl (cC, 600, .inl (zi_F (zi_up G (zh_sp p0 v).toNat p1))))] := hD
                refine lv_iload hx hb dX4_set_157 (lv_at hl 0 rfl) ?_
                have e_n_97_0 : zh_seG F G n rd p0 p1 = zi_up G (zh_sp p0 v).toNat p1 := by unfold zh_seG; rw [zh_if_t (by refine ⟨by omega, by unfold zh_seB; omega, ?_⟩; unfold zh_sf; (repeat' split) <;> omega), ← (show v = F 0 by omega)]; first | (rw [if_pos (by omega)]; unfold zh_put; rw [if_pos (by omega), if_pos (by omega), show p1 / 256 % 256 = p1.tdiv 256 by omega]; done) | (rw [if_neg (by omega)]; unfold zh_put; rw [if_pos (by omega), show p1 % 256 = p1 by omega])
                have hP9 : va_P D vwCl [(x, .inr (5, [.int (zi_n 0), .ref a, .int (zi_n n), .int (zi_n rd), .int (zi_n br), .ref a2, .ref a3, .int (zi_n v), .int (zi_n ln)])), (a, .inl (cA, 600, .inl (zi_F F))), (a2, .inl (cB, 600, .inl (zi_F P))), (a3, .inl (cC, 600, .inl (zi_F (zh_seG F G n rd p0 p1))))] H := by rw [e_n_97_0]; exact hP
                have hD9 : va_D A [(x, .inr (5, [.int (zi_n 0), .ref a, .int (zi_n n), .int (zi_n rd), .int (zi_n br), .ref a2, .ref a3, .int (zi_n v), .int (zi_n ln)])), (a, .inl (cA, 600, .inl (zi_F F))), (a2, .inl (cB, 600, .inl (zi_F P))), (a3, .inl (cC, 600, .inl (zi_F (zh_seG F G n rd p0 p1))))] := by rw [e_n_97_0]; exact hD
                exact W.iret (v := zi_n (G (zh_sp p0 v).toNat)) hx hb hr (fun t ht hW => ⟨⟨zi_n (G (zh_sp p0 v).toNat), (), rfl, zl_r (by unfold zh_seE; rw [if_neg (by omega), zh_if_t (by unfold zh_seB; omega), if_neg (by unfold zh_sf; (repeat' split) <;> omega), ← (show v = F 0 by omega)]; first | (rw [if_pos (by omega), zh_two_T (by omega)]; rfl) | (rw [if_neg (by omega), zh_at_in (by omega)])) (by omega), by rw [ht]; exact hP9, va_K.moved hW.alike hK, hD9⟩, hS.F ht⟩) hS.2.2 dX4_set_159
          · refine lv_aload_n hx hb dX4_set_56 rfl (lv_at hl 0 rfl) ?_
            refine va_get (D := D) (ci := 5) (v := .int (zi_n v)) (C := RX4) (T := TX4) (N := 9) hx hb hts in_X4_set_X4 hown hK hP 0 rfl rfl 7 (by decide) (hts (.fieldLink RX4 51 "ZHeadsModel" "version" "I") (by decide +kernel)) (fun _ h9 => h9) rfl dX4_set_57 ?_
            refine zr_iconst hx hb dX4_set_60 ?_
            refine zr_icmp_lt (tgt := 82) hx hb dX4_set_61 (by decide) (by omega) (by omega) (fun c_98 => ?_) (fun c_98 => ?_)
            · refine zr_bipush hx hb dX4_set_82 (by decide) ?_
              have e_n_99_0 : zh_seG F G n rd p0 p1 = G := by unfold zh_seG; exact zh_if_f (by intro h; exact h.2.2 (by unfold zh_sf; (repeat' split) <;> omega)) _ _
              have hP9 : va_P D vwCl [(x, .inr (5, [.int (zi_n 0), .ref a, .int (zi_n n), .int (zi_n rd), .int (zi_n br), .ref a2, .ref a3, .int (zi_n v), .int (zi_n ln)])), (a, .inl (cA, 600, .inl (zi_F F))), (a2, .inl (cB, 600, .inl (zi_F P))), (a3, .inl (cC, 600, .inl (zi_F (zh_seG F G n rd p0 p1))))] H := by rw [e_n_99_0]; exact hP
              have hD9 : va_D A [(x, .inr (5, [.int (zi_n 0), .ref a, .int (zi_n n), .int (zi_n rd), .int (zi_n br), .ref a2, .ref a3, .int (zi_n v), .int (zi_n ln)])), (a, .inl (cA, 600, .inl (zi_F F))), (a2, .inl (cB, 600, .inl (zi_F P))), (a3, .inl (cC, 600, .inl (zi_F (zh_seG F G n rd p0 p1))))] := by rw [e_n_99_0]; exact hD
              exact W.iret (v := zi_n (-13)) hx hb hr (fun t ht hW => ⟨⟨zi_n (-13), (), rfl, zl_r (by unfold zh_seE; rw [if_neg (by omega), zh_if_t (by unfold zh_seB; omega), if_pos (by unfold zh_sf; (repeat' split) <;> omega)]) (by omega), by rw [ht]; exact hP9, va_K.moved hW.alike hK, hD9⟩, hS.F ht⟩) hS.2.2 dX4_set_84
            · refine lv_iload_n hx hb dX4_set_64 rfl (lv_at hl 1 rfl) ?_
              refine zr_iconst hx hb dX4_set_65 ?_
              refine zr_bipush hx hb dX4_set_66 (by decide) ?_
              refine zc_S (As := [.int (zi_n p0), .int (zi_n 4), .int (zi_n 9)]) (rest := []) ⟨hx, hb, hml, hown, hts⟩ (c_M_in l p0 4 9 (by omega) (by omega) (by omega)) (va_cwS 3 hts gX4_set_X4_in rfl rfl rfl (by decide +kernel) ⟨(Nat.le_of_ble_eq_true rfl), (Nat.le_of_ble_eq_true rfl)⟩) rfl hl.1 rfl (Nat.le_of_ble_eq_true rfl) dX4_set_68 ⟨Nat.zero_le _, Nat.zero_le _⟩ (fun r hr1 => ?_)
              rcases hr1 with ⟨rfl, c_100⟩ | ⟨rfl, c_100⟩
              · refine zr_if_eq (tgt := 85) hx hb dX4_set_71 (by decide) (by omega) (fun c => absurd c (by decide)) (fun c_101 => ?_)
                refine lv_aload_n hx hb dX4_set_74 rfl (lv_at hl 0 rfl) ?_
                refine va_get (D := D) (ci := 5) (v := .int (zi_n v)) (C := RX4) (T := TX4) (N := 9) hx hb hts in_X4_set_X4 hown hK hP 0 rfl rfl 7 (by decide) (hts (.fieldLink RX4 51 "ZHeadsModel" "version" "I") (by decide +kernel)) (fun _ h9 => h9) rfl dX4_set_75 ?_
                refine zr_iconst hx hb dX4_set_78 ?_
                refine zr_icmp_ge (tgt := 85) hx hb dX4_set_79 (by decide) (by omega) (by omega) (fun c_102 => ?_) (fun c_102 => ?_)
                · have htd : p1.tdiv 256 = p1 / 256 := Int.tdiv_eq_ediv_of_nonneg (by omega)
                  refine lv_aload_n hx hb dX4_set_85 rfl (lv_at hl 0 rfl) ?_
                  refine lv_iload_n hx hb dX4_set_86 rfl (lv_at hl 1 rfl) ?_
                  refine zc_V (As := [.int (zi_n p0)]) (rest := []) ⟨hx, hb, hml, hown, hts⟩ (c_M_placeSet l D x a a2 a3 cA cB cC F P G n rd br v ln 0 hF (by omega) hP0 hG (by omega) (by omega) (by omega) (by omega) (by omega) p0 (by omega)) (cwV 1 hts gX4_set_X4_placeSet rfl rfl rfl (by decide +kernel) ⟨(Nat.le_of_ble_eq_true rfl), (Nat.le_of_ble_eq_true rfl)⟩) hP hK [0, 1, 2, 3] [0, 1, 2] rfl rfl (ci := 5) rfl rfl rfl rfl hl.1 rfl (Nat.le_of_ble_eq_true rfl) dX4_set_87 ⟨Nat.zero_le _, Nat.zero_le _⟩ (fun r hr1 => ?_)
                  obtain ⟨rfl, b_103⟩ := hr1
                  refine lv_istore_n (lv' := [(3, .int (zi_n (zh_sp p0 v))), (0, .ref x), (1, .int (zi_n p0)), (2, .int (zi_n p1))]) hx hb dX4_set_90 rfl hl (by decide) rfl (fun ls hl => ?_)
                  refine lv_aload_n hx hb dX4_set_91 rfl (lv_at hl 1 rfl) ?_
                  refine va_get (D := D) (ci := 5) (v := .ref a3) (C := RX4) (T := TX4) (N := 9) hx hb hts in_X4_set_X4 hown hK hP 0 rfl rfl 6 (by decide) (hts (.fieldLink RX4 16 "ZHeadsModel" "memory" "[I") (by decide +kernel)) (fun _ h9 => h9) rfl dX4_set_92 ?_
                  refine lv_iload_n hx hb dX4_set_95 rfl (lv_at hl 0 rfl) ?_
                  refine zr_iald hx hb hK hP 3 2 rfl rfl (by decide) (by omega) dX4_set_96 ?_
                  have b_104 := hG (zh_sp p0 v).toNat
                  refine lv_istore (lv' := [(4, .int (zi_n (G (zh_sp p0 v).toNat))), (3, .int (zi_n (zh_sp p0 v))), (0, .ref x), (1, .int (zi_n p0)), (2, .int (zi_n p1))]) hx hb dX4_set_97 hl (by decide) rfl (fun ls hl => ?_)
                  refine lv_iload_n hx hb dX4_set_99 rfl (lv_at hl 3 rfl) ?_
                  refine zc_S (As := [.int (zi_n p0)]) (rest := []) ⟨hx, hb, hml, hown, hts⟩ (c_M_isWide l p0 (by omega)) (va_cwS 1 hts gX4_set_X4_isWide rfl rfl rfl (by decide +kernel) ⟨(Nat.le_of_ble_eq_true rfl), (Nat.le_of_ble_eq_true rfl)⟩) rfl hl.1 rfl (Nat.le_of_ble_eq_true rfl) dX4_set_100 ⟨Nat.zero_le _, Nat.zero_le _⟩ (fun r hr1 => ?_)
                  rcases hr1 with ⟨rfl, c_105⟩ | ⟨rfl, c_105⟩
                  · unfold zh_wide at c_105
                    refine zr_if_eq (tgt := 150) hx hb dX4_set_103 (by decide) (by omega) (fun c => absurd c (by decide)) (fun c_106 => ?_)
                    refine zr_sipush hx hb dX4_set_106 (by decide) ?_
                    refine lv_iload hx hb dX4_set_109 (lv_at hl 0 rfl) ?_
                    refine zr_imul hx hb dX4_set_111 ?_
                    refine lv_aload_n hx hb dX4_set_112 rfl (lv_at hl 2 rfl) ?_
                    refine va_get (D := D) (ci := 5) (v := .ref a3) (C := RX4) (T := TX4) (N := 9) hx hb hts in_X4_set_X4 hown hK hP 0 rfl rfl 6 (by decide) (hts (.fieldLink RX4 16 "ZHeadsModel" "memory" "[I") (by decide +kernel)) (fun _ h9 => h9) rfl dX4_set_113 ?_
                    refine lv_iload_n hx hb dX4_set_116 rfl (lv_at hl 1 rfl) ?_
                    refine zr_iconst hx hb dX4_set_117 ?_
                    refine zr_iadd hx hb dX4_set_118 ?_
                    refine zr_iald hx hb hK hP 3 2 rfl rfl (by decide) (by omega) dX4_set_119 ?_
                    have b_107 := hG ((zh_sp p0 v) + 1).toNat
                    refine zr_iadd hx hb dX4_set_120 ?_
                    refine lv_istore (lv' := [(4, .int (zi_n ((256 * (G (zh_sp p0 v).toNat)) + (G ((zh_sp p0 v) + 1).toNat)))), (3, .int (zi_n (zh_sp p0 v))), (0, .ref x), (1, .int (zi_n p0)), (2, .int (zi_n p1))]) hx hb dX4_set_121 hl (by decide) rfl (fun ls hl => ?_)
                    refine lv_aload_n hx hb dX4_set_123 rfl (lv_at hl 2 rfl) ?_
                    refine va_get (D := D) (ci := 5) (v := .ref a3) (C := RX4) (T := TX4) (N := 9) hx hb hts in_X4_set_X4 hown hK hP 0 rfl rfl 6 (by decide) (hts (.fieldLink RX4 16 "ZHeadsModel" "memory" "[I") (by decide +kernel)) (fun _ h9 => h9) rfl dX4_set_124 ?_
                    refine lv_iload_n hx hb dX4_set_127 rfl (lv_at hl 1 rfl) ?_
                    refine lv_iload_n hx hb dX4_set_128 rfl (lv_at hl 4 rfl) ?_
                    refine zr_sipush hx hb dX4_set_129 (by decide) ?_
                    refine zr_idiv hx hb dX4_set_132 (by omega) (by omega) (by omega) (by omega) ?_
                    refine zr_iast (x := p1.tdiv 256) hx hb hK hP hD hS 3 2 rfl rfl (by decide) (by omega) dX4_set_133 (fun H locs hP hD hS => ?_)
                    have hF_108 : zi_By (zi_up G (zh_sp p0 v).toNat (p1.tdiv 256)) := zi_up_By hG _ (by omega)
                    have hP : va_P D vwCl [(x, .inr (5, [.int (zi_n 0), .ref a, .int (zi_n n), .int (zi_n rd), .int (zi_n br), .ref a2, .ref a3, .int (zi_n v), .int (zi_n ln)])), (a, .inl (cA, 600, .inl (zi_F F))), (a2, .inl (cB, 600, .inl (zi_F P))), (a3, .inl (cC, 600, .inl (zi_F (zi_up G (zh_sp p0 v).toNat (p1.tdiv 256)))))] H := hP
                    have hD : va_D A [(x, .inr (5, [.int (zi_n 0), .ref a, .int (zi_n n), .int (zi_n rd), .int (zi_n br), .ref a2, .ref a3, .int (zi_n v), .int (zi_n ln)])), (a, .inl (cA, 600, .inl (zi_F F))), (a2, .inl (cB, 600, .inl (zi_F P))), (a3, .inl (cC, 600, .inl (zi_F (zi_up G (zh_sp p0 v).toNat (p1.tdiv 256)))))] := hD
                    refine lv_aload_n hx hb dX4_set_134 rfl (lv_at hl 2 rfl) ?_
                    refine va_get (D := D) (ci := 5) (v := .ref a3) (C := RX4) (T := TX4) (N := 9) hx hb hts in_X4_set_X4 hown hK hP 0 rfl rfl 6 (by decide) (hts (.fieldLink RX4 16 "ZHeadsModel" "memory" "[I") (by decide +kernel)) (fun _ h9 => h9) rfl dX4_set_135 ?_
                    refine lv_iload_n hx hb dX4_set_138 rfl (lv_at hl 1 rfl) ?_
                    refine zr_iconst hx hb dX4_set_139 ?_
                    refine zr_iadd hx hb dX4_set_140 ?_
                    refine lv_iload_n hx hb dX4_set_141 rfl (lv_at hl 4 rfl) ?_
                    refine zr_sipush hx hb dX4_set_142 (by decide) ?_
                    refine zr_irem hx hb dX4_set_145 (by omega) (by omega) (by omega) (by omega) ?_
                    refine zr_iast (x := p1 % 256) hx hb hK hP hD hS 3 2 rfl rfl (by decide) (by omega) dX4_set_146 (fun H locs hP hD hS => ?_)
                    have hF_109 : zi_By (zi_up (zi_up G (zh_sp p0 v).toNat (p1.tdiv 256)) ((zh_sp p0 v) + 1).toNat (p1 % 256)) := zi_up_By hF_108 _ (by omega)
                    have hP : va_P D vwCl [(x, .inr (5, [.int (zi_n 0), .ref a, .int (zi_n n), .int (zi_n rd), .int (zi_n br), .ref a2, .ref a3, .int (zi_n v), .int (zi_n ln)])), (a, .inl (cA, 600, .inl (zi_F F))), (a2, .inl (cB, 600, .inl (zi_F P))), (a3, .inl (cC, 600, .inl (zi_F (zi_up (zi_up G (zh_sp p0 v).toNat (p1.tdiv 256)) ((zh_sp p0 v) + 1).toNat (p1 % 256)))))] H := hP
                    have hD : va_D A [(x, .inr (5, [.int (zi_n 0), .ref a, .int (zi_n n), .int (zi_n rd), .int (zi_n br), .ref a2, .ref a3, .int (zi_n v), .int (zi_n ln)])), (a, .inl (cA, 600, .inl (zi_F F))), (a2, .inl (cB, 600, .inl (zi_F P))), (a3, .inl (cC, 600, .inl (zi_F (zi_up (zi_up G (zh_sp p0 v).toNat (p1.tdiv 256)) ((zh_sp p0 v) + 1).toNat (p1 % 256)))))] := hD
                    refine lv_goto (tgt := 157) hx hb dX4_set_147 (by decide) ?_
                    refine lv_iload hx hb dX4_set_157 (lv_at hl 0 rfl) ?_
                    have e_n_110_0 : zh_seG F G n rd p0 p1 = zi_up (zi_up G (zh_sp p0 v).toNat (p1.tdiv 256)) ((zh_sp p0 v) + 1).toNat (p1 % 256) := by unfold zh_seG; rw [zh_if_t (by refine ⟨by omega, by unfold zh_seB; omega, ?_⟩; unfold zh_sf; (repeat' split) <;> omega), ← (show v = F 0 by omega)]; first | (rw [if_pos (by omega)]; unfold zh_put; rw [if_pos (by omega), if_pos (by omega), show p1 / 256 % 256 = p1.tdiv 256 by omega]; done) | (rw [if_neg (by omega)]; unfold zh_put; rw [if_pos (by omega), show p1 % 256 = p1 by omega])
                    have hP9 : va_P D vwCl [(x, .inr (5, [.int (zi_n 0), .ref a, .int (zi_n n), .int (zi_n rd), .int (zi_n br), .ref a2, .ref a3, .int (zi_n v), .int (zi_n ln)])), (a, .inl (cA, 600, .inl (zi_F F))), (a2, .inl (cB, 600, .inl (zi_F P))), (a3, .inl (cC, 600, .inl (zi_F (zh_seG F G n rd p0 p1))))] H := by rw [e_n_110_0]; exact hP
                    have hD9 : va_D A [(x, .inr (5, [.int (zi_n 0), .ref a, .int (zi_n n), .int (zi_n rd), .int (zi_n br), .ref a2, .ref a3, .int (zi_n v), .int (zi_n ln)])), (a, .inl (cA, 600, .inl (zi_F F))), (a2, .inl (cB, 600, .inl (zi_F P))), (a3, .inl (cC, 600, .inl (zi_F (zh_seG F G n rd p0 p1))))] := by rw [e_n_110_0]; exact hD
                    exact W.iret (v := zi_n ((256 * (G (zh_sp p0 v).toNat)) + (G ((zh_sp p0 v) + 1).toNat))) hx hb hr (fun t ht hW => ⟨⟨zi_n ((256 * (G (zh_sp p0 v).toNat)) + (G ((zh_sp p0 v) + 1).toNat)), (), rfl, zl_r (by unfold zh_seE; rw [if_neg (by omega), zh_if_t (by unfold zh_seB; omega), if_neg (by unfold zh_sf; (repeat' split) <;> omega), ← (show v = F 0 by omega)]; first | (rw [if_pos (by omega), zh_two_T (by omega)]; rfl) | (rw [if_neg (by omega), zh_at_in (by omega)])) (by omega), by rw [ht]; exact hP9, va_K.moved hW.alike hK, hD9⟩, hS.F ht⟩) hS.2.2 dX4_set_159
                  · unfold zh_wide at c_105
                    refine zr_if_eq (tgt := 150) hx hb dX4_set_103 (by decide) (by omega) (fun c_111 => ?_) (fun c => absurd c (by decide))
                    refine lv_aload_n hx hb dX4_set_150 rfl (lv_at hl 2 rfl) ?_
                    refine va_get (D := D) (ci := 5) (v := .ref a3) (C := RX4) (T := TX4) (N := 9) hx hb hts in_X4_set_X4 hown hK hP 0 rfl rfl 6 (by decide) (hts (.fieldLink RX4 16 "ZHeadsModel" "memory" "[I") (by decide +kernel)) (fun _ h9 => h9) rfl dX4_set_151 ?_
                    refine lv_iload_n hx hb dX4_set_154 rfl (lv_at hl 1 rfl) ?_
                    refine lv_iload_n hx hb dX4_set_155 rfl (lv_at hl 4 rfl) ?_
                    refine zr_iast (x := p1) hx hb hK hP hD hS 3 2 rfl rfl (by decide) (by omega) dX4_set_156 (fun H locs hP hD hS => ?_)
                    have hF_112 : zi_By (zi_up G (zh_sp p0 v).toNat p1) := zi_up_By hG _ (by omega)
                    have hP : va_P D vwCl [(x, .inr (5, [.int (zi_n 0), .ref a, .int (zi_n n), .int (zi_n rd), .int (zi_n br), .ref a2, .ref a3, .int (zi_n v), .int (zi_n ln)])), (a, .inl (cA, 600, .inl (zi_F F))), (a2, .inl (cB, 600, .inl (zi_F P))), (a3, .inl (cC, 600, .inl (zi_F (zi_up G (zh_sp p0 v).toNat p1))))] H := hP
                    have hD : va_D A [(x, .inr (5, [.int (zi_n 0), .ref a, .int (zi_n n), .int (zi_n rd), .int (zi_n br), .ref a2, .ref a3, .int (zi_n v), .int (zi_n ln)])), (a, .inl (cA, 600, .inl (zi_F F))), (a2, .inl (cB, 600, .inl (zi_F P))), (a3, .inl (cC, 600, .inl (zi_F (zi_up G (zh_sp p0 v).toNat p1))))] := hD
                    refine lv_iload hx hb dX4_set_157 (lv_at hl 0 rfl) ?_
                    have e_n_113_0 : zh_seG F G n rd p0 p1 = zi_up G (zh_sp p0 v).toNat p1 := by unfold zh_seG; rw [zh_if_t (by refine ⟨by omega, by unfold zh_seB; omega, ?_⟩; unfold zh_sf; (repeat' split) <;> omega), ← (show v = F 0 by omega)]; first | (rw [if_pos (by omega)]; unfold zh_put; rw [if_pos (by omega), if_pos (by omega), show p1 / 256 % 256 = p1.tdiv 256 by omega]; done) | (rw [if_neg (by omega)]; unfold zh_put; rw [if_pos (by omega), show p1 % 256 = p1 by omega])
                    have hP9 : va_P D vwCl [(x, .inr (5, [.int (zi_n 0), .ref a, .int (zi_n n), .int (zi_n rd), .int (zi_n br), .ref a2, .ref a3, .int (zi_n v), .int (zi_n ln)])), (a, .inl (cA, 600, .inl (zi_F F))), (a2, .inl (cB, 600, .inl (zi_F P))), (a3, .inl (cC, 600, .inl (zi_F (zh_seG F G n rd p0 p1))))] H := by rw [e_n_113_0]; exact hP
                    have hD9 : va_D A [(x, .inr (5, [.int (zi_n 0), .ref a, .int (zi_n n), .int (zi_n rd), .int (zi_n br), .ref a2, .ref a3, .int (zi_n v), .int (zi_n ln)])), (a, .inl (cA, 600, .inl (zi_F F))), (a2, .inl (cB, 600, .inl (zi_F P))), (a3, .inl (cC, 600, .inl (zi_F (zh_seG F G n rd p0 p1))))] := by rw [e_n_113_0]; exact hD
                    exact W.iret (v := zi_n (G (zh_sp p0 v).toNat)) hx hb hr (fun t ht hW => ⟨⟨zi_n (G (zh_sp p0 v).toNat), (), rfl, zl_r (by unfold zh_seE; rw [if_neg (by omega), zh_if_t (by unfold zh_seB; omega), if_neg (by unfold zh_sf; (repeat' split) <;> omega), ← (show v = F 0 by omega)]; first | (rw [if_pos (by omega), zh_two_T (by omega)]; rfl) | (rw [if_neg (by omega), zh_at_in (by omega)])) (by omega), by rw [ht]; exact hP9, va_K.moved hW.alike hK, hD9⟩, hS.F ht⟩) hS.2.2 dX4_set_159
                · refine zr_bipush hx hb dX4_set_82 (by decide) ?_
                  have e_n_114_0 : zh_seG F G n rd p0 p1 = G := by unfold zh_seG; exact zh_if_f (by intro h; exact h.2.2 (by unfold zh_sf; (repeat' split) <;> omega)) _ _
                  have hP9 : va_P D vwCl [(x, .inr (5, [.int (zi_n 0), .ref a, .int (zi_n n), .int (zi_n rd), .int (zi_n br), .ref a2, .ref a3, .int (zi_n v), .int (zi_n ln)])), (a, .inl (cA, 600, .inl (zi_F F))), (a2, .inl (cB, 600, .inl (zi_F P))), (a3, .inl (cC, 600, .inl (zi_F (zh_seG F G n rd p0 p1))))] H := by rw [e_n_114_0]; exact hP
                  have hD9 : va_D A [(x, .inr (5, [.int (zi_n 0), .ref a, .int (zi_n n), .int (zi_n rd), .int (zi_n br), .ref a2, .ref a3, .int (zi_n v), .int (zi_n ln)])), (a, .inl (cA, 600, .inl (zi_F F))), (a2, .inl (cB, 600, .inl (zi_F P))), (a3, .inl (cC, 600, .inl (zi_F (zh_seG F G n rd p0 p1))))] := by rw [e_n_114_0]; exact hD
                  exact W.iret (v := zi_n (-13)) hx hb hr (fun t ht hW => ⟨⟨zi_n (-13), (), rfl, zl_r (by unfold zh_seE; rw [if_neg (by omega), zh_if_t (by unfold zh_seB; omega), if_pos (by unfold zh_sf; (repeat' split) <;> omega)]) (by omega), by rw [ht]; exact hP9, va_K.moved hW.alike hK, hD9⟩, hS.F ht⟩) hS.2.2 dX4_set_84
              · refine zr_if_eq (tgt := 85) hx hb dX4_set_71 (by decide) (by omega) (fun c_115 => ?_) (fun c => absurd c (by decide))
                have htd : p1.tdiv 256 = p1 / 256 := Int.tdiv_eq_ediv_of_nonneg (by omega)
                refine lv_aload_n hx hb dX4_set_85 rfl (lv_at hl 0 rfl) ?_
                refine lv_iload_n hx hb dX4_set_86 rfl (lv_at hl 1 rfl) ?_
                refine zc_V (As := [.int (zi_n p0)]) (rest := []) ⟨hx, hb, hml, hown, hts⟩ (c_M_placeSet l D x a a2 a3 cA cB cC F P G n rd br v ln 0 hF (by omega) hP0 hG (by omega) (by omega) (by omega) (by omega) (by omega) p0 (by omega)) (cwV 1 hts gX4_set_X4_placeSet rfl rfl rfl (by decide +kernel) ⟨(Nat.le_of_ble_eq_true rfl), (Nat.le_of_ble_eq_true rfl)⟩) hP hK [0, 1, 2, 3] [0, 1, 2] rfl rfl (ci := 5) rfl rfl rfl rfl hl.1 rfl (Nat.le_of_ble_eq_true rfl) dX4_set_87 ⟨Nat.zero_le _, Nat.zero_le _⟩ (fun r hr1 => ?_)
                obtain ⟨rfl, b_116⟩ := hr1
                refine lv_istore_n (lv' := [(3, .int (zi_n (zh_sp p0 v))), (0, .ref x), (1, .int (zi_n p0)), (2, .int (zi_n p1))]) hx hb dX4_set_90 rfl hl (by decide) rfl (fun ls hl => ?_)
                refine lv_aload_n hx hb dX4_set_91 rfl (lv_at hl 1 rfl) ?_
                refine va_get (D := D) (ci := 5) (v := .ref a3) (C := RX4) (T := TX4) (N := 9) hx hb hts in_X4_set_X4 hown hK hP 0 rfl rfl 6 (by decide) (hts (.fieldLink RX4 16 "ZHeadsModel" "memory" "[I") (by decide +kernel)) (fun _ h9 => h9) rfl dX4_set_92 ?_
                refine lv_iload_n hx hb dX4_set_95 rfl (lv_at hl 0 rfl) ?_
                refine zr_iald hx hb hK hP 3 2 rfl rfl (by decide) (by omega) dX4_set_96 ?_
                have b_117 := hG (zh_sp p0 v).toNat
                refine lv_istore (lv' := [(4, .int (zi_n (G (zh_sp p0 v).toNat))), (3, .int (zi_n (zh_sp p0 v))), (0, .ref x), (1, .int (zi_n p0)), (2, .int (zi_n p1))]) hx hb dX4_set_97 hl (by decide) rfl (fun ls hl => ?_)
                refine lv_iload_n hx hb dX4_set_99 rfl (lv_at hl 3 rfl) ?_
                refine zc_S (As := [.int (zi_n p0)]) (rest := []) ⟨hx, hb, hml, hown, hts⟩ (c_M_isWide l p0 (by omega)) (va_cwS 1 hts gX4_set_X4_isWide rfl rfl rfl (by decide +kernel) ⟨(Nat.le_of_ble_eq_true rfl), (Nat.le_of_ble_eq_true rfl)⟩) rfl hl.1 rfl (Nat.le_of_ble_eq_true rfl) dX4_set_100 ⟨Nat.zero_le _, Nat.zero_le _⟩ (fun r hr1 => ?_)
                rcases hr1 with ⟨rfl, c_118⟩ | ⟨rfl, c_118⟩
                · unfold zh_wide at c_118
                  refine zr_if_eq (tgt := 150) hx hb dX4_set_103 (by decide) (by omega) (fun c => absurd c (by decide)) (fun c_119 => ?_)
                  refine zr_sipush hx hb dX4_set_106 (by decide) ?_
                  refine lv_iload hx hb dX4_set_109 (lv_at hl 0 rfl) ?_
                  refine zr_imul hx hb dX4_set_111 ?_
                  refine lv_aload_n hx hb dX4_set_112 rfl (lv_at hl 2 rfl) ?_
                  refine va_get (D := D) (ci := 5) (v := .ref a3) (C := RX4) (T := TX4) (N := 9) hx hb hts in_X4_set_X4 hown hK hP 0 rfl rfl 6 (by decide) (hts (.fieldLink RX4 16 "ZHeadsModel" "memory" "[I") (by decide +kernel)) (fun _ h9 => h9) rfl dX4_set_113 ?_
                  refine lv_iload_n hx hb dX4_set_116 rfl (lv_at hl 1 rfl) ?_
                  refine zr_iconst hx hb dX4_set_117 ?_
                  refine zr_iadd hx hb dX4_set_118 ?_
                  refine zr_iald hx hb hK hP 3 2 rfl rfl (by decide) (by omega) dX4_set_119 ?_
                  have b_120 := hG ((zh_sp p0 v) + 1).toNat
                  refine zr_iadd hx hb dX4_set_120 ?_
                  refine lv_istore (lv' := [(4, .int (zi_n ((256 * (G (zh_sp p0 v).toNat)) + (G ((zh_sp p0 v) + 1).toNat)))), (3, .int (zi_n (zh_sp p0 v))), (0, .ref x), (1, .int (zi_n p0)), (2, .int (zi_n p1))]) hx hb dX4_set_121 hl (by decide) rfl (fun ls hl => ?_)
                  refine lv_aload_n hx hb dX4_set_123 rfl (lv_at hl 2 rfl) ?_
                  refine va_get (D := D) (ci := 5) (v := .ref a3) (C := RX4) (T := TX4) (N := 9) hx hb hts in_X4_set_X4 hown hK hP 0 rfl rfl 6 (by decide) (hts (.fieldLink RX4 16 "ZHeadsModel" "memory" "[I") (by decide +kernel)) (fun _ h9 => h9) rfl dX4_set_124 ?_
                  refine lv_iload_n hx hb dX4_set_127 rfl (lv_at hl 1 rfl) ?_
                  refine lv_iload_n hx hb dX4_set_128 rfl (lv_at hl 4 rfl) ?_
                  refine zr_sipush hx hb dX4_set_129 (by decide) ?_
                  refine zr_idiv hx hb dX4_set_132 (by omega) (by omega) (by omega) (by omega) ?_
                  refine zr_iast (x := p1.tdiv 256) hx hb hK hP hD hS 3 2 rfl rfl (by decide) (by omega) dX4_set_133 (fun H locs hP hD hS => ?_)
                  have hF_121 : zi_By (zi_up G (zh_sp p0 v).toNat (p1.tdiv 256)) := zi_up_By hG _ (by omega)
                  have hP : va_P D vwCl [(x, .inr (5, [.int (zi_n 0), .ref a, .int (zi_n n), .int (zi_n rd), .int (zi_n br), .ref a2, .ref a3, .int (zi_n v), .int (zi_n ln)])), (a, .inl (cA, 600, .inl (zi_F F))), (a2, .inl (cB, 600, .inl (zi_F P))), (a3, .inl (cC, 600, .inl (zi_F (zi_up G (zh_sp p0 v).toNat (p1.tdiv 256)))))] H := hP
                  have hD : va_D A [(x, .inr (5, [.int (zi_n 0), .ref a, .int (zi_n n), .int (zi_n rd), .int (zi_n br), .ref a2, .ref a3, .int (zi_n v), .int (zi_n ln)])), (a, .inl (cA, 600, .inl (zi_F F))), (a2, .inl (cB, 600, .inl (zi_F P))), (a3, .inl (cC, 600, .inl (zi_F (zi_up G (zh_sp p0 v).toNat (p1.tdiv 256)))))] := hD
                  refine lv_aload_n hx hb dX4_set_134 rfl (lv_at hl 2 rfl) ?_
                  refine va_get (D := D) (ci := 5) (v := .ref a3) (C := RX4) (T := TX4) (N := 9) hx hb hts in_X4_set_X4 hown hK hP 0 rfl rfl 6 (by decide) (hts (.fieldLink RX4 16 "ZHeadsModel" "memory" "[I") (by decide +kernel)) (fun _ h9 => h9) rfl dX4_set_135 ?_
                  refine lv_iload_n hx hb dX4_set_138 rfl (lv_at hl 1 rfl) ?_
                  refine zr_iconst hx hb dX4_set_139 ?_
                  refine zr_iadd hx hb dX4_set_140 ?_
                  refine lv_iload_n hx hb dX4_set_141 rfl (lv_at hl 4 rfl) ?_
                  refine zr_sipush hx hb dX4_set_142 (by decide) ?_
                  refine zr_irem hx hb dX4_set_145 (by omega) (by omega) (by omega) (by omega) ?_
                  refine zr_iast (x := p1 % 256) hx hb hK hP hD hS 3 2 rfl rfl (by decide) (by omega) dX4_set_146 (fun H locs hP hD hS => ?_)
                  have hF_122 : zi_By (zi_up (zi_up G (zh_sp p0 v).toNat (p1.tdiv 256)) ((zh_sp p0 v) + 1).toNat (p1 % 256)) := zi_up_By hF_121 _ (by omega)
                  have hP : va_P D vwCl [(x, .inr (5, [.int (zi_n 0), .ref a, .int (zi_n n), .int (zi_n rd), .int (zi_n br), .ref a2, .ref a3, .int (zi_n v), .int (zi_n ln)])), (a, .inl (cA, 600, .inl (zi_F F))), (a2, .inl (cB, 600, .inl (zi_F P))), (a3, .inl (cC, 600, .inl (zi_F (zi_up (zi_up G (zh_sp p0 v).toNat (p1.tdiv 256)) ((zh_sp p0 v) + 1).toNat (p1 % 256)))))] H := hP
                  have hD : va_D A [(x, .inr (5, [.int (zi_n 0), .ref a, .int (zi_n n), .int (zi_n rd), .int (zi_n br), .ref a2, .ref a3, .int (zi_n v), .int (zi_n ln)])), (a, .inl (cA, 600, .inl (zi_F F))), (a2, .inl (cB, 600, .inl (zi_F P))), (a3, .inl (cC, 600, .inl (zi_F (zi_up (zi_up G (zh_sp p0 v).toNat (p1.tdiv 256)) ((zh_sp p0 v) + 1).toNat (p1 % 256)))))] := hD
                  refine lv_goto (tgt := 157) hx hb dX4_set_147 (by decide) ?_
                  refine lv_iload hx hb dX4_set_157 (lv_at hl 0 rfl) ?_
                  have e_n_123_0 : zh_seG F G n rd p0 p1 = zi_up (zi_up G (zh_sp p0 v).toNat (p1.tdiv 256)) ((zh_sp p0 v) + 1).toNat (p1 % 256) := by unfold zh_seG; rw [zh_if_t (by refine ⟨by omega, by unfold zh_seB; omega, ?_⟩; unfold zh_sf; (repeat' split) <;> omega), ← (show v = F 0 by omega)]; first | (rw [if_pos (by omega)]; unfold zh_put; rw [if_pos (by omega), if_pos (by omega), show p1 / 256 % 256 = p1.tdiv 256 by omega]; done) | (rw [if_neg (by omega)]; unfold zh_put; rw [if_pos (by omega), show p1 % 256 = p1 by omega])
                  have hP9 : va_P D vwCl [(x, .inr (5, [.int (zi_n 0), .ref a, .int (zi_n n), .int (zi_n rd), .int (zi_n br), .ref a2, .ref a3, .int (zi_n v), .int (zi_n ln)])), (a, .inl (cA, 600, .inl (zi_F F))), (a2, .inl (cB, 600, .inl (zi_F P))), (a3, .inl (cC, 600, .inl (zi_F (zh_seG F G n rd p0 p1))))] H := by rw [e_n_123_0]; exact hP
                  have hD9 : va_D A [(x, .inr (5, [.int (zi_n 0), .ref a, .int (zi_n n), .int (zi_n rd), .int (zi_n br), .ref a2, .ref a3, .int (zi_n v), .int (zi_n ln)])), (a, .inl (cA, 600, .inl (zi_F F))), (a2, .inl (cB, 600, .inl (zi_F P))), (a3, .inl (cC, 600, .inl (zi_F (zh_seG F G n rd p0 p1))))] := by rw [e_n_123_0]; exact hD
                  exact W.iret (v := zi_n ((256 * (G (zh_sp p0 v).toNat)) + (G ((zh_sp p0 v) + 1).toNat))) hx hb hr (fun t ht hW => ⟨⟨zi_n ((256 * (G (zh_sp p0 v).toNat)) + (G ((zh_sp p0 v) + 1).toNat)), (), rfl, zl_r (by unfold zh_seE; rw [if_neg (by omega), zh_if_t (by unfold zh_seB; omega), if_neg (by unfold zh_sf; (repeat' split) <;> omega), ← (show v = F 0 by omega)]; first | (rw [if_pos (by omega), zh_two_T (by omega)]; rfl) | (rw [if_neg (by omega), zh_at_in (by omega)])) (by omega), by rw [ht]; exact hP9, va_K.moved hW.alike hK, hD9⟩, hS.F ht⟩) hS.2.2 dX4_set_159
                · unfold zh_wide at c_118
                  refine zr_if_eq (tgt := 150) hx hb dX4_set_103 (by decide) (by omega) (fun c_124 => ?_) (fun c => absurd c (by decide))
                  refine lv_aload_n hx hb dX4_set_150 rfl (lv_at hl 2 rfl) ?_
                  refine va_get (D := D) (ci := 5) (v := .ref a3) (C := RX4) (T := TX4) (N := 9) hx hb hts in_X4_set_X4 hown hK hP 0 rfl rfl 6 (by decide) (hts (.fieldLink RX4 16 "ZHeadsModel" "memory" "[I") (by decide +kernel)) (fun _ h9 => h9) rfl dX4_set_151 ?_
                  refine lv_iload_n hx hb dX4_set_154 rfl (lv_at hl 1 rfl) ?_
                  refine lv_iload_n hx hb dX4_set_155 rfl (lv_at hl 4 rfl) ?_
                  refine zr_iast (x := p1) hx hb hK hP hD hS 3 2 rfl rfl (by decide) (by omega) dX4_set_156 (fun H locs hP hD hS => ?_)
                  have hF_125 : zi_By (zi_up G (zh_sp p0 v).toNat p1) := zi_up_By hG _ (by omega)
                  have hP : va_P D vwCl [(x, .inr (5, [.int (zi_n 0), .ref a, .int (zi_n n), .int (zi_n rd), .int (zi_n br), .ref a2, .ref a3, .int (zi_n v), .int (zi_n ln)])), (a, .inl (cA, 600, .inl (zi_F F))), (a2, .inl (cB, 600, .inl (zi_F P))), (a3, .inl (cC, 600, .inl (zi_F (zi_up G (zh_sp p0 v).toNat p1))))] H := hP
                  have hD : va_D A [(x, .inr (5, [.int (zi_n 0), .ref a, .int (zi_n n), .int (zi_n rd), .int (zi_n br), .ref a2, .ref a3, .int (zi_n v), .int (zi_n ln)])), (a, .inl (cA, 600, .inl (zi_F F))), (a2, .inl (cB, 600, .inl (zi_F P))), (a3, .inl (cC, 600, .inl (zi_F (zi_up G (zh_sp p0 v).toNat p1))))] := hD
                  refine lv_iload hx hb dX4_set_157 (lv_at hl 0 rfl) ?_
                  have e_n_126_0 : zh_seG F G n rd p0 p1 = zi_up G (zh_sp p0 v).toNat p1 := by unfold zh_seG; rw [zh_if_t (by refine ⟨by omega, by unfold zh_seB; omega, ?_⟩; unfold zh_sf; (repeat' split) <;> omega), ← (show v = F 0 by omega)]; first | (rw [if_pos (by omega)]; unfold zh_put; rw [if_pos (by omega), if_pos (by omega), show p1 / 256 % 256 = p1.tdiv 256 by omega]; done) | (rw [if_neg (by omega)]; unfold zh_put; rw [if_pos (by omega), show p1 % 256 = p1 by omega])
                  have hP9 : va_P D vwCl [(x, .inr (5, [.int (zi_n 0), .ref a, .int (zi_n n), .int (zi_n rd), .int (zi_n br), .ref a2, .ref a3, .int (zi_n v), .int (zi_n ln)])), (a, .inl (cA, 600, .inl (zi_F F))), (a2, .inl (cB, 600, .inl (zi_F P))), (a3, .inl (cC, 600, .inl (zi_F (zh_seG F G n rd p0 p1))))] H := by rw [e_n_126_0]; exact hP
                  have hD9 : va_D A [(x, .inr (5, [.int (zi_n 0), .ref a, .int (zi_n n), .int (zi_n rd), .int (zi_n br), .ref a2, .ref a3, .int (zi_n v), .int (zi_n ln)])), (a, .inl (cA, 600, .inl (zi_F F))), (a2, .inl (cB, 600, .inl (zi_F P))), (a3, .inl (cC, 600, .inl (zi_F (zh_seG F G n rd p0 p1))))] := by rw [e_n_126_0]; exact hD
                  exact W.iret (v := zi_n (G (zh_sp p0 v).toNat)) hx hb hr (fun t ht hW => ⟨⟨zi_n (G (zh_sp p0 v).toNat), (), rfl, zl_r (by unfold zh_seE; rw [if_neg (by omega), zh_if_t (by unfold zh_seB; omega), if_neg (by unfold zh_sf; (repeat' split) <;> omega), ← (show v = F 0 by omega)]; first | (rw [if_pos (by omega), zh_two_T (by omega)]; rfl) | (rw [if_neg (by omega), zh_at_in (by omega)])) (by omega), by rw [ht]; exact hP9, va_K.moved hW.alike hK, hD9⟩, hS.F ht⟩) hS.2.2 dX4_set_159
        · refine zr_if_ne (tgt := 51) hx hb dX4_set_45 (by decide) (by omega) (fun c => absurd c (by decide)) (fun c_127 => ?_)
          refine zr_bipush hx hb dX4_set_48 (by decide) ?_
          have e_n_128_0 : zh_seG F G n rd p0 p1 = G := by unfold zh_seG; exact zh_if_f (by intro h; have := h.2.1; unfold zh_seB at this; omega) _ _
          have hP9 : va_P D vwCl [(x, .inr (5, [.int (zi_n 0), .ref a, .int (zi_n n), .int (zi_n rd), .int (zi_n br), .ref a2, .ref a3, .int (zi_n v), .int (zi_n ln)])), (a, .inl (cA, 600, .inl (zi_F F))), (a2, .inl (cB, 600, .inl (zi_F P))), (a3, .inl (cC, 600, .inl (zi_F (zh_seG F G n rd p0 p1))))] H := by rw [e_n_128_0]; exact hP
          have hD9 : va_D A [(x, .inr (5, [.int (zi_n 0), .ref a, .int (zi_n n), .int (zi_n rd), .int (zi_n br), .ref a2, .ref a3, .int (zi_n v), .int (zi_n ln)])), (a, .inl (cA, 600, .inl (zi_F F))), (a2, .inl (cB, 600, .inl (zi_F P))), (a3, .inl (cC, 600, .inl (zi_F (zh_seG F G n rd p0 p1))))] := by rw [e_n_128_0]; exact hD
          exact W.iret (v := zi_n (-12)) hx hb hr (fun t ht hW => ⟨⟨zi_n (-12), (), rfl, zl_r (by unfold zh_seE; rw [if_neg (by omega), zh_if_f (by unfold zh_seB; omega)]) (by omega), by rw [ht]; exact hP9, va_K.moved hW.alike hK, hD9⟩, hS.F ht⟩) hS.2.2 dX4_set_50
    · refine zr_if_eq (tgt := 48) hx hb dX4_set_22 (by decide) (by omega) (fun c_129 => ?_) (fun c => absurd c (by decide))
      refine zr_bipush hx hb dX4_set_48 (by decide) ?_
      have e_n_130_0 : zh_seG F G n rd p0 p1 = G := by unfold zh_seG; exact zh_if_f (by intro h; have := h.2.1; unfold zh_seB at this; omega) _ _
      have hP9 : va_P D vwCl [(x, .inr (5, [.int (zi_n 0), .ref a, .int (zi_n n), .int (zi_n rd), .int (zi_n br), .ref a2, .ref a3, .int (zi_n v), .int (zi_n ln)])), (a, .inl (cA, 600, .inl (zi_F F))), (a2, .inl (cB, 600, .inl (zi_F P))), (a3, .inl (cC, 600, .inl (zi_F (zh_seG F G n rd p0 p1))))] H := by rw [e_n_130_0]; exact hP
      have hD9 : va_D A [(x, .inr (5, [.int (zi_n 0), .ref a, .int (zi_n n), .int (zi_n rd), .int (zi_n br), .ref a2, .ref a3, .int (zi_n v), .int (zi_n ln)])), (a, .inl (cA, 600, .inl (zi_F F))), (a2, .inl (cB, 600, .inl (zi_F P))), (a3, .inl (cC, 600, .inl (zi_F (zh_seG F G n rd p0 p1))))] := by rw [e_n_130_0]; exact hD
      exact W.iret (v := zi_n (-12)) hx hb hr (fun t ht hW => ⟨⟨zi_n (-12), (), rfl, zl_r (by unfold zh_seE; rw [if_neg (by omega), zh_if_f (by unfold zh_seB; omega)]) (by omega), by rw [ht]; exact hP9, va_K.moved hW.alike hK, hD9⟩, hS.F ht⟩) hS.2.2 dX4_set_50
  · refine zr_bipush hx hb dX4_set_12 (by decide) ?_
    have e_n_131_0 : zh_seG F G n rd p0 p1 = G := by unfold zh_seG; exact zh_if_f (by intro h; omega) _ _
    have hP9 : va_P D vwCl [(x, .inr (5, [.int (zi_n 0), .ref a, .int (zi_n n), .int (zi_n rd), .int (zi_n br), .ref a2, .ref a3, .int (zi_n v), .int (zi_n ln)])), (a, .inl (cA, 600, .inl (zi_F F))), (a2, .inl (cB, 600, .inl (zi_F P))), (a3, .inl (cC, 600, .inl (zi_F (zh_seG F G n rd p0 p1))))] H := by rw [e_n_131_0]; exact hP
    have hD9 : va_D A [(x, .inr (5, [.int (zi_n 0), .ref a, .int (zi_n n), .int (zi_n rd), .int (zi_n br), .ref a2, .ref a3, .int (zi_n v), .int (zi_n ln)])), (a, .inl (cA, 600, .inl (zi_F F))), (a2, .inl (cB, 600, .inl (zi_F P))), (a3, .inl (cC, 600, .inl (zi_F (zh_seG F G n rd p0 p1))))] := by rw [e_n_131_0]; exact hD
    exact W.iret (v := zi_n (-11)) hx hb hr (fun t ht hW => ⟨⟨zi_n (-11), (), rfl, zl_r (by unfold zh_seE; exact if_pos (by omega)) (by omega), by rw [ht]; exact hP9, va_K.moved hW.alike hK, hD9⟩, hS.F ht⟩) hS.2.2 dX4_set_14

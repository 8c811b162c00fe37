theorem in_X4_restart_X4 : ∀ w ∈ u_ws RX4 TX4 9, w ∈ wsX4_restart := by decide +kernel
set_option maxHeartbeats 4000000 in
set_option maxRecDepth 100000 in
theorem c_M_restart (l : Launch) (D : va_G) (x a a2 a3 : Nat) (cA cB cC : ClassId) (F P G : Nat → Int) (n rd br v ln ft : Int) (hF : zi_By F) (hn : 0 ≤ n ∧ n ≤ 600) (hP0 : zi_By P) (hG : zi_By G) (hrd : rd = 0 ∨ rd = 1) (hbr : 0 ≤ br ∧ br ≤ 15) (hv0 : 0 ≤ v ∧ v ≤ 255) (hln : 0 ≤ ln ∧ ln ≤ 524280) (hft : 0 ≤ ft ∧ ft ≤ 1) (sz : Nat) (hR : rd = 1 → 64 ≤ n ∧ v = F 0 ∧ ln = zh_len F n ∧ (1 ≤ F 0 ∧ F 0 ≤ 8) ∧ (64 ≤ ln ∧ ln ≤ n) ∧ (64 ≤ zh_t F 14 ∧ zh_t F 14 ≤ ln) ∧ (64 ≤ zh_t F 12 ∧ zh_t F 12 + 480 ≤ zh_t F 14) ∧ (64 ≤ zh_t F 8 ∧ zh_t F 8 + F (zh_t F 8).toNat + 3 < n)) : Met l yX4_restart wsX4_restart ({ frames := 1, cells := 0, slots := 0, locals := 21 }) (va_Pc [.ref x] (zp_P D vwCl sz [(x, .inr (5, [.int (zi_n ft), .ref a, .int (zi_n n), .int (zi_n rd), .int (zi_n br), .ref a2, .ref a3, .int (zi_n v), .int (zi_n ln)])), (a, .inl (cA, 600, .inl (zi_F F))), (a2, .inl (cB, 600, .inl (zi_F P))), (a3, .inl (cC, 600, .inl (zi_F G)))] [(cA, .int), (cB, .int), (cC, .int)])) (va_Qi (fun (r : Int32) (_ : Unit) => r = zi_n (zh_qre F P G rd) ∧ -11 ≤ (zh_qre F P G rd) ∧ (zh_qre F P G rd) ≤ 600) (fun (_ : Unit) => zp_B D vwCl [(cA, .int), (cB, .int), (cC, .int)] (va_A [(x, .inr (5, [.int (zi_n ft), .ref a, .int (zi_n n), .int (zi_n rd), .int (zi_n br), .ref a2, .ref a3, .int (zi_n v), .int (zi_n ln)])), (a, .inl (cA, 600, .inl (zi_F F))), (a2, .inl (cB, 600, .inl (zi_F P))), (a3, .inl (cC, 600, .inl (zi_F G)))] sz) [(x, .inr (5, [.int (zi_n 0), .ref a, .int (zi_n n), .int (zi_n rd), .int (zi_n br), .ref a2, .ref a3, .int (zi_n v), .int (zi_n ln)])), (a, .inl (cA, 600, .inl (zi_F F))), (a2, .inl (cB, 600, .inl (zi_F P))), (a3, .inl (cC, 600, .inl (zi_F (zh_qreG F P G rd))))]) (va_A [(x, .inr (5, [.int (zi_n ft), .ref a, .int (zi_n n), .int (zi_n rd), .int (zi_n br), .ref a2, .ref a3, .int (zi_n v), .int (zi_n ln)])), (a, .inl (cA, 600, .inl (zi_F F))), (a2, .inl (cB, 600, .inl (zi_F P))), (a3, .inl (cC, 600, .inl (zi_F G)))] sz)) 0 0 (va_A [(x, .inr (5, [.int (zi_n ft), .ref a, .int (zi_n n), .int (zi_n rd), .int (zi_n br), .ref a2, .ref a3, .int (zi_n v), .int (zi_n ln)])), (a, .inl (cA, 600, .inl (zi_F F))), (a2, .inl (cB, 600, .inl (zi_F P))), (a3, .inl (cC, 600, .inl (zi_F G)))] sz) := by
  refine Met.ofW (cc := cX4_restart) (maxL := 3) (ret := (some .int)) (by decide) rfl ?_
  intro p e s m args below meth c s₁ B hml hv
  obtain ⟨rfl, hsz, hP, hK, hD0⟩ := hv
  have hx := B.exec
  have hb := B.bytes
  have hr := B.returns
  have hts := atoms_spec (ws := wsX4_restart) B.pre
  have hown : s.vm.findClass RX4 = some m.cls := findClass_of_methodNamed B.named
  have hlocks := B.notSynchronized
  subst hsz
  have hD := hD0.self (sz := s.heap.size)
  generalize hAe : va_A [(x, .inr (5, [.int (zi_n ft), .ref a, .int (zi_n n), .int (zi_n rd), .int (zi_n br), .ref a2, .ref a3, .int (zi_n v), .int (zi_n ln)])), (a, .inl (cA, 600, .inl (zi_F F))), (a2, .inl (cB, 600, .inl (zi_F P))), (a3, .inl (cC, 600, .inl (zi_F G)))] s.heap.size = A at hD ⊢
  have hA : ∀ q : Nat, s.heap.size ≤ q → A q := fun q h => by rw [← hAe]; exact Or.inr h
  have hS : va_S A s.heap s.heap [] := va_S.rf
  have hP : va_P D vwCl [(x, .inr (5, [.int (zi_n ft), .ref a, .int (zi_n n), .int (zi_n rd), .int (zi_n br), .ref a2, .ref a3, .int (zi_n v), .int (zi_n ln)])), (a, .inl (cA, 600, .inl (zi_F F))), (a2, .inl (cB, 600, .inl (zi_F P))), (a3, .inl (cC, 600, .inl (zi_F G)))] s.heap := hP
  have hl := lv_entry ([.ref x]) (n := 3) (Nat.le_of_ble_eq_true rfl)
  rw [lg_entry_eq]
  generalize (lg_sl ([.ref x]) ++ List.replicate (3 - (lg_sl ([.ref x])).length) Slot.unset).toArray = ls at hl ⊢
  have hl : lv_has ls 3 [(0, .ref x)] := hl
  refine lv_aload_n hx hb dX4_restart_0 rfl (lv_at hl 0 rfl) ?_
  refine zr_iconst hx hb dX4_restart_1 ?_
  refine va_put (D := D) (ci := 5) (v := .int (zi_n 0)) (ty := .int) (C := RX4) (T := TX4) (N := 9) hx hb hts in_X4_restart_X4 tyX4 tyX4_ok nmX4 hown hK hP hD hS 0 rfl rfl 0 (by decide) (hts (.fieldLink RX4 19 "ZHeadsModel" "fault" "I") (by decide +kernel)) (fun _ h9 => h9) rfl (by decide +kernel) rfl rfl (Nat.le_of_ble_eq_true rfl) dX4_restart_2 (fun H locs hP hD hS => ?_)
  have hP : va_P D vwCl [(x, .inr (5, [.int (zi_n 0), .ref a, .int (zi_n n), .int (zi_n rd), .int (zi_n br), .ref a2, .ref a3, .int (zi_n v), .int (zi_n ln)])), (a, .inl (cA, 600, .inl (zi_F F))), (a2, .inl (cB, 600, .inl (zi_F P))), (a3, .inl (cC, 600, .inl (zi_F G)))] H := hP
  have hD : va_D A [(x, .inr (5, [.int (zi_n 0), .ref a, .int (zi_n n), .int (zi_n rd), .int (zi_n br), .ref a2, .ref a3, .int (zi_n v), .int (zi_n ln)])), (a, .inl (cA, 600, .inl (zi_F F))), (a2, .inl (cB, 600, .inl (zi_F P))), (a3, .inl (cC, 600, .inl (zi_F G)))] := hD
  refine lv_aload_n hx hb dX4_restart_5 rfl (lv_at hl 0 rfl) ?_
  refine va_get (D := D) (ci := 5) (v := .int (zi_n rd)) (C := RX4) (T := TX4) (N := 9) hx hb hts in_X4_restart_X4 hown hK hP 0 rfl rfl 3 (by decide) (hts (.fieldLink RX4 36 "ZHeadsModel" "isRead" "Z") (by decide +kernel)) (fun _ h9 => h9) rfl dX4_restart_6 ?_
  refine zr_if_ne (tgt := 15) hx hb dX4_restart_9 (by decide) (by omega) (fun c_1 => ?_) (fun c_1 => ?_)
  · have hR1 := hR (by omega)
    refine zr_iconst hx hb dX4_restart_15 ?_
    refine lv_istore_n (lv' := [(1, .int (zi_n 0)), (0, .ref x)]) hx hb dX4_restart_16 rfl hl (by decide) rfl (fun ls hl => ?_)
    refine zr_bipush hx hb dX4_restart_17 (by decide) ?_
    refine lv_istore_n (lv' := [(2, .int (zi_n 64)), (1, .int (zi_n 0)), (0, .ref x)]) hx hb dX4_restart_19 rfl hl (by decide) rfl (fun ls hl => ?_)
    have key : ∀ (N : Nat) (i : Int), (64 ≤ i) → (i ≤ zh_t F 14) → 600 - i < N → ∀ (H : Heap) (locs : List Loc), va_P D vwCl [(x, .inr (5, [.int (zi_n 0), .ref a, .int (zi_n n), .int (zi_n rd), .int (zi_n br), .ref a2, .ref a3, .int (zi_n v), .int (zi_n ln)])), (a, .inl (cA, 600, .inl (zi_F F))), (a2, .inl (cB, 600, .inl (zi_F P))), (a3, .inl (cC, 600, .inl (zi_F (zh_rs P G i))))] H → va_D A [(x, .inr (5, [.int (zi_n 0), .ref a, .int (zi_n n), .int (zi_n rd), .int (zi_n br), .ref a2, .ref a3, .int (zi_n v), .int (zi_n ln)])), (a, .inl (cA, 600, .inl (zi_F F))), (a2, .inl (cB, 600, .inl (zi_F P))), (a3, .inl (cC, 600, .inl (zi_F (zh_rs P G i))))] → va_S A s.heap H locs → ∀ ls : Array Slot, lv_has ls 3 [(2, .int (zi_n i)), (1, .int (zi_n (zh_dc P G (i - 64).toNat))), (0, .ref x)] → W p l e (headSpec wsX4_restart ({ frames := 1, cells := 0, slots := 0, locals := 21 })).room s m ([.ref x] : List Value).toArray below meth c H locs 0 0 (MQ below (va_Qi (fun (r : Int32) (_ : Unit) => r = zi_n (zh_qre F P G rd) ∧ -11 ≤ (zh_qre F P G rd) ∧ (zh_qre F P G rd) ≤ 600) (fun (_ : Unit) => zp_B D vwCl [(cA, .int), (cB, .int), (cC, .int)] A [(x, .inr (5, [.int (zi_n 0), .ref a, .int (zi_n n), .int (zi_n rd), .int (zi_n br), .ref a2, .ref a3, .int (zi_n v), .int (zi_n ln)])), (a, .inl (cA, 600, .inl (zi_F F))), (a2, .inl (cB, 600, .inl (zi_F P))), (a3, .inl (cC, 600, .inl (zi_F (zh_qreG F P G rd))))]) A) ([.ref x] : List Value).toArray s 0 0 A) (F0 m 20 ls []) := by
      intro N
      induction N with
      | zero => intro i  h1 h2 hm H locs hP hD hS ls hl; exfalso; omega
      | succ N ih =>
        intro i  h1 h2 hm H locs hP hD hS ls hl
        have hGi : zi_By (zh_rs P G i) := zh_rs_By hP0 hG i
        have hdc := zh_dc_b P G (i - 64).toNat
        have g1 : zh_rs P G i i.toNat = G i.toNat := zh_rs_at (by omega)
        refine lv_iload_n hx hb dX4_restart_20 rfl (lv_at hl 0 rfl) ?_
        refine lv_aload_n hx hb dX4_restart_21 rfl (lv_at hl 2 rfl) ?_
        refine zr_bipush hx hb dX4_restart_22 (by decide) ?_
        refine zc_V (As := [.int (zi_n 14)]) (rest := [.int (zi_n i)]) ⟨hx, hb, hml, hown, hts⟩ (c_M_two_k l D x a a2 a3 cA cB cC F P (zh_rs P G i) n rd br v ln 0 hF (by omega) hP0 hGi (by omega) (by omega) (by omega) (by omega) (by omega) 14 14 rfl (by omega)) (cwV 1 hts gX4_restart_X4_two rfl rfl rfl (by decide +kernel) ⟨(Nat.le_of_ble_eq_true rfl), (Nat.le_of_ble_eq_true rfl)⟩) hP hK [0, 1, 2, 3] [0, 1, 2] rfl rfl (ci := 5) rfl rfl rfl rfl hl.1 rfl (Nat.le_of_ble_eq_true rfl) dX4_restart_24 ⟨Nat.zero_le _, Nat.zero_le _⟩ (fun r hr1 => ?_)
        obtain ⟨rfl, b_2⟩ := hr1
        refine zr_icmp_ge (tgt := 71) hx hb dX4_restart_27 (by decide) (by omega) (by omega) (fun c_3 => ?_) (fun c_3 => ?_)
        · refine lv_iload_n hx hb dX4_restart_71 rfl (lv_at hl 1 rfl) ?_
          have e_n_4_0 : zh_qreG F P G rd = zh_rs P G i := by unfold zh_qreG; first | (rw [if_pos (by omega)]; done) | (rw [if_neg (by omega), show zh_t F 14 = i by omega])
          have hP9 : va_P D vwCl [(x, .inr (5, [.int (zi_n 0), .ref a, .int (zi_n n), .int (zi_n rd), .int (zi_n br), .ref a2, .ref a3, .int (zi_n v), .int (zi_n ln)])), (a, .inl (cA, 600, .inl (zi_F F))), (a2, .inl (cB, 600, .inl (zi_F P))), (a3, .inl (cC, 600, .inl (zi_F (zh_qreG F P G rd))))] H := by rw [e_n_4_0]; exact hP
          have hD9 : va_D A [(x, .inr (5, [.int (zi_n 0), .ref a, .int (zi_n n), .int (zi_n rd), .int (zi_n br), .ref a2, .ref a3, .int (zi_n v), .int (zi_n ln)])), (a, .inl (cA, 600, .inl (zi_F F))), (a2, .inl (cB, 600, .inl (zi_F P))), (a3, .inl (cC, 600, .inl (zi_F (zh_qreG F P G rd))))] := by rw [e_n_4_0]; exact hD
          exact W.iret (v := zi_n (zh_dc P G (i - 64).toNat)) hx hb hr (fun t ht hW => ⟨⟨zi_n (zh_dc P G (i - 64).toNat), (), rfl, zl_r (by unfold zh_qre; first | (rw [if_pos (by omega)]; done) | (rw [if_neg (by omega), show zh_t F 14 = i by omega])) (by omega), by rw [ht]; exact hP9, va_K.moved hW.alike hK, hD9⟩, hS.F ht⟩) hS.2.2 dX4_restart_72
        · refine lv_iload_n hx hb dX4_restart_30 rfl (lv_at hl 1 rfl) ?_
          refine lv_aload_n hx hb dX4_restart_31 rfl (lv_at hl 2 rfl) ?_
          refine va_get (D := D) (ci := 5) (v := .ref a3) (C := RX4) (T := TX4) (N := 9) hx hb hts in_X4_restart_X4 hown hK hP 0 rfl rfl 6 (by decide) (hts (.fieldLink RX4 16 "ZHeadsModel" "memory" "[I") (by decide +kernel)) (fun _ h9 => h9) rfl dX4_restart_32 ?_
          refine lv_iload_n hx hb dX4_restart_35 rfl (lv_at hl 0 rfl) ?_
          refine zr_iald hx hb hK hP 3 2 rfl rfl (by decide) (by omega) dX4_restart_36 ?_
          have b_5 := hGi i.toNat
          refine lv_aload_n hx hb dX4_restart_37 rfl (lv_at hl 2 rfl) ?_
          refine va_get (D := D) (ci := 5) (v := .ref a2) (C := RX4) (T := TX4) (N := 9) hx hb hts in_X4_restart_X4 hown hK hP 0 rfl rfl 5 (by decide) (hts (.fieldLink RX4 13 "ZHeadsModel" "read" "[I") (by decide +kernel)) (fun _ h9 => h9) rfl dX4_restart_38 ?_
          refine lv_iload_n hx hb dX4_restart_41 rfl (lv_at hl 0 rfl) ?_
          refine zr_iald hx hb hK hP 2 1 rfl rfl (by decide) (by omega) dX4_restart_42 ?_
          have b_6 := hP0 i.toNat
          refine zr_icmp_eq (tgt := 50) hx hb dX4_restart_43 (by decide) (by omega) (by omega) (fun c_7 => ?_) (fun c_7 => ?_)
          · refine zr_iconst hx hb dX4_restart_50 ?_
            refine zr_iadd hx hb dX4_restart_51 ?_
            refine lv_istore_n (lv' := [(1, .int (zi_n ((zh_dc P G (i - 64).toNat) + 0))), (2, .int (zi_n i)), (0, .ref x)]) hx hb dX4_restart_52 rfl hl (by decide) rfl (fun ls hl => ?_)
            refine lv_aload_n hx hb dX4_restart_53 rfl (lv_at hl 2 rfl) ?_
            refine va_get (D := D) (ci := 5) (v := .ref a3) (C := RX4) (T := TX4) (N := 9) hx hb hts in_X4_restart_X4 hown hK hP 0 rfl rfl 6 (by decide) (hts (.fieldLink RX4 16 "ZHeadsModel" "memory" "[I") (by decide +kernel)) (fun _ h9 => h9) rfl dX4_restart_54 ?_
            refine lv_iload_n hx hb dX4_restart_57 rfl (lv_at hl 1 rfl) ?_
            refine lv_aload_n hx hb dX4_restart_58 rfl (lv_at hl 2 rfl) ?_
            refine va_get (D := D) (ci := 5) (v := .ref a2) (C := RX4) (T := TX4) (N := 9) hx hb hts in_X4_restart_X4 hown hK hP 0 rfl rfl 5 (by decide) (hts (.fieldLink RX4 13 "ZHeadsModel" "read" "[I") (by decide +kernel)) (fun _ h9 => h9) rfl dX4_restart_59 ?_
            refine lv_iload_n hx hb dX4_restart_62 rfl (lv_at hl 1 rfl) ?_
            refine zr_iald hx hb hK hP 2 1 rfl rfl (by decide) (by omega) dX4_restart_63 ?_
            have b_8 := hP0 i.toNat
            refine zr_iast (x := P i.toNat) hx hb hK hP hD hS 3 2 rfl rfl (by decide) (by omega) dX4_restart_64 (fun H locs hP hD hS => ?_)
            have hF_9 : zi_By (zi_up (zh_rs P G i) i.toNat (P i.toNat)) := zi_up_By hGi _ (by omega)
            have hP : va_P D vwCl [(x, .inr (5, [.int (zi_n 0), .ref a, .int (zi_n n), .int (zi_n rd), .int (zi_n br), .ref a2, .ref a3, .int (zi_n v), .int (zi_n ln)])), (a, .inl (cA, 600, .inl (zi_F F))), (a2, .inl (cB, 600, .inl (zi_F P))), (a3, .inl (cC, 600, .inl (zi_F (zi_up (zh_rs P G i) i.toNat (P i.toNat)))))] H := hP
            have hD : va_D A [(x, .inr (5, [.int (zi_n 0), .ref a, .int (zi_n n), .int (zi_n rd), .int (zi_n br), .ref a2, .ref a3, .int (zi_n v), .int (zi_n ln)])), (a, .inl (cA, 600, .inl (zi_F F))), (a2, .inl (cB, 600, .inl (zi_F P))), (a3, .inl (cC, 600, .inl (zi_F (zi_up (zh_rs P G i) i.toNat (P i.toNat)))))] := hD
            refine zr_iinc (lv' := [(2, .int (zi_n (i + 1))), (1, .int (zi_n ((zh_dc P G (i - 64).toNat) + 0))), (0, .ref x)]) hx hb dX4_restart_65 hl (k := 1) rfl (by decide) rfl (fun ls hl => ?_)
            refine lv_goto (tgt := 20) hx hb dX4_restart_68 (by decide) ?_
            have e1 : zi_up (zh_rs P G i) i.toNat (P i.toNat) = zh_rs P G (i + 1) := by exact zh_rs_s (by omega)
            have e2 : zh_dc P G (i - 64).toNat + 0 = zh_dc P G (i + 1 - 64).toNat := by rw [Int.add_zero]; exact zh_dc_e (by omega) (by omega)
            rw [e1] at hP hD; rw [e2] at hl
            exact ih (i + 1) (by omega) (by omega) (by omega) H locs hP hD hS _ (lv_sub hl [0, 1, 2] rfl)
          · refine zr_iconst hx hb dX4_restart_46 ?_
            refine lv_goto (tgt := 51) hx hb dX4_restart_47 (by decide) ?_
            refine zr_iadd hx hb dX4_restart_51 ?_
            refine lv_istore_n (lv' := [(1, .int (zi_n ((zh_dc P G (i - 64).toNat) + 1))), (2, .int (zi_n i)), (0, .ref x)]) hx hb dX4_restart_52 rfl hl (by decide) rfl (fun ls hl => ?_)
            refine lv_aload_n hx hb dX4_restart_53 rfl (lv_at hl 2 rfl) ?_
            refine va_get (D := D) (ci := 5) (v := .ref a3) (C := RX4) (T := TX4) (N := 9) hx hb hts in_X4_restart_X4 hown hK hP 0 rfl rfl 6 (by decide) (hts (.fieldLink RX4 16 "ZHeadsModel" "memory" "[I") (by decide +kernel)) (fun _ h9 => h9) rfl dX4_restart_54 ?_
            refine lv_iload_n hx hb dX4_restart_57 rfl (lv_at hl 1 rfl) ?_
            refine lv_aload_n hx hb dX4_restart_58 rfl (lv_at hl 2 rfl) ?_
            refine va_get (D := D) (ci := 5) (v := .ref a2) (C := RX4) (T := TX4) (N := 9) hx hb hts in_X4_restart_X4 hown hK hP 0 rfl rfl 5 (by decide) (hts (.fieldLink RX4 13 "ZHeadsModel" "read" "[I") (by decide +kernel)) (fun _ h9 => h9) rfl dX4_restart_59 ?_
            refine lv_iload_n hx hb dX4_restart_62 rfl (lv_at hl 1 rfl) ?_
            refine zr_iald hx hb hK hP 2 1 rfl rfl (by decide) (by omega) dX4_restart_63 ?_
            have b_10 := hP0 i.toNat
            refine zr_iast (x := P i.toNat) hx hb hK hP hD hS 3 2 rfl rfl (by decide) (by omega) dX4_restart_64 (fun H locs hP hD hS => ?_)
            have hF_11 : zi_By (zi_up (zh_rs P G i) i.toNat (P i.toNat)) := zi_up_By hGi _ (by omega)
            have hP : va_P D vwCl [(x, .inr (5, [.int (zi_n 0), .ref a, .int (zi_n n), .int (zi_n rd), .int (zi_n br), .ref a2, .ref a3, .int (zi_n v), .int (zi_n ln)])), (a, .inl (cA, 600, .inl (zi_F F))), (a2, .inl (cB, 600, .inl (zi_F P))), (a3, .inl (cC, 600, .inl (zi_F (zi_up (zh_rs P G i) i.toNat (P i.toNat)))))] H := hP
            have hD : va_D A [(x, .inr (5, [.int (zi_n 0), .ref a, .int (zi_n n), .int (zi_n rd), .int (zi_n br), .ref a2, .ref a3, .int (zi_n v), .int (zi_n ln)])), (a, .inl (cA, 600, .inl (zi_F F))), (a2, .inl (cB, 600, .inl (zi_F P))), (a3, .inl (cC, 600, .inl (zi_F (zi_up (zh_rs P G i) i.toNat (P i.toNat)))))] := hD
            refine zr_iinc (lv' := [(2, .int (zi_n (i + 1))), (1, .int (zi_n ((zh_dc P G (i - 64).toNat) + 1))), (0, .ref x)]) hx hb dX4_restart_65 hl (k := 1) rfl (by decide) rfl (fun ls hl => ?_)
            refine lv_goto (tgt := 20) hx hb dX4_restart_68 (by decide) ?_
            have e1 : zi_up (zh_rs P G i) i.toNat (P i.toNat) = zh_rs P G (i + 1) := by exact zh_rs_s (by omega)
            have e2 : zh_dc P G (i - 64).toNat + 1 = zh_dc P G (i + 1 - 64).toNat := by exact zh_dc_n (by omega) (by omega)
            rw [e1] at hP hD; rw [e2] at hl
            exact ih (i + 1) (by omega) (by omega) (by omega) H locs hP hD hS _ (lv_sub hl [0, 1, 2] rfl)
    have e0 : zh_rs P G 64 = G := by exact zh_rs_0 P G
    exact key 601 64 (by omega) (by omega) (by omega) _ _ (by rw [e0]; exact hP) (by rw [e0]; exact hD) hS _ hl
  · refine zr_bipush hx hb dX4_restart_12 (by decide) ?_
    have e_n_12_0 : zh_qreG F P G rd = G := by unfold zh_qreG; first | (rw [if_pos (by omega)]; done) | (rw [if_neg (by omega), show zh_t F 14 = i by omega])
    have hP9 : va_P D vwCl [(x, .inr (5, [.int (zi_n 0), .ref a, .int (zi_n n), .int (zi_n rd), .int (zi_n br), .ref a2, .ref a3, .int (zi_n v), .int (zi_n ln)])), (a, .inl (cA, 600, .inl (zi_F F))), (a2, .inl (cB, 600, .inl (zi_F P))), (a3, .inl (cC, 600, .inl (zi_F (zh_qreG F P G rd))))] H := by rw [e_n_12_0]; exact hP
    have hD9 : va_D A [(x, .inr (5, [.int (zi_n 0), .ref a, .int (zi_n n), .int (zi_n rd), .int (zi_n br), .ref a2, .ref a3, .int (zi_n v), .int (zi_n ln)])), (a, .inl (cA, 600, .inl (zi_F F))), (a2, .inl (cB, 600, .inl (zi_F P))), (a3, .inl (cC, 600, .inl (zi_F (zh_qreG F P G rd))))] := by rw [e_n_12_0]; exact hD
    exact W.iret (v := zi_n (-11)) hx hb hr (fun t ht hW => ⟨⟨zi_n (-11), (), rfl, zl_r (by unfold zh_qre; first | (rw [if_pos (by omega)]; done) | (rw [if_neg (by omega), show zh_t F 14 = i by omega])) (by omega), by rw [ht]; exact hP9, va_K.moved hW.alike hK, hD9⟩, hS.F ht⟩) hS.2.2 dX4_restart_14

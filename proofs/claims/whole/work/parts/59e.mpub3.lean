theorem in_X4_sum_X4 : ∀ w ∈ u_ws RX4 TX4 9, w ∈ wsX4_sum := by decide +kernel
set_option maxHeartbeats 4000000 in
set_option maxRecDepth 100000 in
theorem c_M_sum (l : Launch) (D : va_G) (x a a2 a3 : Nat) (cA cB cC : ClassId) (F P G : Nat → Int) (n rd br v ln ft : Int) (hF : zi_By F) (hn : 0 ≤ n ∧ n ≤ 600) (hP0 : zi_By P) (hG : zi_By G) (hrd : rd = 0 ∨ rd = 1) (hbr : 0 ≤ br ∧ br ≤ 15) (hv0 : 0 ≤ v ∧ v ≤ 255) (hln : 0 ≤ ln ∧ ln ≤ 524280) (hft : 0 ≤ ft ∧ ft ≤ 1) (sz : Nat) (hR : rd = 1 → 64 ≤ n ∧ v = F 0 ∧ ln = zh_len F n ∧ (1 ≤ F 0 ∧ F 0 ≤ 8) ∧ (64 ≤ ln ∧ ln ≤ n) ∧ (64 ≤ zh_t F 14 ∧ zh_t F 14 ≤ ln) ∧ (64 ≤ zh_t F 12 ∧ zh_t F 12 + 480 ≤ zh_t F 14) ∧ (64 ≤ zh_t F 8 ∧ zh_t F 8 + F (zh_t F 8).toNat + 3 < n)) : Met l yX4_sum wsX4_sum ({ frames := 0, cells := 0, slots := 0, locals := 0 }) (va_Pc [.ref x] (zp_P D vwCl sz [(x, .inr (5, [.int (zi_n ft), .ref a, .int (zi_n n), .int (zi_n rd), .int (zi_n br), .ref a2, .ref a3, .int (zi_n v), .int (zi_n ln)])), (a, .inl (cA, 600, .inl (zi_F F))), (a2, .inl (cB, 600, .inl (zi_F P))), (a3, .inl (cC, 600, .inl (zi_F G)))] [(cA, .int), (cB, .int), (cC, .int)])) (va_Qi (fun (r : Int32) (_ : Unit) => r = zi_n (zh_qsu P rd ln) ∧ -11 ≤ (zh_qsu P rd ln) ∧ (zh_qsu P rd ln) ≤ 65535) (fun (_ : Unit) => zp_B D vwCl [(cA, .int), (cB, .int), (cC, .int)] (va_A [(x, .inr (5, [.int (zi_n ft), .ref a, .int (zi_n n), .int (zi_n rd), .int (zi_n br), .ref a2, .ref a3, .int (zi_n v), .int (zi_n ln)])), (a, .inl (cA, 600, .inl (zi_F F))), (a2, .inl (cB, 600, .inl (zi_F P))), (a3, .inl (cC, 600, .inl (zi_F G)))] sz) [(x, .inr (5, [.int (zi_n 0), .ref a, .int (zi_n n), .int (zi_n rd), .int (zi_n br), .ref a2, .ref a3, .int (zi_n v), .int (zi_n ln)])), (a, .inl (cA, 600, .inl (zi_F F))), (a2, .inl (cB, 600, .inl (zi_F P))), (a3, .inl (cC, 600, .inl (zi_F G)))]) (va_A [(x, .inr (5, [.int (zi_n ft), .ref a, .int (zi_n n), .int (zi_n rd), .int (zi_n br), .ref a2, .ref a3, .int (zi_n v), .int (zi_n ln)])), (a, .inl (cA, 600, .inl (zi_F F))), (a2, .inl (cB, 600, .inl (zi_F P))), (a3, .inl (cC, 600, .inl (zi_F G)))] sz)) 0 0 (va_A [(x, .inr (5, [.int (zi_n ft), .ref a, .int (zi_n n), .int (zi_n rd), .int (zi_n br), .ref a2, .ref a3, .int (zi_n v), .int (zi_n ln)])), (a, .inl (cA, 600, .inl (zi_F F))), (a2, .inl (cB, 600, .inl (zi_F P))), (a3, .inl (cC, 600, .inl (zi_F G)))] sz) := by
  refine Met.ofW (cc := cX4_sum) (maxL := 3) (ret := (some .int)) (by decide) rfl ?_
  intro p e s m args below meth c s₁ B hml hv
  obtain ⟨rfl, hsz, hP, hK, hD0⟩ := hv
  have hx := B.exec
  have hb := B.bytes
  have hr := B.returns
  have hts := atoms_spec (ws := wsX4_sum) B.pre
  have hown : s.vm.findClass RX4 = some m.cls := findClass_of_methodNamed B.named
  have hlocks := B.notSynchronized
  subst hsz
  have hD := hD0.self (sz := s.heap.size)
  generalize hAe : va_A [(x, .inr (5, [.int (zi_n ft), .ref a, .int (zi_n n), .int (zi_n rd), .int (zi_n br), .ref a2, .ref a3, .int (zi_n v), .int (zi_n ln)])), (a, .inl (cA, 600, .inl (zi_F F))), (a2, .inl (cB, 600, .inl (zi_F P))), (a3, .inl (cC, 600, .inl (zi_F G)))] s.heap.size = A at hD ⊢
  have hA : ∀ q : Nat, s.heap.size ≤ q → A q := fun q h => by rw [← hAe]; exact Or.inr h
  have hS : va_S A s.heap s.heap [] := va_S.rf
  have hP : va_P D vwCl [(x, .inr (5, [.int (zi_n ft), .ref a, .int (zi_n n), .int (zi_n rd), .int (zi_n br), .ref a2, .ref a3, .int (zi_n v), .int (zi_n ln)])), (a, .inl (cA, 600, .inl (zi_F F))), (a2, .inl (cB, 600, .inl (zi_F P))), (a3, .inl (cC, 600, .inl (zi_F G)))] s.heap := hP
  have hl := lv_entry ([.ref x]) (n := 3) (Nat.le_of_ble_eq_true rfl)
  rw [lg_entry_eq]
  generalize (lg_sl ([.ref x]) ++ List.replicate (3 - (lg_sl ([.ref x])).length) Slot.unset).toArray = ls at hl ⊢
  have hl : lv_has ls 3 [(0, .ref x)] := hl
  refine lv_aload_n hx hb dX4_sum_0 rfl (lv_at hl 0 rfl) ?_
  refine zr_iconst hx hb dX4_sum_1 ?_
  refine va_put (D := D) (ci := 5) (v := .int (zi_n 0)) (ty := .int) (C := RX4) (T := TX4) (N := 9) hx hb hts in_X4_sum_X4 tyX4 tyX4_ok nmX4 hown hK hP hD hS 0 rfl rfl 0 (by decide) (hts (.fieldLink RX4 19 "ZHeadsModel" "fault" "I") (by decide +kernel)) (fun _ h9 => h9) rfl (by decide +kernel) rfl rfl (Nat.le_of_ble_eq_true rfl) dX4_sum_2 (fun H locs hP hD hS => ?_)
  have hP : va_P D vwCl [(x, .inr (5, [.int (zi_n 0), .ref a, .int (zi_n n), .int (zi_n rd), .int (zi_n br), .ref a2, .ref a3, .int (zi_n v), .int (zi_n ln)])), (a, .inl (cA, 600, .inl (zi_F F))), (a2, .inl (cB, 600, .inl (zi_F P))), (a3, .inl (cC, 600, .inl (zi_F G)))] H := hP
  have hD : va_D A [(x, .inr (5, [.int (zi_n 0), .ref a, .int (zi_n n), .int (zi_n rd), .int (zi_n br), .ref a2, .ref a3, .int (zi_n v), .int (zi_n ln)])), (a, .inl (cA, 600, .inl (zi_F F))), (a2, .inl (cB, 600, .inl (zi_F P))), (a3, .inl (cC, 600, .inl (zi_F G)))] := hD
  refine lv_aload_n hx hb dX4_sum_5 rfl (lv_at hl 0 rfl) ?_
  refine va_get (D := D) (ci := 5) (v := .int (zi_n rd)) (C := RX4) (T := TX4) (N := 9) hx hb hts in_X4_sum_X4 hown hK hP 0 rfl rfl 3 (by decide) (hts (.fieldLink RX4 36 "ZHeadsModel" "isRead" "Z") (by decide +kernel)) (fun _ h9 => h9) rfl dX4_sum_6 ?_
  refine zr_if_ne (tgt := 15) hx hb dX4_sum_9 (by decide) (by omega) (fun c_1 => ?_) (fun c_1 => ?_)
  · have hR1 := hR (by omega)
    refine zr_iconst hx hb dX4_sum_15 ?_
    refine lv_istore_n (lv' := [(1, .int (zi_n 0)), (0, .ref x)]) hx hb dX4_sum_16 rfl hl (by decide) rfl (fun ls hl => ?_)
    refine zr_bipush hx hb dX4_sum_17 (by decide) ?_
    refine lv_istore_n (lv' := [(2, .int (zi_n 64)), (1, .int (zi_n 0)), (0, .ref x)]) hx hb dX4_sum_19 rfl hl (by decide) rfl (fun ls hl => ?_)
    have key : ∀ (N : Nat) (i : Int), (64 ≤ i) → (i ≤ ln) → 600 - i < N → ∀ (H : Heap) (locs : List Loc), va_P D vwCl [(x, .inr (5, [.int (zi_n 0), .ref a, .int (zi_n n), .int (zi_n rd), .int (zi_n br), .ref a2, .ref a3, .int (zi_n v), .int (zi_n ln)])), (a, .inl (cA, 600, .inl (zi_F F))), (a2, .inl (cB, 600, .inl (zi_F P))), (a3, .inl (cC, 600, .inl (zi_F G)))] H → va_D A [(x, .inr (5, [.int (zi_n 0), .ref a, .int (zi_n n), .int (zi_n rd), .int (zi_n br), .ref a2, .ref a3, .int (zi_n v), .int (zi_n ln)])), (a, .inl (cA, 600, .inl (zi_F F))), (a2, .inl (cB, 600, .inl (zi_F P))), (a3, .inl (cC, 600, .inl (zi_F G)))] → va_S A s.heap H locs → ∀ ls : Array Slot, lv_has ls 3 [(2, .int (zi_n i)), (1, .int (zi_n (zh_sm P (i - 64).toNat))), (0, .ref x)] → W p l e (headSpec wsX4_sum ({ frames := 0, cells := 0, slots := 0, locals := 0 })).room s m ([.ref x] : List Value).toArray below meth c H locs 0 0 (MQ below (va_Qi (fun (r : Int32) (_ : Unit) => r = zi_n (zh_qsu P rd ln) ∧ -11 ≤ (zh_qsu P rd ln) ∧ (zh_qsu P rd ln) ≤ 65535) (fun (_ : Unit) => zp_B D vwCl [(cA, .int), (cB, .int), (cC, .int)] A [(x, .inr (5, [.int (zi_n 0), .ref a, .int (zi_n n), .int (zi_n rd), .int (zi_n br), .ref a2, .ref a3, .int (zi_n v), .int (zi_n ln)])), (a, .inl (cA, 600, .inl (zi_F F))), (a2, .inl (cB, 600, .inl (zi_F P))), (a3, .inl (cC, 600, .inl (zi_F G)))]) A) ([.ref x] : List Value).toArray s 0 0 A) (F0 m 20 ls []) := by
      intro N
      induction N with
      | zero => intro i  h1 h2 hm H locs hP hD hS ls hl; exfalso; omega
      | succ N ih =>
        intro i  h1 h2 hm H locs hP hD hS ls hl
        have hsm := zh_sm_b hP0 (i - 64).toNat
        refine lv_iload_n hx hb dX4_sum_20 rfl (lv_at hl 0 rfl) ?_
        refine lv_aload_n hx hb dX4_sum_21 rfl (lv_at hl 2 rfl) ?_
        refine va_get (D := D) (ci := 5) (v := .int (zi_n ln)) (C := RX4) (T := TX4) (N := 9) hx hb hts in_X4_sum_X4 hown hK hP 0 rfl rfl 8 (by decide) (hts (.fieldLink RX4 54 "ZHeadsModel" "length" "I") (by decide +kernel)) (fun _ h9 => h9) rfl dX4_sum_22 ?_
        refine zr_icmp_ge (tgt := 43) hx hb dX4_sum_25 (by decide) (by omega) (by omega) (fun c_2 => ?_) (fun c_2 => ?_)
        · refine lv_iload_n hx hb dX4_sum_43 rfl (lv_at hl 1 rfl) ?_
          refine zr_ldc (n := 65536) hx hb hown (hts (.constant RX4 102 (65536)) (by decide +kernel)) (by decide) dX4_sum_44 ?_
          refine zr_irem hx hb dX4_sum_46 (by omega) (by omega) (by omega) (by omega) ?_
          have hP9 : va_P D vwCl [(x, .inr (5, [.int (zi_n 0), .ref a, .int (zi_n n), .int (zi_n rd), .int (zi_n br), .ref a2, .ref a3, .int (zi_n v), .int (zi_n ln)])), (a, .inl (cA, 600, .inl (zi_F F))), (a2, .inl (cB, 600, .inl (zi_F P))), (a3, .inl (cC, 600, .inl (zi_F G)))] H := hP
          have hD9 : va_D A [(x, .inr (5, [.int (zi_n 0), .ref a, .int (zi_n n), .int (zi_n rd), .int (zi_n br), .ref a2, .ref a3, .int (zi_n v), .int (zi_n ln)])), (a, .inl (cA, 600, .inl (zi_F F))), (a2, .inl (cB, 600, .inl (zi_F P))), (a3, .inl (cC, 600, .inl (zi_F G)))] := hD
          exact W.iret (v := zi_n ((zh_sm P (i - 64).toNat) % 65536)) hx hb hr (fun t ht hW => ⟨⟨zi_n ((zh_sm P (i - 64).toNat) % 65536), (), rfl, zl_r (by unfold zh_qsu; first | (rw [if_pos (by omega)]; done) | (rw [if_neg (by omega), show ln = i by omega])) (by omega), by rw [ht]; exact hP9, va_K.moved hW.alike hK, hD9⟩, hS.F ht⟩) hS.2.2 dX4_sum_47
        · refine lv_iload_n hx hb dX4_sum_28 rfl (lv_at hl 1 rfl) ?_
          refine lv_aload_n hx hb dX4_sum_29 rfl (lv_at hl 2 rfl) ?_
          refine va_get (D := D) (ci := 5) (v := .ref a2) (C := RX4) (T := TX4) (N := 9) hx hb hts in_X4_sum_X4 hown hK hP 0 rfl rfl 5 (by decide) (hts (.fieldLink RX4 13 "ZHeadsModel" "read" "[I") (by decide +kernel)) (fun _ h9 => h9) rfl dX4_sum_30 ?_
          refine lv_iload_n hx hb dX4_sum_33 rfl (lv_at hl 0 rfl) ?_
          refine zr_iald hx hb hK hP 2 1 rfl rfl (by decide) (by omega) dX4_sum_34 ?_
          have b_4 := hP0 i.toNat
          refine zr_iadd hx hb dX4_sum_35 ?_
          refine lv_istore_n (lv' := [(1, .int (zi_n ((zh_sm P (i - 64).toNat) + (P i.toNat)))), (2, .int (zi_n i)), (0, .ref x)]) hx hb dX4_sum_36 rfl hl (by decide) rfl (fun ls hl => ?_)
          refine zr_iinc (lv' := [(2, .int (zi_n (i + 1))), (1, .int (zi_n ((zh_sm P (i - 64).toNat) + (P i.toNat)))), (0, .ref x)]) hx hb dX4_sum_37 hl (k := 1) rfl (by decide) rfl (fun ls hl => ?_)
          refine lv_goto (tgt := 20) hx hb dX4_sum_40 (by decide) ?_
          have e2 : zh_sm P (i - 64).toNat + P i.toNat = zh_sm P (i + 1 - 64).toNat := by exact zh_sm_s P (by omega)
          rw [e2] at hl
          exact ih (i + 1) (by omega) (by omega) (by omega) H locs hP hD hS _ (lv_sub hl [0, 1, 2] rfl)
    exact key 601 64 (by omega) (by omega) (by omega) _ _ hP hD hS _ hl
  · refine zr_bipush hx hb dX4_sum_12 (by decide) ?_
    have hP9 : va_P D vwCl [(x, .inr (5, [.int (zi_n 0), .ref a, .int (zi_n n), .int (zi_n rd), .int (zi_n br), .ref a2, .ref a3, .int (zi_n v), .int (zi_n ln)])), (a, .inl (cA, 600, .inl (zi_F F))), (a2, .inl (cB, 600, .inl (zi_F P))), (a3, .inl (cC, 600, .inl (zi_F G)))] H := hP
    have hD9 : va_D A [(x, .inr (5, [.int (zi_n 0), .ref a, .int (zi_n n), .int (zi_n rd), .int (zi_n br), .ref a2, .ref a3, .int (zi_n v), .int (zi_n ln)])), (a, .inl (cA, 600, .inl (zi_F F))), (a2, .inl (cB, 600, .inl (zi_F P))), (a3, .inl (cC, 600, .inl (zi_F G)))] := hD
    exact W.iret (v := zi_n (-11)) hx hb hr (fun t ht hW => ⟨⟨zi_n (-11), (), rfl, zl_r (by unfold zh_qsu; first | (rw [if_pos (by omega)]; done) | (rw [if_neg (by omega), show ln = i by omega])) (by omega), by rw [ht]; exact hP9, va_K.moved hW.alike hK, hD9⟩, hS.F ht⟩) hS.2.2 dX4_sum_14

set_option maxHeartbeats 4000000 in
set_option maxRecDepth 100000 in
theorem c_M_agrees (l : Launch) (D : va_G) (x a a2 a3 : Nat) (cA cB cC : ClassId) (F P G : Nat → Int) (n rd br v ln ft : Int) (hF : zi_By F) (hn : 0 ≤ n ∧ n ≤ 600) (hP0 : zi_By P) (hG : zi_By G) (hrd : rd = 0 ∨ rd = 1) (hbr : 0 ≤ br ∧ br ≤ 15) (hv0 : 0 ≤ v ∧ v ≤ 255) (hln : 0 ≤ ln ∧ ln ≤ 524280) (hft : 0 ≤ ft ∧ ft ≤ 1) (sz : Nat) (hR : rd = 1 → 64 ≤ n ∧ v = F 0 ∧ ln = zh_len F n ∧ (1 ≤ F 0 ∧ F 0 ≤ 8) ∧ (64 ≤ ln ∧ ln ≤ n) ∧ (64 ≤ zh_t F 14 ∧ zh_t F 14 ≤ ln) ∧ (64 ≤ zh_t F 12 ∧ zh_t F 12 + 480 ≤ zh_t F 14) ∧ (64 ≤ zh_t F 8 ∧ zh_t F 8 + F (zh_t F 8).toNat + 3 < n)) : Met l yX4_agrees wsX4_agrees ({ frames := 1, cells := 0, slots := 0, locals := 22 }) (va_Pc [.ref x] (zp_P D vwCl sz [(x, .inr (5, [.int (zi_n ft), .ref a, .int (zi_n n), .int (zi_n rd), .int (zi_n br), .ref a2, .ref a3, .int (zi_n v), .int (zi_n ln)])), (a, .inl (cA, 600, .inl (zi_F F))), (a2, .inl (cB, 600, .inl (zi_F P))), (a3, .inl (cC, 600, .inl (zi_F G)))] [(cA, .int), (cB, .int), (cC, .int)])) (va_Qi (fun (r : Int32) (_ : Unit) => r = zi_n (zh_qag F P rd ln) ∧ -11 ≤ (zh_qag F P rd ln) ∧ (zh_qag F P rd ln) ≤ 1) (fun (_ : Unit) => zp_B D vwCl [(cA, .int), (cB, .int), (cC, .int)] (va_A [(x, .inr (5, [.int (zi_n ft), .ref a, .int (zi_n n), .int (zi_n rd), .int (zi_n br), .ref a2, .ref a3, .int (zi_n v), .int (zi_n ln)])), (a, .inl (cA, 600, .inl (zi_F F))), (a2, .inl (cB, 600, .inl (zi_F P))), (a3, .inl (cC, 600, .inl (zi_F G)))] sz) [(x, .inr (5, [.int (zi_n 0), .ref a, .int (zi_n n), .int (zi_n rd), .int (zi_n br), .ref a2, .ref a3, .int (zi_n v), .int (zi_n ln)])), (a, .inl (cA, 600, .inl (zi_F F))), (a2, .inl (cB, 600, .inl (zi_F P))), (a3, .inl (cC, 600, .inl (zi_F G)))]) (va_A [(x, .inr (5, [.int (zi_n ft), .ref a, .int (zi_n n), .int (zi_n rd), .int (zi_n br), .ref a2, .ref a3, .int (zi_n v), .int (zi_n ln)])), (a, .inl (cA, 600, .inl (zi_F F))), (a2, .inl (cB, 600, .inl (zi_F P))), (a3, .inl (cC, 600, .inl (zi_F G)))] sz)) 0 0 (va_A [(x, .inr (5, [.int (zi_n ft), .ref a, .int (zi_n n), .int (zi_n rd), .int (zi_n br), .ref a2, .ref a3, .int (zi_n v), .int (zi_n ln)])), (a, .inl (cA, 600, .inl (zi_F F))), (a2, .inl (cB, 600, .inl (zi_F P))), (a3, .inl (cC, 600, .inl (zi_F G)))] sz) := by
  refine Met.ofW (cc := cX4_agrees) (maxL := 2) (ret := (some .int)) (by decide) rfl ?_
  intro p e s m args below meth c s₁ B hml hv
  obtain ⟨rfl, hsz, hP, hK, hD0⟩ := hv
  have hx := B.exec
  have hb := B.bytes
  have hr := B.returns
  have hts := atoms_spec (ws := wsX4_agrees) B.pre
  have hown : s.vm.findClass RX4 = some m.cls := findClass_of_methodNamed B.named
  have hlocks := B.notSynchronized
  subst hsz
  have hD := hD0.self (sz := s.heap.size)
  generalize hAe : va_A [(x, .inr (5, [.int (zi_n ft), .ref a, .int (zi_n n), .int (zi_n rd), .int (zi_n br), .ref a2, .ref a3, .int (zi_n v), .int (zi_n ln)])), (a, .inl (cA, 600, .inl (zi_F F))), (a2, .inl (cB, 600, .inl (zi_F P))), (a3, .inl (cC, 600, .inl (zi_F G)))] s.heap.size = A at hD ⊢
  have hA : ∀ q : Nat, s.heap.size ≤ q → A q := fun q h => by rw [← hAe]; exact Or.inr h
  have hS : va_S A s.heap s.heap [] := va_S.rf
  have hP : va_P D vwCl [(x, .inr (5, [.int (zi_n ft), .ref a, .int (zi_n n), .int (zi_n rd), .int (zi_n br), .ref a2, .ref a3, .int (zi_n v), .int (zi_n ln)])), (a, .inl (cA, 600, .inl (zi_F F))), (a2, .inl (cB, 600, .inl (zi_F P))), (a3, .inl (cC, 600, .inl (zi_F G)))] s.heap := hP
  have hl := lv_entry ([.ref x]) (n := 2) (Nat.le_of_ble_eq_true rfl)
  rw [lg_entry_eq]
  generalize (lg_sl ([.ref x]) ++ List.replicate (2 - (lg_sl ([.ref x])).length) Slot.unset).toArray = ls at hl ⊢
  have hl : lv_has ls 2 [(0, .ref x)] := hl
  refine lv_aload_n hx hb dX4_agrees_0 rfl (lv_at hl 0 rfl) ?_
  refine zc_Vi (As := []) (rest := []) (wr := []) (wf := fun (_ : Unit) => [(x, .inr (5, [.int (zi_n 0), .ref a, .int (zi_n n), .int (zi_n rd), .int (zi_n br), .ref a2, .ref a3, .int (zi_n v), .int (zi_n ln)])), (a, .inl (cA, 600, .inl (zi_F F))), (a2, .inl (cB, 600, .inl (zi_F P))), (a3, .inl (cC, 600, .inl (zi_F G)))]) ⟨hx, hb, hml, hown, hts⟩ (c_M_sum l D x a a2 a3 cA cB cC F P G n rd br v ln ft hF (by omega) hP0 hG (by omega) (by omega) (by omega) (by omega) (by omega) _ hR) (cwV 0 hts gX4_agrees_X4_sum rfl rfl rfl (by decide +kernel) ⟨(Nat.le_of_ble_eq_true rfl), (Nat.le_of_ble_eq_true rfl)⟩) hP hD hK hS hA [0, 1, 2, 3] [] [0, 1, 2] [0, 1, 2, 3] rfl rfl (by decide) rfl (by decide) (by decide) rfl (fun _ => rfl) (fun _ => rfl) (by decide) (ci := 5) rfl rfl rfl rfl hl.1 rfl (Nat.le_of_ble_eq_true rfl) dX4_agrees_1 ⟨Nat.zero_le _, Nat.zero_le _⟩ (fun r _ hr1 H locs hP hD hS => ?_)
  have hP : va_P D vwCl [(x, .inr (5, [.int (zi_n 0), .ref a, .int (zi_n n), .int (zi_n rd), .int (zi_n br), .ref a2, .ref a3, .int (zi_n v), .int (zi_n ln)])), (a, .inl (cA, 600, .inl (zi_F F))), (a2, .inl (cB, 600, .inl (zi_F P))), (a3, .inl (cC, 600, .inl (zi_F G)))] H := hP
  have hD : va_D A [(x, .inr (5, [.int (zi_n 0), .ref a, .int (zi_n n), .int (zi_n rd), .int (zi_n br), .ref a2, .ref a3, .int (zi_n v), .int (zi_n ln)])), (a, .inl (cA, 600, .inl (zi_F F))), (a2, .inl (cB, 600, .inl (zi_F P))), (a3, .inl (cC, 600, .inl (zi_F G)))] := hD
  obtain ⟨rfl, b_1⟩ := hr1
  have hq9 : (rd = 0 ∧ zh_qsu P rd ln = -11) ∨ (rd = 1 ∧ 0 ≤ zh_qsu P rd ln) := by unfold zh_qsu; split <;> omega
  refine lv_istore_n (lv' := [(1, .int (zi_n (zh_qsu P rd ln))), (0, .ref x)]) hx hb dX4_agrees_4 rfl hl (by decide) rfl (fun ls hl => ?_)
  refine lv_iload_n hx hb dX4_agrees_5 rfl (lv_at hl 0 rfl) ?_
  refine zr_if_ge (tgt := 13) hx hb dX4_agrees_6 (by decide) (by omega) (fun c_2 => ?_) (fun c_2 => ?_)
  · refine lv_iload_n hx hb dX4_agrees_13 rfl (lv_at hl 0 rfl) ?_
    refine lv_aload_n hx hb dX4_agrees_14 rfl (lv_at hl 1 rfl) ?_
    refine zr_bipush hx hb dX4_agrees_15 (by decide) ?_
    refine zc_V (As := [.int (zi_n 28)]) (rest := [.int (zi_n (zh_qsu P rd ln))]) ⟨hx, hb, hml, hown, hts⟩ (c_M_two_k l D x a a2 a3 cA cB cC F P G n rd br v ln 0 hF (by omega) hP0 hG (by omega) (by omega) (by omega) (by omega) (by omega) 28 28 rfl (by omega)) (cwV 1 hts gX4_agrees_X4_two rfl rfl rfl (by decide +kernel) ⟨(Nat.le_of_ble_eq_true rfl), (Nat.le_of_ble_eq_true rfl)⟩) hP hK [0, 1, 2, 3] [0, 1, 2] rfl rfl (ci := 5) rfl rfl rfl rfl hl.1 rfl (Nat.le_of_ble_eq_true rfl) dX4_agrees_17 ⟨Nat.zero_le _, Nat.zero_le _⟩ (fun r hr1 => ?_)
    obtain ⟨rfl, b_3⟩ := hr1
    refine zr_icmp_ne (tgt := 27) hx hb dX4_agrees_20 (by decide) (by omega) (by omega) (fun c_4 => ?_) (fun c_4 => ?_)
    · refine zr_iconst hx hb dX4_agrees_27 ?_
      have hP9 : va_P D vwCl [(x, .inr (5, [.int (zi_n 0), .ref a, .int (zi_n n), .int (zi_n rd), .int (zi_n br), .ref a2, .ref a3, .int (zi_n v), .int (zi_n ln)])), (a, .inl (cA, 600, .inl (zi_F F))), (a2, .inl (cB, 600, .inl (zi_F P))), (a3, .inl (cC, 600, .inl (zi_F G)))] H := hP
      have hD9 : va_D A [(x, .inr (5, [.int (zi_n 0), .ref a, .int (zi_n n), .int (zi_n rd), .int (zi_n br), .ref a2, .ref a3, .int (zi_n v), .int (zi_n ln)])), (a, .inl (cA, 600, .inl (zi_F F))), (a2, .inl (cB, 600, .inl (zi_F P))), (a3, .inl (cC, 600, .inl (zi_F G)))] := hD
      exact W.iret (v := zi_n 0) hx hb hr (fun t ht hW => ⟨⟨zi_n 0, (), rfl, zl_r (by unfold zh_qag; unfold zh_qsu at *; (repeat' split) <;> simp_all <;> omega) (by omega), by rw [ht]; exact hP9, va_K.moved hW.alike hK, hD9⟩, hS.F ht⟩) hS.2.2 dX4_agrees_28
    · refine zr_iconst hx hb dX4_agrees_23 ?_
      refine lv_goto (tgt := 28) hx hb dX4_agrees_24 (by decide) ?_
      have hP9 : va_P D vwCl [(x, .inr (5, [.int (zi_n 0), .ref a, .int (zi_n n), .int (zi_n rd), .int (zi_n br), .ref a2, .ref a3, .int (zi_n v), .int (zi_n ln)])), (a, .inl (cA, 600, .inl (zi_F F))), (a2, .inl (cB, 600, .inl (zi_F P))), (a3, .inl (cC, 600, .inl (zi_F G)))] H := hP
      have hD9 : va_D A [(x, .inr (5, [.int (zi_n 0), .ref a, .int (zi_n n), .int (zi_n rd), .int (zi_n br), .ref a2, .ref a3, .int (zi_n v), .int (zi_n ln)])), (a, .inl (cA, 600, .inl (zi_F F))), (a2, .inl (cB, 600, .inl (zi_F P))), (a3, .inl (cC, 600, .inl (zi_F G)))] := hD
      exact W.iret (v := zi_n 1) hx hb hr (fun t ht hW => ⟨⟨zi_n 1, (), rfl, zl_r (by unfold zh_qag; unfold zh_qsu at *; (repeat' split) <;> simp_all <;> omega) (by omega), by rw [ht]; exact hP9, va_K.moved hW.alike hK, hD9⟩, hS.F ht⟩) hS.2.2 dX4_agrees_28
  · refine lv_iload_n hx hb dX4_agrees_9 rfl (lv_at hl 0 rfl) ?_
    refine lv_goto (tgt := 28) hx hb dX4_agrees_10 (by decide) ?_
    have hP9 : va_P D vwCl [(x, .inr (5, [.int (zi_n 0), .ref a, .int (zi_n n), .int (zi_n rd), .int (zi_n br), .ref a2, .ref a3, .int (zi_n v), .int (zi_n ln)])), (a, .inl (cA, 600, .inl (zi_F F))), (a2, .inl (cB, 600, .inl (zi_F P))), (a3, .inl (cC, 600, .inl (zi_F G)))] H := hP
    have hD9 : va_D A [(x, .inr (5, [.int (zi_n 0), .ref a, .int (zi_n n), .int (zi_n rd), .int (zi_n br), .ref a2, .ref a3, .int (zi_n v), .int (zi_n ln)])), (a, .inl (cA, 600, .inl (zi_F F))), (a2, .inl (cB, 600, .inl (zi_F P))), (a3, .inl (cC, 600, .inl (zi_F G)))] := hD
    exact W.iret (v := zi_n (zh_qsu P rd ln)) hx hb hr (fun t ht hW => ⟨⟨zi_n (zh_qsu P rd ln), (), rfl, zl_r (by unfold zh_qag; unfold zh_qsu at *; (repeat' split) <;> simp_all <;> omega) (by omega), by rw [ht]; exact hP9, va_K.moved hW.alike hK, hD9⟩, hS.F ht⟩) hS.2.2 dX4_agrees_28

theorem in_X4_isOn_X4 : ∀ w ∈ u_ws RX4 TX4 9, w ∈ wsX4_isOn := by decide +kernel
set_option maxHeartbeats 4000000 in
set_option maxRecDepth 100000 in
theorem c_M_isOn (l : Launch) (D : va_G) (x a a2 a3 : Nat) (cA cB cC : ClassId) (F P G : Nat → Int) (n rd br v ln ft : Int) (hF : zi_By F) (hn : 0 ≤ n ∧ n ≤ 600) (hP0 : zi_By P) (hG : zi_By G) (hrd : rd = 0 ∨ rd = 1) (hbr : 0 ≤ br ∧ br ≤ 15) (hv0 : 0 ≤ v ∧ v ≤ 255) (hln : 0 ≤ ln ∧ ln ≤ 524280) (hft : 0 ≤ ft ∧ ft ≤ 1) (sz : Nat) (p0 : Int) (p1 : Int) (hR : rd = 1 → 64 ≤ n ∧ v = F 0 ∧ ln = zh_len F n ∧ (1 ≤ F 0 ∧ F 0 ≤ 8) ∧ (64 ≤ ln ∧ ln ≤ n) ∧ (64 ≤ zh_t F 14 ∧ zh_t F 14 ≤ ln) ∧ (64 ≤ zh_t F 12 ∧ zh_t F 12 + 480 ≤ zh_t F 14) ∧ (64 ≤ zh_t F 8 ∧ zh_t F 8 + F (zh_t F 8).toNat + 3 < n)) (rp0 : zi_R p0) (rp1 : zi_R p1) : Met l yX4_isOn wsX4_isOn ({ frames := 2, cells := 0, slots := 0, locals := 43 }) (va_Pc [.ref x, .int (zi_n p0), .int (zi_n p1)] (zp_P D vwCl sz [(x, .inr (5, [.int (zi_n ft), .ref a, .int (zi_n n), .int (zi_n rd), .int (zi_n br), .ref a2, .ref a3, .int (zi_n v), .int (zi_n ln)])), (a, .inl (cA, 600, .inl (zi_F F))), (a2, .inl (cB, 600, .inl (zi_F P))), (a3, .inl (cC, 600, .inl (zi_F G)))] [(cA, .int), (cB, .int), (cC, .int)])) (va_Qi (fun (r : Int32) (_ : Unit) => r = zi_n (zh_qon G rd p0 p1) ∧ -12 ≤ (zh_qon G rd p0 p1) ∧ (zh_qon G rd p0 p1) ≤ 1) (fun (_ : Unit) => zp_B D vwCl [(cA, .int), (cB, .int), (cC, .int)] (va_A [(x, .inr (5, [.int (zi_n ft), .ref a, .int (zi_n n), .int (zi_n rd), .int (zi_n br), .ref a2, .ref a3, .int (zi_n v), .int (zi_n ln)])), (a, .inl (cA, 600, .inl (zi_F F))), (a2, .inl (cB, 600, .inl (zi_F P))), (a3, .inl (cC, 600, .inl (zi_F G)))] sz) [(x, .inr (5, [.int (zi_n 0), .ref a, .int (zi_n n), .int (zi_n rd), .int (zi_n br), .ref a2, .ref a3, .int (zi_n v), .int (zi_n ln)])), (a, .inl (cA, 600, .inl (zi_F F))), (a2, .inl (cB, 600, .inl (zi_F P))), (a3, .inl (cC, 600, .inl (zi_F G)))]) (va_A [(x, .inr (5, [.int (zi_n ft), .ref a, .int (zi_n n), .int (zi_n rd), .int (zi_n br), .ref a2, .ref a3, .int (zi_n v), .int (zi_n ln)])), (a, .inl (cA, 600, .inl (zi_F F))), (a2, .inl (cB, 600, .inl (zi_F P))), (a3, .inl (cC, 600, .inl (zi_F G)))] sz)) 0 0 (va_A [(x, .inr (5, [.int (zi_n ft), .ref a, .int (zi_n n), .int (zi_n rd), .int (zi_n br), .ref a2, .ref a3, .int (zi_n v), .int (zi_n ln)])), (a, .inl (cA, 600, .inl (zi_F F))), (a2, .inl (cB, 600, .inl (zi_F P))), (a3, .inl (cC, 600, .inl (zi_F G)))] sz) := by
  refine Met.ofW (cc := cX4_isOn) (maxL := 3) (ret := (some .int)) (by decide) rfl ?_
  intro p e s m args below meth c s₁ B hml hv
  obtain ⟨rfl, hsz, hP, hK, hD0⟩ := hv
  have hx := B.exec
  have hb := B.bytes
  have hr := B.returns
  have hts := atoms_spec (ws := wsX4_isOn) B.pre
  have hown : s.vm.findClass RX4 = some m.cls := findClass_of_methodNamed B.named
  have hlocks := B.notSynchronized
  subst hsz
  have hD := hD0.self (sz := s.heap.size)
  generalize hAe : va_A [(x, .inr (5, [.int (zi_n ft), .ref a, .int (zi_n n), .int (zi_n rd), .int (zi_n br), .ref a2, .ref a3, .int (zi_n v), .int (zi_n ln)])), (a, .inl (cA, 600, .inl (zi_F F))), (a2, .inl (cB, 600, .inl (zi_F P))), (a3, .inl (cC, 600, .inl (zi_F G)))] s.heap.size = A at hD ⊢
  have hA : ∀ q : Nat, s.heap.size ≤ q → A q := fun q h => by rw [← hAe]; exact Or.inr h
  have hS : va_S A s.heap s.heap [] := va_S.rf
  have hP : va_P D vwCl [(x, .inr (5, [.int (zi_n ft), .ref a, .int (zi_n n), .int (zi_n rd), .int (zi_n br), .ref a2, .ref a3, .int (zi_n v), .int (zi_n ln)])), (a, .inl (cA, 600, .inl (zi_F F))), (a2, .inl (cB, 600, .inl (zi_F P))), (a3, .inl (cC, 600, .inl (zi_F G)))] s.heap := hP
  have hl := lv_entry ([.ref x, .int (zi_n p0), .int (zi_n p1)]) (n := 3) (Nat.le_of_ble_eq_true rfl)
  rw [lg_entry_eq]
  generalize (lg_sl ([.ref x, .int (zi_n p0), .int (zi_n p1)]) ++ List.replicate (3 - (lg_sl ([.ref x, .int (zi_n p0), .int (zi_n p1)])).length) Slot.unset).toArray = ls at hl ⊢
  have hl : lv_has ls 3 [(0, .ref x), (1, .int (zi_n p0)), (2, .int (zi_n p1))] := hl
  refine lv_aload_n hx hb dX4_isOn_0 rfl (lv_at hl 0 rfl) ?_
  refine zr_iconst hx hb dX4_isOn_1 ?_
  refine va_put (D := D) (ci := 5) (v := .int (zi_n 0)) (ty := .int) (C := RX4) (T := TX4) (N := 9) hx hb hts in_X4_isOn_X4 tyX4 tyX4_ok nmX4 hown hK hP hD hS 0 rfl rfl 0 (by decide) (hts (.fieldLink RX4 19 "ZHeadsModel" "fault" "I") (by decide +kernel)) (fun _ h9 => h9) rfl (by decide +kernel) rfl rfl (Nat.le_of_ble_eq_true rfl) dX4_isOn_2 (fun H locs hP hD hS => ?_)
  have hP : va_P D vwCl [(x, .inr (5, [.int (zi_n 0), .ref a, .int (zi_n n), .int (zi_n rd), .int (zi_n br), .ref a2, .ref a3, .int (zi_n v), .int (zi_n ln)])), (a, .inl (cA, 600, .inl (zi_F F))), (a2, .inl (cB, 600, .inl (zi_F P))), (a3, .inl (cC, 600, .inl (zi_F G)))] H := hP
  have hD : va_D A [(x, .inr (5, [.int (zi_n 0), .ref a, .int (zi_n n), .int (zi_n rd), .int (zi_n br), .ref a2, .ref a3, .int (zi_n v), .int (zi_n ln)])), (a, .inl (cA, 600, .inl (zi_F F))), (a2, .inl (cB, 600, .inl (zi_F P))), (a3, .inl (cC, 600, .inl (zi_F G)))] := hD
  refine lv_aload_n hx hb dX4_isOn_5 rfl (lv_at hl 0 rfl) ?_
  refine va_get (D := D) (ci := 5) (v := .int (zi_n rd)) (C := RX4) (T := TX4) (N := 9) hx hb hts in_X4_isOn_X4 hown hK hP 0 rfl rfl 3 (by decide) (hts (.fieldLink RX4 36 "ZHeadsModel" "isRead" "Z") (by decide +kernel)) (fun _ h9 => h9) rfl dX4_isOn_6 ?_
  refine zr_if_ne (tgt := 15) hx hb dX4_isOn_9 (by decide) (by omega) (fun c_1 => ?_) (fun c_1 => ?_)
  · have hR1 := hR (by omega)
    refine lv_iload_n hx hb dX4_isOn_15 rfl (lv_at hl 1 rfl) ?_
    refine lv_iload_n hx hb dX4_isOn_16 rfl (lv_at hl 2 rfl) ?_
    refine zc_S (As := [.int (zi_n p0), .int (zi_n p1)]) (rest := []) ⟨hx, hb, hml, hown, hts⟩ (c_M_isFlag l p0 p1 (by omega) (by omega)) (va_cwS 2 hts gX4_isOn_X4_isFlag rfl rfl rfl (by decide +kernel) ⟨(Nat.le_of_ble_eq_true rfl), (Nat.le_of_ble_eq_true rfl)⟩) rfl hl.1 rfl (Nat.le_of_ble_eq_true rfl) dX4_isOn_17 ⟨Nat.zero_le _, Nat.zero_le _⟩ (fun r hr1 => ?_)
    rcases hr1 with ⟨rfl, c_2⟩ | ⟨rfl, c_2⟩
    · unfold zh_isF at c_2
      refine zr_if_eq (tgt := 43) hx hb dX4_isOn_20 (by decide) (by omega) (fun c => absurd c (by decide)) (fun c_3 => ?_)
      refine lv_aload_n hx hb dX4_isOn_23 rfl (lv_at hl 0 rfl) ?_
      refine va_get (D := D) (ci := 5) (v := .ref a3) (C := RX4) (T := TX4) (N := 9) hx hb hts in_X4_isOn_X4 hown hK hP 0 rfl rfl 6 (by decide) (hts (.fieldLink RX4 16 "ZHeadsModel" "memory" "[I") (by decide +kernel)) (fun _ h9 => h9) rfl dX4_isOn_24 ?_
      refine lv_iload_n hx hb dX4_isOn_27 rfl (lv_at hl 1 rfl) ?_
      refine lv_iload_n hx hb dX4_isOn_28 rfl (lv_at hl 2 rfl) ?_
      refine zc_S (As := [.int (zi_n p0), .int (zi_n p1)]) (rest := [.ref a3]) ⟨hx, hb, hml, hown, hts⟩ (c_M_placeOf l p0 p1 (by omega) (by omega)) (va_cwS 2 hts gX4_isOn_X4_placeOf rfl rfl rfl (by decide +kernel) ⟨(Nat.le_of_ble_eq_true rfl), (Nat.le_of_ble_eq_true rfl)⟩) rfl hl.1 rfl (Nat.le_of_ble_eq_true rfl) dX4_isOn_29 ⟨Nat.zero_le _, Nat.zero_le _⟩ (fun r hr1 => ?_)
      obtain ⟨rfl, b_4⟩ := hr1
      refine zr_iald hx hb hK hP 3 2 rfl rfl (by decide) (by omega) dX4_isOn_32 ?_
      have b_5 := hG (zh_mp p0 p1).toNat
      refine lv_iload_n hx hb dX4_isOn_33 rfl (lv_at hl 2 rfl) ?_
      refine zr_bipush hx hb dX4_isOn_34 (by decide) ?_
      refine zr_irem hx hb dX4_isOn_36 (by omega) (by omega) (by omega) (by omega) ?_
      refine zr_ishr hx hb dX4_isOn_37 (by omega) (by omega) ?_
      have b_6 := zh_sr_b (a := G (zh_mp p0 p1).toNat) (k := p1 % 8) (by omega)
      refine zr_iconst hx hb dX4_isOn_38 ?_
      refine zr_iand1 hx hb dX4_isOn_39 (by omega) ?_
      refine lv_goto (tgt := 45) hx hb dX4_isOn_40 (by decide) ?_
      have hP9 : va_P D vwCl [(x, .inr (5, [.int (zi_n 0), .ref a, .int (zi_n n), .int (zi_n rd), .int (zi_n br), .ref a2, .ref a3, .int (zi_n v), .int (zi_n ln)])), (a, .inl (cA, 600, .inl (zi_F F))), (a2, .inl (cB, 600, .inl (zi_F P))), (a3, .inl (cC, 600, .inl (zi_F G)))] H := hP
      have hD9 : va_D A [(x, .inr (5, [.int (zi_n 0), .ref a, .int (zi_n n), .int (zi_n rd), .int (zi_n br), .ref a2, .ref a3, .int (zi_n v), .int (zi_n ln)])), (a, .inl (cA, 600, .inl (zi_F F))), (a2, .inl (cB, 600, .inl (zi_F P))), (a3, .inl (cC, 600, .inl (zi_F G)))] := hD
      exact W.iret (v := zi_n ((zh_sr (G (zh_mp p0 p1).toNat) (p1 % 8)) % 2)) hx hb hr (fun t ht hW => ⟨⟨zi_n ((zh_sr (G (zh_mp p0 p1).toNat) (p1 % 8)) % 2), (), rfl, zl_r (by unfold zh_qon; first | (rw [if_pos (by omega)]; done) | (rw [if_neg (by omega), zh_if_f (by unfold zh_isF; omega)]; done) | (rw [if_neg (by omega), zh_if_t (by unfold zh_isF; omega)])) (by omega), by rw [ht]; exact hP9, va_K.moved hW.alike hK, hD9⟩, hS.F ht⟩) hS.2.2 dX4_isOn_45
    · unfold zh_isF at c_2
      refine zr_if_eq (tgt := 43) hx hb dX4_isOn_20 (by decide) (by omega) (fun c_8 => ?_) (fun c => absurd c (by decide))
      refine zr_bipush hx hb dX4_isOn_43 (by decide) ?_
      have hP9 : va_P D vwCl [(x, .inr (5, [.int (zi_n 0), .ref a, .int (zi_n n), .int (zi_n rd), .int (zi_n br), .ref a2, .ref a3, .int (zi_n v), .int (zi_n ln)])), (a, .inl (cA, 600, .inl (zi_F F))), (a2, .inl (cB, 600, .inl (zi_F P))), (a3, .inl (cC, 600, .inl (zi_F G)))] H := hP
      have hD9 : va_D A [(x, .inr (5, [.int (zi_n 0), .ref a, .int (zi_n n), .int (zi_n rd), .int (zi_n br), .ref a2, .ref a3, .int (zi_n v), .int (zi_n ln)])), (a, .inl (cA, 600, .inl (zi_F F))), (a2, .inl (cB, 600, .inl (zi_F P))), (a3, .inl (cC, 600, .inl (zi_F G)))] := hD
      exact W.iret (v := zi_n (-12)) hx hb hr (fun t ht hW => ⟨⟨zi_n (-12), (), rfl, zl_r (by unfold zh_qon; first | (rw [if_pos (by omega)]; done) | (rw [if_neg (by omega), zh_if_f (by unfold zh_isF; omega)]; done) | (rw [if_neg (by omega), zh_if_t (by unfold zh_isF; omega)])) (by omega), by rw [ht]; exact hP9, va_K.moved hW.alike hK, hD9⟩, hS.F ht⟩) hS.2.2 dX4_isOn_45
  · refine zr_bipush hx hb dX4_isOn_12 (by decide) ?_
    have hP9 : va_P D vwCl [(x, .inr (5, [.int (zi_n 0), .ref a, .int (zi_n n), .int (zi_n rd), .int (zi_n br), .ref a2, .ref a3, .int (zi_n v), .int (zi_n ln)])), (a, .inl (cA, 600, .inl (zi_F F))), (a2, .inl (cB, 600, .inl (zi_F P))), (a3, .inl (cC, 600, .inl (zi_F G)))] H := hP
    have hD9 : va_D A [(x, .inr (5, [.int (zi_n 0), .ref a, .int (zi_n n), .int (zi_n rd), .int (zi_n br), .ref a2, .ref a3, .int (zi_n v), .int (zi_n ln)])), (a, .inl (cA, 600, .inl (zi_F F))), (a2, .inl (cB, 600, .inl (zi_F P))), (a3, .inl (cC, 600, .inl (zi_F G)))] := hD
    exact W.iret (v := zi_n (-11)) hx hb hr (fun t ht hW => ⟨⟨zi_n (-11), (), rfl, zl_r (by unfold zh_qon; first | (rw [if_pos (by omega)]; done) | (rw [if_neg (by omega), zh_if_f (by unfold zh_isF; omega)]; done) | (rw [if_neg (by omega), zh_if_t (by unfold zh_isF; omega)])) (by omega), by rw [ht]; exact hP9, va_K.moved hW.alike hK, hD9⟩, hS.F ht⟩) hS.2.2 dX4_isOn_14

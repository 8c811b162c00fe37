theorem in_X2_copy_X2 : ∀ w ∈ u_ws RX2 TX2 2, w ∈ wsX2_copy := by decide +kernel
set_option maxHeartbeats 4000000 in
set_option maxRecDepth 100000 in
theorem c_Row_copy (l : Launch) (D : va_G) (q2 q a2 a : Nat) (cB cA : ClassId) (G F : Nat → Int) (k n : Int) (hG : zi_By G) (hk : 0 ≤ k ∧ k ≤ 600) (hF : zi_By F) (hn : 0 ≤ n ∧ n ≤ 600) (sz : Nat) : Met l yX2_copy wsX2_copy ({ frames := 1, cells := 0, slots := 0, locals := 60 }) (va_Pc [.ref q2, .ref q] (zp_P D vwCl sz [(q2, .inr (3, [.ref a2, .int (zi_n k)])), (q, .inr (3, [.ref a, .int (zi_n n)])), (a2, .inl (cB, 600, .inl (zi_F G))), (a, .inl (cA, 600, .inl (zi_F F)))] [(cB, .int), (cA, .int)])) (va_Qv (fun (_ : Unit) => True) (fun (_ : Unit) => zp_B D vwCl [(cB, .int), (cA, .int)] (va_A [(q2, .inr (3, [.ref a2, .int (zi_n k)])), (q, .inr (3, [.ref a, .int (zi_n n)])), (a2, .inl (cB, 600, .inl (zi_F G))), (a, .inl (cA, 600, .inl (zi_F F)))] sz) [(q2, .inr (3, [.ref a2, .int (zi_n n)])), (q, .inr (3, [.ref a, .int (zi_n n)])), (a2, .inl (cB, 600, .inl (zi_F (zh_cp F G)))), (a, .inl (cA, 600, .inl (zi_F F)))]) (va_A [(q2, .inr (3, [.ref a2, .int (zi_n k)])), (q, .inr (3, [.ref a, .int (zi_n n)])), (a2, .inl (cB, 600, .inl (zi_F G))), (a, .inl (cA, 600, .inl (zi_F F)))] sz)) 0 0 (va_A [(q2, .inr (3, [.ref a2, .int (zi_n k)])), (q, .inr (3, [.ref a, .int (zi_n n)])), (a2, .inl (cB, 600, .inl (zi_F G))), (a, .inl (cA, 600, .inl (zi_F F)))] sz) := by
  refine Met.ofW (cc := cX2_copy) (maxL := 2) (ret := none) (by decide) rfl ?_
  intro p e s m args below meth c s₁ B hml hv
  obtain ⟨rfl, hsz, hP, hK, hD0⟩ := hv
  have hx := B.exec
  have hb := B.bytes
  have hr := B.returns
  have hts := atoms_spec (ws := wsX2_copy) B.pre
  have hown : s.vm.findClass RX2 = some m.cls := findClass_of_methodNamed B.named
  have hlocks := B.notSynchronized
  subst hsz
  have hD := hD0.self (sz := s.heap.size)
  generalize hAe : va_A [(q2, .inr (3, [.ref a2, .int (zi_n k)])), (q, .inr (3, [.ref a, .int (zi_n n)])), (a2, .inl (cB, 600, .inl (zi_F G))), (a, .inl (cA, 600, .inl (zi_F F)))] s.heap.size = A at hD ⊢
  have hA : ∀ q : Nat, s.heap.size ≤ q → A q := fun q h => by rw [← hAe]; exact Or.inr h
  have hS : va_S A s.heap s.heap [] := va_S.rf
  have hP : va_P D vwCl [(q2, .inr (3, [.ref a2, .int (zi_n k)])), (q, .inr (3, [.ref a, .int (zi_n n)])), (a2, .inl (cB, 600, .inl (zi_F G))), (a, .inl (cA, 600, .inl (zi_F F)))] s.heap := hP
  have hl := lv_entry ([.ref q2, .ref q]) (n := 2) (Nat.le_of_ble_eq_true rfl)
  rw [lg_entry_eq]
  generalize (lg_sl ([.ref q2, .ref q]) ++ List.replicate (2 - (lg_sl ([.ref q2, .ref q])).length) Slot.unset).toArray = ls at hl ⊢
  have hl : lv_has ls 2 [(0, .ref q2), (1, .ref q)] := hl
  refine lv_aload_n hx hb dX2_copy_0 rfl (lv_at hl 1 rfl) ?_
  refine lv_ifnull hx hb dX2_copy_1 ?_
  refine lv_aload_n hx hb dX2_copy_4 rfl (lv_at hl 1 rfl) ?_
  refine va_get (D := D) (ci := 3) (v := .ref a) (C := RX2) (T := TX2) (N := 2) hx hb hts in_X2_copy_X2 hown hK hP 1 rfl rfl 0 (by decide) (hts (.fieldLink RX2 9 "ZHeads$Row" "cells" "[I") (by decide +kernel)) (fun _ h9 => h9) rfl dX2_copy_5 ?_
  refine zr_iconst hx hb dX2_copy_8 ?_
  refine lv_aload_n hx hb dX2_copy_9 rfl (lv_at hl 0 rfl) ?_
  refine va_get (D := D) (ci := 3) (v := .ref a2) (C := RX2) (T := TX2) (N := 2) hx hb hts in_X2_copy_X2 hown hK hP 0 rfl rfl 0 (by decide) (hts (.fieldLink RX2 9 "ZHeads$Row" "cells" "[I") (by decide +kernel)) (fun _ h9 => h9) rfl dX2_copy_10 ?_
  refine zr_iconst hx hb dX2_copy_13 ?_
  refine zr_sipush hx hb dX2_copy_14 (by decide) ?_
  refine zr_copy hx hb (by rw [hml]; exact hl.1.symm) hown (hts (.methodLink RX2 27 arraycopyName) (by decide +kernel)) (hts (.native arraycopyName) (by decide +kernel)) (hts (.static arraycopyName) (by decide +kernel)) (hts (.initialized "java/lang/System") (by decide +kernel)) hK hP hD hS 3 2 1 0 rfl rfl rfl rfl (Nat.le_of_ble_eq_true rfl) (Nat.le_of_ble_eq_true rfl) dX2_copy_17 (fun H locs hP hD hS => ?_)
  have hF_1 : zi_By (zh_cp F G) := zh_cp_By hF hG
  have hP : va_P D vwCl [(q2, .inr (3, [.ref a2, .int (zi_n k)])), (q, .inr (3, [.ref a, .int (zi_n n)])), (a2, .inl (cB, 600, .inl (zi_F (zh_cp F G)))), (a, .inl (cA, 600, .inl (zi_F F)))] H := hP
  have hD : va_D A [(q2, .inr (3, [.ref a2, .int (zi_n k)])), (q, .inr (3, [.ref a, .int (zi_n n)])), (a2, .inl (cB, 600, .inl (zi_F (zh_cp F G)))), (a, .inl (cA, 600, .inl (zi_F F)))] := hD
  refine lv_aload_n hx hb dX2_copy_20 rfl (lv_at hl 0 rfl) ?_
  refine lv_aload_n hx hb dX2_copy_21 rfl (lv_at hl 1 rfl) ?_
  refine va_get (D := D) (ci := 3) (v := .int (zi_n n)) (C := RX2) (T := TX2) (N := 2) hx hb hts in_X2_copy_X2 hown hK hP 1 rfl rfl 1 (by decide) (hts (.fieldLink RX2 15 "ZHeads$Row" "count" "I") (by decide +kernel)) (fun _ h9 => h9) rfl dX2_copy_22 ?_
  refine va_put (D := D) (ci := 3) (v := .int (zi_n n)) (ty := .int) (C := RX2) (T := TX2) (N := 2) hx hb hts in_X2_copy_X2 tyX2 tyX2_ok nmX2 hown hK hP hD hS 0 rfl rfl 1 (by decide) (hts (.fieldLink RX2 15 "ZHeads$Row" "count" "I") (by decide +kernel)) (fun _ h9 => h9) rfl (by decide +kernel) rfl rfl (Nat.le_of_ble_eq_true rfl) dX2_copy_25 (fun H locs hP hD hS => ?_)
  have hP : va_P D vwCl [(q2, .inr (3, [.ref a2, .int (zi_n n)])), (q, .inr (3, [.ref a, .int (zi_n n)])), (a2, .inl (cB, 600, .inl (zi_F (zh_cp F G)))), (a, .inl (cA, 600, .inl (zi_F F)))] H := hP
  have hD : va_D A [(q2, .inr (3, [.ref a2, .int (zi_n n)])), (q, .inr (3, [.ref a, .int (zi_n n)])), (a2, .inl (cB, 600, .inl (zi_F (zh_cp F G)))), (a, .inl (cA, 600, .inl (zi_F F)))] := hD
  have hP9 : va_P D vwCl [(q2, .inr (3, [.ref a2, .int (zi_n n)])), (q, .inr (3, [.ref a, .int (zi_n n)])), (a2, .inl (cB, 600, .inl (zi_F (zh_cp F G)))), (a, .inl (cA, 600, .inl (zi_F F)))] H := hP
  have hD9 : va_D A [(q2, .inr (3, [.ref a2, .int (zi_n n)])), (q, .inr (3, [.ref a, .int (zi_n n)])), (a2, .inl (cB, 600, .inl (zi_F (zh_cp F G)))), (a, .inl (cA, 600, .inl (zi_F F)))] := hD
  exact W.vret hx hb hr (fun t ht hW => ⟨⟨(), rfl, trivial, by rw [ht]; exact hP9, va_K.moved hW.alike hK, hD9⟩, hS.F ht⟩) hS.2.2 dX2_copy_28

theorem in_X3_restart_X3 : ∀ w ∈ u_ws RX3 TX3 5, w ∈ wsX3_restart := by decide +kernel
set_option maxHeartbeats 4000000 in
set_option maxRecDepth 100000 in
theorem c_Z_restart (l : Launch) (D : va_G) (x q q2 hh a a2 : Nat) (cA cB : ClassId) (F G : Nat → Int) (n k rd br : Int) (hF : zi_By F) (hn : 0 ≤ n ∧ n ≤ 600) (hG : zi_By G) (hk : 0 ≤ k ∧ k ≤ 600) (hrd : rd = 0 ∨ rd = 1) (hbr : 0 ≤ br ∧ br ≤ 15) (sz : Nat) (hR : rd = 1 → (64 ≤ n ∧ k = n) ∧ (1 ≤ F 0 ∧ F 0 ≤ 8) ∧ (64 ≤ zh_len F n ∧ zh_len F n ≤ n) ∧ (64 ≤ zh_t F 14 ∧ zh_t F 14 ≤ zh_len F n) ∧ (64 ≤ zh_t F 12 ∧ zh_t F 12 + 480 ≤ zh_t F 14) ∧ (64 ≤ zh_t F 8 ∧ 0 ≤ zh_sg F n ∧ 4 ≤ zh_eb F n)) : Met l yX3_restart wsX3_restart ({ frames := 2, cells := 0, slots := 0, locals := 43 }) (va_Pc [.ref x] (zp_P D vwCl sz [(x, .inr (4, [.ref q, .ref q2, .ref hh, .int (zi_n rd), .int (zi_n br)])), (q, .inr (3, [.ref a, .int (zi_n n)])), (q2, .inr (3, [.ref a2, .int (zi_n k)])), (hh, .inr (2, [.ref q])), (a, .inl (cA, 600, .inl (zi_F F))), (a2, .inl (cB, 600, .inl (zi_F G)))] [(cA, .int), (cB, .int)])) (va_Qi (fun (r : Int32) (_ : Unit) => r = zi_n (zh_reE F G rd) ∧ -11 ≤ (zh_reE F G rd) ∧ (zh_reE F G rd) ≤ 600) (fun (_ : Unit) => zp_B D vwCl [(cA, .int), (cB, .int)] (va_A [(x, .inr (4, [.ref q, .ref q2, .ref hh, .int (zi_n rd), .int (zi_n br)])), (q, .inr (3, [.ref a, .int (zi_n n)])), (q2, .inr (3, [.ref a2, .int (zi_n k)])), (hh, .inr (2, [.ref q])), (a, .inl (cA, 600, .inl (zi_F F))), (a2, .inl (cB, 600, .inl (zi_F G)))] sz) [(x, .inr (4, [.ref q, .ref q2, .ref hh, .int (zi_n rd), .int (zi_n br)])), (q, .inr (3, [.ref a, .int (zi_n n)])), (q2, .inr (3, [.ref a2, .int (zi_n k)])), (hh, .inr (2, [.ref q])), (a, .inl (cA, 600, .inl (zi_F F))), (a2, .inl (cB, 600, .inl (zi_F (zh_reG F G rd))))]) (va_A [(x, .inr (4, [.ref q, .ref q2, .ref hh, .int (zi_n rd), .int (zi_n br)])), (q, .inr (3, [.ref a, .int (zi_n n)])), (q2, .inr (3, [.ref a2, .int (zi_n k)])), (hh, .inr (2, [.ref q])), (a, .inl (cA, 600, .inl (zi_F F))), (a2, .inl (cB, 600, .inl (zi_F G)))] sz)) 0 0 (va_A [(x, .inr (4, [.ref q, .ref q2, .ref hh, .int (zi_n rd), .int (zi_n br)])), (q, .inr (3, [.ref a, .int (zi_n n)])), (q2, .inr (3, [.ref a2, .int (zi_n k)])), (hh, .inr (2, [.ref q])), (a, .inl (cA, 600, .inl (zi_F F))), (a2, .inl (cB, 600, .inl (zi_F G)))] sz) := by
  refine Met.ofW (cc := cX3_restart) (maxL := 4) (ret := (some .int)) (by decide) rfl ?_
  intro p e s m args below meth c s₁ B hml hv
  obtain ⟨rfl, hsz, hP, hK, hD0⟩ := hv
  have hx := B.exec
  have hb := B.bytes
  have hr := B.returns
  have hts := atoms_spec (ws := wsX3_restart) B.pre
  have hown : s.vm.findClass RX3 = some m.cls := findClass_of_methodNamed B.named
  have hlocks := B.notSynchronized
  subst hsz
  have hD := hD0.self (sz := s.heap.size)
  generalize hAe : va_A [(x, .inr (4, [.ref q, .ref q2, .ref hh, .int (zi_n rd), .int (zi_n br)])), (q, .inr (3, [.ref a, .int (zi_n n)])), (q2, .inr (3, [.ref a2, .int (zi_n k)])), (hh, .inr (2, [.ref q])), (a, .inl (cA, 600, .inl (zi_F F))), (a2, .inl (cB, 600, .inl (zi_F G)))] s.heap.size = A at hD ⊢
  have hA : ∀ q : Nat, s.heap.size ≤ q → A q := fun q h => by rw [← hAe]; exact Or.inr h
  have hS : va_S A s.heap s.heap [] := va_S.rf
  have hP : va_P D vwCl [(x, .inr (4, [.ref q, .ref q2, .ref hh, .int (zi_n rd), .int (zi_n br)])), (q, .inr (3, [.ref a, .int (zi_n n)])), (q2, .inr (3, [.ref a2, .int (zi_n k)])), (hh, .inr (2, [.ref q])), (a, .inl (cA, 600, .inl (zi_F F))), (a2, .inl (cB, 600, .inl (zi_F G)))] s.heap := hP
  have hl := lv_entry ([.ref x]) (n := 4) (Nat.le_of_ble_eq_true rfl)
  rw [lg_entry_eq]
  generalize (lg_sl ([.ref x]) ++ List.replicate (4 - (lg_sl ([.ref x])).length) Slot.unset).toArray = ls at hl ⊢
  have hl : lv_has ls 4 [(0, .ref x)] := hl
  refine lv_aload_n hx hb dX3_restart_0 rfl (lv_at hl 0 rfl) ?_
  refine va_get (D := D) (ci := 4) (v := .int (zi_n rd)) (C := RX3) (T := TX3) (N := 5) hx hb hts in_X3_restart_X3 hown hK hP 0 rfl rfl 3 (by decide) (hts (.fieldLink RX3 28 "ZHeads" "isRead" "Z") (by decide +kernel)) (fun _ h9 => h9) rfl dX3_restart_1 ?_
  refine zr_if_ne (tgt := 10) hx hb dX3_restart_4 (by decide) (by omega) (fun c_1 => ?_) (fun c_1 => ?_)
  · have hR1 := hR (by omega)
    refine zr_iconst hx hb dX3_restart_10 ?_
    refine lv_istore_n (lv' := [(1, .int (zi_n 0)), (0, .ref x)]) hx hb dX3_restart_11 rfl hl (by decide) rfl (fun ls hl => ?_)
    refine lv_aload_n hx hb dX3_restart_12 rfl (lv_at hl 1 rfl) ?_
    refine va_get (D := D) (ci := 4) (v := .ref hh) (C := RX3) (T := TX3) (N := 5) hx hb hts in_X3_restart_X3 hown hK hP 0 rfl rfl 2 (by decide) (hts (.fieldLink RX3 24 "ZHeads" "head" "LZHeads$Head;") (by decide +kernel)) (fun _ h9 => h9) rfl dX3_restart_13 ?_
    refine zc_V (As := []) (rest := []) ⟨hx, hb, hml, hown, hts⟩ (c_Hd_staticFrom l D hh q a cA F n hF (by omega) (by omega)) (cwV 0 hts gX3_restart_X0_staticFrom rfl rfl rfl (by decide +kernel) ⟨(Nat.le_of_ble_eq_true rfl), (Nat.le_of_ble_eq_true rfl)⟩) hP hK [3, 1, 4] [0] rfl rfl (ci := 2) rfl rfl rfl rfl hl.1 rfl (Nat.le_of_ble_eq_true rfl) dX3_restart_16 ⟨Nat.zero_le _, Nat.zero_le _⟩ (fun r hr1 => ?_)
    obtain ⟨rfl, b_2⟩ := hr1
    refine lv_istore_n (lv' := [(2, .int (zi_n (zh_t F 14))), (1, .int (zi_n 0)), (0, .ref x)]) hx hb dX3_restart_19 rfl hl (by decide) rfl (fun ls hl => ?_)
    refine zr_bipush hx hb dX3_restart_20 (by decide) ?_
    refine lv_istore_n (lv' := [(3, .int (zi_n 64)), (2, .int (zi_n (zh_t F 14))), (1, .int (zi_n 0)), (0, .ref x)]) hx hb dX3_restart_22 rfl hl (by decide) rfl (fun ls hl => ?_)
    have key : ∀ (N : Nat) (i : Int), (64 ≤ i) → (i ≤ zh_t F 14) → 600 - i < N → ∀ (H : Heap) (locs : List Loc), va_P D vwCl [(x, .inr (4, [.ref q, .ref q2, .ref hh, .int (zi_n rd), .int (zi_n br)])), (q, .inr (3, [.ref a, .int (zi_n n)])), (q2, .inr (3, [.ref a2, .int (zi_n k)])), (hh, .inr (2, [.ref q])), (a, .inl (cA, 600, .inl (zi_F F))), (a2, .inl (cB, 600, .inl (zi_F (zh_rs F G i))))] H → va_D A [(x, .inr (4, [.ref q, .ref q2, .ref hh, .int (zi_n rd), .int (zi_n br)])), (q, .inr (3, [.ref a, .int (zi_n n)])), (q2, .inr (3, [.ref a2, .int (zi_n k)])), (hh, .inr (2, [.ref q])), (a, .inl (cA, 600, .inl (zi_F F))), (a2, .inl (cB, 600, .inl (zi_F (zh_rs F G i))))] → va_S A s.heap H locs → ∀ ls : Array Slot, lv_has ls 4 [(3, .int (zi_n i)), (2, .int (zi_n (zh_t F 14))), (1, .int (zi_n (zh_dc F G (i - 64).toNat))), (0, .ref x)] → W p l e (headSpec wsX3_restart ({ frames := 2, cells := 0, slots := 0, locals := 43 })).room s m ([.ref x] : List Value).toArray below meth c H locs 0 0 (MQ below (va_Qi (fun (r : Int32) (_ : Unit) => r = zi_n (zh_reE F G rd) ∧ -11 ≤ (zh_reE F G rd) ∧ (zh_reE F G rd) ≤ 600) (fun (_ : Unit) => zp_B D vwCl [(cA, .int), (cB, .int)] A [(x, .inr (4, [.ref q, .ref q2, .ref hh, .int (zi_n rd), .int (zi_n br)])), (q, .inr (3, [.ref a, .int (zi_n n)])), (q2, .inr (3, [.ref a2, .int (zi_n k)])), (hh, .inr (2, [.ref q])), (a, .inl (cA, 600, .inl (zi_F F))), (a2, .inl (cB, 600, .inl (zi_F (zh_reG F G rd))))]) A) ([.ref x] : List Value).toArray s 0 0 A) (F0 m 23 ls []) := by
      intro N
      induction N with
      | zero => intro i  h1 h2 hm H locs hP hD hS ls hl; exfalso; omega
      | succ N ih =>
        intro i  h1 h2 hm H locs hP hD hS ls hl
        have hGi : zi_By (zh_rs F G i) := zh_rs_By hF hG i
        have hdc := zh_dc_b F G (i - 64).toNat
        refine lv_iload_n hx hb dX3_restart_23 rfl (lv_at hl 0 rfl) ?_
        refine lv_iload_n hx hb dX3_restart_24 rfl (lv_at hl 1 rfl) ?_
        refine zr_icmp_ge (tgt := 72) hx hb dX3_restart_25 (by decide) (by omega) (by omega) (fun c_3 => ?_) (fun c_3 => ?_)
        · refine lv_iload_n hx hb dX3_restart_72 rfl (lv_at hl 2 rfl) ?_
          have e_n_4_0 : zh_reG F G rd = zh_rs F G i := by unfold zh_reG; first | (rw [if_pos (by omega)]; done) | (rw [if_neg (by omega), show zh_t F 14 = i by omega])
          have hP9 : va_P D vwCl [(x, .inr (4, [.ref q, .ref q2, .ref hh, .int (zi_n rd), .int (zi_n br)])), (q, .inr (3, [.ref a, .int (zi_n n)])), (q2, .inr (3, [.ref a2, .int (zi_n k)])), (hh, .inr (2, [.ref q])), (a, .inl (cA, 600, .inl (zi_F F))), (a2, .inl (cB, 600, .inl (zi_F (zh_reG F G rd))))] H := by rw [e_n_4_0]; exact hP
          have hD9 : va_D A [(x, .inr (4, [.ref q, .ref q2, .ref hh, .int (zi_n rd), .int (zi_n br)])), (q, .inr (3, [.ref a, .int (zi_n n)])), (q2, .inr (3, [.ref a2, .int (zi_n k)])), (hh, .inr (2, [.ref q])), (a, .inl (cA, 600, .inl (zi_F F))), (a2, .inl (cB, 600, .inl (zi_F (zh_reG F G rd))))] := by rw [e_n_4_0]; exact hD
          exact W.iret (v := zi_n (zh_dc F G (i - 64).toNat)) hx hb hr (fun t ht hW => ⟨⟨zi_n (zh_dc F G (i - 64).toNat), (), rfl, zl_r (by unfold zh_reE; first | (rw [if_pos (by omega)]; done) | (rw [if_neg (by omega), show zh_t F 14 = i by omega])) (by omega), by rw [ht]; exact hP9, va_K.moved hW.alike hK, hD9⟩, hS.F ht⟩) hS.2.2 dX3_restart_73
        · have g1 : zh_at (zh_rs F G i) k i = G i.toNat := by rw [zh_at_in (by omega), zh_rs_at (by omega)]
          have g2 : zh_at F n i = F i.toNat := zh_at_in (by omega)
          refine lv_aload_n hx hb dX3_restart_28 rfl (lv_at hl 3 rfl) ?_
          refine va_get (D := D) (ci := 4) (v := .ref q2) (C := RX3) (T := TX3) (N := 5) hx hb hts in_X3_restart_X3 hown hK hP 0 rfl rfl 1 (by decide) (hts (.fieldLink RX3 16 "ZHeads" "memory" "LZHeads$Row;") (by decide +kernel)) (fun _ h9 => h9) rfl dX3_restart_29 ?_
          refine lv_iload_n hx hb dX3_restart_32 rfl (lv_at hl 0 rfl) ?_
          refine zc_V (As := [.int (zi_n i)]) (rest := []) ⟨hx, hb, hml, hown, hts⟩ (c_Row_at l D q2 a2 cB (zh_rs F G i) k hGi (by omega) i (by omega)) (cwV 1 hts gX3_restart_X2_at rfl rfl rfl (by decide +kernel) ⟨(Nat.le_of_ble_eq_true rfl), (Nat.le_of_ble_eq_true rfl)⟩) hP hK [2, 5] [1] rfl rfl (ci := 3) rfl rfl rfl rfl hl.1 rfl (Nat.le_of_ble_eq_true rfl) dX3_restart_33 ⟨Nat.zero_le _, Nat.zero_le _⟩ (fun r hr1 => ?_)
          obtain ⟨rfl, b_5⟩ := hr1
          refine lv_aload_n hx hb dX3_restart_36 rfl (lv_at hl 3 rfl) ?_
          refine va_get (D := D) (ci := 4) (v := .ref q) (C := RX3) (T := TX3) (N := 5) hx hb hts in_X3_restart_X3 hown hK hP 0 rfl rfl 0 (by decide) (hts (.fieldLink RX3 10 "ZHeads" "file" "LZHeads$Row;") (by decide +kernel)) (fun _ h9 => h9) rfl dX3_restart_37 ?_
          refine lv_iload_n hx hb dX3_restart_40 rfl (lv_at hl 0 rfl) ?_
          refine zc_V (As := [.int (zi_n i)]) (rest := [.int (zi_n (zh_at (zh_rs F G i) k i))]) ⟨hx, hb, hml, hown, hts⟩ (c_Row_at l D q a cA F n hF (by omega) i (by omega)) (cwV 1 hts gX3_restart_X2_at rfl rfl rfl (by decide +kernel) ⟨(Nat.le_of_ble_eq_true rfl), (Nat.le_of_ble_eq_true rfl)⟩) hP hK [1, 4] [0] rfl rfl (ci := 3) rfl rfl rfl rfl hl.1 rfl (Nat.le_of_ble_eq_true rfl) dX3_restart_41 ⟨Nat.zero_le _, Nat.zero_le _⟩ (fun r hr1 => ?_)
          obtain ⟨rfl, b_6⟩ := hr1
          refine zr_icmp_eq (tgt := 66) hx hb dX3_restart_44 (by decide) (by omega) (by omega) (fun c_7 => ?_) (fun c_7 => ?_)
          · refine zr_iinc (lv' := [(3, .int (zi_n (i + 1))), (2, .int (zi_n (zh_t F 14))), (1, .int (zi_n (zh_dc F G (i - 64).toNat))), (0, .ref x)]) hx hb dX3_restart_66 hl (k := 0) rfl (by decide) rfl (fun ls hl => ?_)
            refine lv_goto (tgt := 23) hx hb dX3_restart_69 (by decide) ?_
            have e1 : zh_rs F G i = zh_rs F G (i + 1) := by exact zh_rs_e (by omega) (by omega)
            have e2 : zh_dc F G (i - 64).toNat = zh_dc F G (i + 1 - 64).toNat := by exact zh_dc_e (by omega) (by omega)
            rw [e1] at hP hD; rw [e2] at hl
            exact ih (i + 1) (by omega) (by omega) (by omega) H locs hP hD hS _ (lv_sub hl [0, 1, 2, 3] rfl)
          · refine zr_iinc (lv' := [(1, .int (zi_n ((zh_dc F G (i - 64).toNat) + 1))), (3, .int (zi_n i)), (2, .int (zi_n (zh_t F 14))), (0, .ref x)]) hx hb dX3_restart_47 hl (k := 2) rfl (by decide) rfl (fun ls hl => ?_)
            refine lv_aload_n hx hb dX3_restart_50 rfl (lv_at hl 3 rfl) ?_
            refine va_get (D := D) (ci := 4) (v := .ref q2) (C := RX3) (T := TX3) (N := 5) hx hb hts in_X3_restart_X3 hown hK hP 0 rfl rfl 1 (by decide) (hts (.fieldLink RX3 16 "ZHeads" "memory" "LZHeads$Row;") (by decide +kernel)) (fun _ h9 => h9) rfl dX3_restart_51 ?_
            refine lv_iload_n hx hb dX3_restart_54 rfl (lv_at hl 1 rfl) ?_
            refine lv_aload_n hx hb dX3_restart_55 rfl (lv_at hl 3 rfl) ?_
            refine va_get (D := D) (ci := 4) (v := .ref q) (C := RX3) (T := TX3) (N := 5) hx hb hts in_X3_restart_X3 hown hK hP 0 rfl rfl 0 (by decide) (hts (.fieldLink RX3 10 "ZHeads" "file" "LZHeads$Row;") (by decide +kernel)) (fun _ h9 => h9) rfl dX3_restart_56 ?_
            refine lv_iload_n hx hb dX3_restart_59 rfl (lv_at hl 1 rfl) ?_
            refine zc_V (As := [.int (zi_n i)]) (rest := [.int (zi_n i), .ref q2]) ⟨hx, hb, hml, hown, hts⟩ (c_Row_at l D q a cA F n hF (by omega) i (by omega)) (cwV 1 hts gX3_restart_X2_at rfl rfl rfl (by decide +kernel) ⟨(Nat.le_of_ble_eq_true rfl), (Nat.le_of_ble_eq_true rfl)⟩) hP hK [1, 4] [0] rfl rfl (ci := 3) rfl rfl rfl rfl hl.1 rfl (Nat.le_of_ble_eq_true rfl) dX3_restart_60 ⟨Nat.zero_le _, Nat.zero_le _⟩ (fun r hr1 => ?_)
            obtain ⟨rfl, b_8⟩ := hr1
            refine zc_Vv (As := [.int (zi_n i), .int (zi_n (zh_at F n i))]) (rest := []) (wr := [(x, .inr (4, [.ref q, .ref q2, .ref hh, .int (zi_n rd), .int (zi_n br)])), (q, .inr (3, [.ref a, .int (zi_n n)])), (hh, .inr (2, [.ref q])), (a, .inl (cA, 600, .inl (zi_F F)))]) (wf := fun (_ : Unit) => [(x, .inr (4, [.ref q, .ref q2, .ref hh, .int (zi_n rd), .int (zi_n br)])), (q, .inr (3, [.ref a, .int (zi_n n)])), (q2, .inr (3, [.ref a2, .int (zi_n k)])), (hh, .inr (2, [.ref q])), (a, .inl (cA, 600, .inl (zi_F F))), (a2, .inl (cB, 600, .inl (zi_F (zh_put (zh_rs F G i) k i (zh_at F n i)))))]) ⟨hx, hb, hml, hown, hts⟩ (c_Row_put l D q2 a2 cB (zh_rs F G i) k hGi (by omega) _ i (zh_at F n i) (by omega) (by omega)) (cwV 2 hts gX3_restart_X2_put rfl rfl rfl (by decide +kernel) ⟨(Nat.le_of_ble_eq_true rfl), (Nat.le_of_ble_eq_true rfl)⟩) hP hD hK hS hA [2, 5] [0, 1, 3, 4] [1] [0, 1, 4, 2, 3, 5] rfl rfl (by decide) rfl (by decide) (by decide) rfl (fun _ => rfl) (fun _ => rfl) (by decide) (ci := 3) rfl rfl rfl rfl hl.1 rfl (Nat.le_of_ble_eq_true rfl) dX3_restart_63 ⟨Nat.zero_le _, Nat.zero_le _⟩ (fun _ hr1 H locs hP hD hS => ?_)
            have hF_9 : zi_By (zh_put (zh_rs F G i) k i (zh_at F n i)) := zh_put_By hGi _ _ _
            have hP : va_P D vwCl [(x, .inr (4, [.ref q, .ref q2, .ref hh, .int (zi_n rd), .int (zi_n br)])), (q, .inr (3, [.ref a, .int (zi_n n)])), (q2, .inr (3, [.ref a2, .int (zi_n k)])), (hh, .inr (2, [.ref q])), (a, .inl (cA, 600, .inl (zi_F F))), (a2, .inl (cB, 600, .inl (zi_F (zh_put (zh_rs F G i) k i (zh_at F n i)))))] H := hP
            have hD : va_D A [(x, .inr (4, [.ref q, .ref q2, .ref hh, .int (zi_n rd), .int (zi_n br)])), (q, .inr (3, [.ref a, .int (zi_n n)])), (q2, .inr (3, [.ref a2, .int (zi_n k)])), (hh, .inr (2, [.ref q])), (a, .inl (cA, 600, .inl (zi_F F))), (a2, .inl (cB, 600, .inl (zi_F (zh_put (zh_rs F G i) k i (zh_at F n i)))))] := hD
            refine zr_iinc (lv' := [(3, .int (zi_n (i + 1))), (1, .int (zi_n ((zh_dc F G (i - 64).toNat) + 1))), (2, .int (zi_n (zh_t F 14))), (0, .ref x)]) hx hb dX3_restart_66 hl (k := 1) rfl (by decide) rfl (fun ls hl => ?_)
            refine lv_goto (tgt := 23) hx hb dX3_restart_69 (by decide) ?_
            have e1 : zh_put (zh_rs F G i) k i (zh_at F n i) = zh_rs F G (i + 1) := by unfold zh_put; rw [if_pos (by omega), g2, show F i.toNat % 256 = F i.toNat by have := hF i.toNat; omega]; exact zh_rs_s (by omega)
            have e2 : zh_dc F G (i - 64).toNat + 1 = zh_dc F G (i + 1 - 64).toNat := by exact zh_dc_n (by omega) (by omega)
            rw [e1] at hP hD; rw [e2] at hl
            exact ih (i + 1) (by omega) (by omega) (by omega) H locs hP hD hS _ (lv_sub hl [0, 2, 1, 3] rfl)
    have e0 : zh_rs F G 64 = G := by exact zh_rs_0 F G
    exact key 601 64 (by omega) (by omega) (by omega) _ _ (by rw [e0]; exact hP) (by rw [e0]; exact hD) hS _ hl
  · refine zr_bipush hx hb dX3_restart_7 (by decide) ?_
    have e_n_10_0 : zh_reG F G rd = G := by unfold zh_reG; first | (rw [if_pos (by omega)]; done) | (rw [if_neg (by omega), show zh_t F 14 = i by omega])
    have hP9 : va_P D vwCl [(x, .inr (4, [.ref q, .ref q2, .ref hh, .int (zi_n rd), .int (zi_n br)])), (q, .inr (3, [.ref a, .int (zi_n n)])), (q2, .inr (3, [.ref a2, .int (zi_n k)])), (hh, .inr (2, [.ref q])), (a, .inl (cA, 600, .inl (zi_F F))), (a2, .inl (cB, 600, .inl (zi_F (zh_reG F G rd))))] s.heap := by rw [e_n_10_0]; exact hP
    have hD9 : va_D A [(x, .inr (4, [.ref q, .ref q2, .ref hh, .int (zi_n rd), .int (zi_n br)])), (q, .inr (3, [.ref a, .int (zi_n n)])), (q2, .inr (3, [.ref a2, .int (zi_n k)])), (hh, .inr (2, [.ref q])), (a, .inl (cA, 600, .inl (zi_F F))), (a2, .inl (cB, 600, .inl (zi_F (zh_reG F G rd))))] := by rw [e_n_10_0]; exact hD
    exact W.iret (v := zi_n (-11)) hx hb hr (fun t ht hW => ⟨⟨zi_n (-11), (), rfl, zl_r (by unfold zh_reE; first | (rw [if_pos (by omega)]; done) | (rw [if_neg (by omega), show zh_t F 14 = i by omega])) (by omega), by rw [ht]; exact hP9, va_K.moved hW.alike hK, hD9⟩, hS.F ht⟩) hS.2.2 dX3_restart_9

theorem in_X3_switchFlag_X3 : ∀ w ∈ u_ws RX3 TX3 5, w ∈ wsX3_switchFlag := by decide +kernel
set_option maxHeartbeats 4000000 in
set_option maxRecDepth 100000 in
theorem c_Z_switchFlag (l : Launch) (D : va_G) (x q q2 hh a a2 : Nat) (cA cB : ClassId) (F G : Nat → Int) (n k rd br : Int) (hF : zi_By F) (hn : 0 ≤ n ∧ n ≤ 600) (hG : zi_By G) (hk : 0 ≤ k ∧ k ≤ 600) (hrd : rd = 0 ∨ rd = 1) (hbr : 0 ≤ br ∧ br ≤ 15) (sz : Nat) (p0 : Int) (p1 : Int) (p2 : Int) (h64 : 64 ≤ k) (rp0 : zi_R p0) (hp : 0 ≤ p1 ∧ p1 ≤ 15) (bp2 : p2 = 0 ∨ p2 = 1) : Met l yX3_switchFlag wsX3_switchFlag ({ frames := 3, cells := 0, slots := 0, locals := 65 }) (va_Pc [.ref x, .int (zi_n p0), .int (zi_n p1), .int (zi_n p2)] (zp_P D vwCl sz [(x, .inr (4, [.ref q, .ref q2, .ref hh, .int (zi_n rd), .int (zi_n br)])), (q, .inr (3, [.ref a, .int (zi_n n)])), (q2, .inr (3, [.ref a2, .int (zi_n k)])), (hh, .inr (2, [.ref q])), (a, .inl (cA, 600, .inl (zi_F F))), (a2, .inl (cB, 600, .inl (zi_F G)))] [(cA, .int), (cB, .int)])) (va_Qv (fun (_ : Unit) => True) (fun (_ : Unit) => zp_B D vwCl [(cA, .int), (cB, .int)] (va_A [(x, .inr (4, [.ref q, .ref q2, .ref hh, .int (zi_n rd), .int (zi_n br)])), (q, .inr (3, [.ref a, .int (zi_n n)])), (q2, .inr (3, [.ref a2, .int (zi_n k)])), (hh, .inr (2, [.ref q])), (a, .inl (cA, 600, .inl (zi_F F))), (a2, .inl (cB, 600, .inl (zi_F G)))] sz) [(x, .inr (4, [.ref q, .ref q2, .ref hh, .int (zi_n rd), .int (zi_n br)])), (q, .inr (3, [.ref a, .int (zi_n n)])), (q2, .inr (3, [.ref a2, .int (zi_n k)])), (hh, .inr (2, [.ref q])), (a, .inl (cA, 600, .inl (zi_F F))), (a2, .inl (cB, 600, .inl (zi_F (zh_swG G k p0 p1 p2))))]) (va_A [(x, .inr (4, [.ref q, .ref q2, .ref hh, .int (zi_n rd), .int (zi_n br)])), (q, .inr (3, [.ref a, .int (zi_n n)])), (q2, .inr (3, [.ref a2, .int (zi_n k)])), (hh, .inr (2, [.ref q])), (a, .inl (cA, 600, .inl (zi_F F))), (a2, .inl (cB, 600, .inl (zi_F G)))] sz)) 0 0 (va_A [(x, .inr (4, [.ref q, .ref q2, .ref hh, .int (zi_n rd), .int (zi_n br)])), (q, .inr (3, [.ref a, .int (zi_n n)])), (q2, .inr (3, [.ref a2, .int (zi_n k)])), (hh, .inr (2, [.ref q])), (a, .inl (cA, 600, .inl (zi_F F))), (a2, .inl (cB, 600, .inl (zi_F G)))] sz) := by
  refine Met.ofW (cc := cX3_switchFlag) (maxL := 6) (ret := none) (by decide) rfl ?_
  intro p e s m args below meth c s₁ B hml hv
  obtain ⟨rfl, hsz, hP, hK, hD0⟩ := hv
  have hx := B.exec
  have hb := B.bytes
  have hr := B.returns
  have hts := atoms_spec (ws := wsX3_switchFlag) B.pre
  have hown : s.vm.findClass RX3 = some m.cls := findClass_of_methodNamed B.named
  have hlocks := B.notSynchronized
  subst hsz
  have hD := hD0.self (sz := s.heap.size)
  generalize hAe : va_A [(x, .inr (4, [.ref q, .ref q2, .ref hh, .int (zi_n rd), .int (zi_n br)])), (q, .inr (3, [.ref a, .int (zi_n n)])), (q2, .inr (3, [.ref a2, .int (zi_n k)])), (hh, .inr (2, [.ref q])), (a, .inl (cA, 600, .inl (zi_F F))), (a2, .inl (cB, 600, .inl (zi_F G)))] s.heap.size = A at hD ⊢
  have hA : ∀ q : Nat, s.heap.size ≤ q → A q := fun q h => by rw [← hAe]; exact Or.inr h
  have hS : va_S A s.heap s.heap [] := va_S.rf
  have hP : va_P D vwCl [(x, .inr (4, [.ref q, .ref q2, .ref hh, .int (zi_n rd), .int (zi_n br)])), (q, .inr (3, [.ref a, .int (zi_n n)])), (q2, .inr (3, [.ref a2, .int (zi_n k)])), (hh, .inr (2, [.ref q])), (a, .inl (cA, 600, .inl (zi_F F))), (a2, .inl (cB, 600, .inl (zi_F G)))] s.heap := hP
  have hl := lv_entry ([.ref x, .int (zi_n p0), .int (zi_n p1), .int (zi_n p2)]) (n := 6) (Nat.le_of_ble_eq_true rfl)
  rw [lg_entry_eq]
  generalize (lg_sl ([.ref x, .int (zi_n p0), .int (zi_n p1), .int (zi_n p2)]) ++ List.replicate (6 - (lg_sl ([.ref x, .int (zi_n p0), .int (zi_n p1), .int (zi_n p2)])).length) Slot.unset).toArray = ls at hl ⊢
  have hl : lv_has ls 6 [(0, .ref x), (1, .int (zi_n p0)), (2, .int (zi_n p1)), (3, .int (zi_n p2))] := hl
  refine lv_iload_n hx hb dX3_switchFlag_0 rfl (lv_at hl 1 rfl) ?_
  refine zr_iconst hx hb dX3_switchFlag_1 ?_
  refine zr_icmp_ne (tgt := 16) hx hb dX3_switchFlag_2 (by decide) (by omega) (by omega) (fun c_1 => ?_) (fun c_1 => ?_)
  · refine lv_aload_n hx hb dX3_switchFlag_16 rfl (lv_at hl 0 rfl) ?_
    refine va_get (D := D) (ci := 4) (v := .ref q2) (C := RX3) (T := TX3) (N := 5) hx hb hts in_X3_switchFlag_X3 hown hK hP 0 rfl rfl 1 (by decide) (hts (.fieldLink RX3 16 "ZHeads" "memory" "LZHeads$Row;") (by decide +kernel)) (fun _ h9 => h9) rfl dX3_switchFlag_17 ?_
    refine zr_bipush hx hb dX3_switchFlag_20 (by decide) ?_
    refine zc_V (As := [.int (zi_n 16)]) (rest := []) ⟨hx, hb, hml, hown, hts⟩ (c_Row_two_k l D q2 a2 cB G k hG (by omega) 16 16 rfl (by omega)) (cwV 1 hts gX3_switchFlag_X2_two rfl rfl rfl (by decide +kernel) ⟨(Nat.le_of_ble_eq_true rfl), (Nat.le_of_ble_eq_true rfl)⟩) hP hK [2, 5] [1] rfl rfl (ci := 3) rfl rfl rfl rfl hl.1 rfl (Nat.le_of_ble_eq_true rfl) dX3_switchFlag_22 ⟨Nat.zero_le _, Nat.zero_le _⟩ (fun r hr1 => ?_)
    obtain ⟨rfl, b_2⟩ := hr1
    refine lv_istore (lv' := [(4, .int (zi_n (zh_t G 16))), (0, .ref x), (1, .int (zi_n p0)), (2, .int (zi_n p1)), (3, .int (zi_n p2))]) hx hb dX3_switchFlag_25 hl (by decide) rfl (fun ls hl => ?_)
    refine lv_iload_n hx hb dX3_switchFlag_27 rfl (lv_at hl 4 rfl) ?_
    refine zr_if_eq (tgt := 40) hx hb dX3_switchFlag_28 (by decide) (by omega) (fun c_3 => ?_) (fun c_3 => ?_)
    · refine lv_iload hx hb dX3_switchFlag_40 (lv_at hl 0 rfl) ?_
      refine zr_iconst hx hb dX3_switchFlag_42 ?_
      refine lv_iload_n hx hb dX3_switchFlag_43 rfl (lv_at hl 3 rfl) ?_
      refine zr_ishl1 hx hb dX3_switchFlag_44 (by omega) ?_
      have b_4 := zh_pw_b (k := p1) (by omega)
      refine zr_iconst hx hb dX3_switchFlag_45 ?_
      refine zr_ixm1 hx hb dX3_switchFlag_46 ?_
      refine zr_iandn hx hb dX3_switchFlag_47 (by omega) (by omega) ?_
      have b_5 := zh_clr_b (a := zh_t G 16) (k := p1) (by omega) (by omega)
      refine lv_istore (lv' := [(5, .int (zi_n (zh_clr (zh_t G 16) p1))), (4, .int (zi_n (zh_t G 16))), (0, .ref x), (1, .int (zi_n p0)), (2, .int (zi_n p1)), (3, .int (zi_n p2))]) hx hb dX3_switchFlag_48 hl (by decide) rfl (fun ls hl => ?_)
      refine lv_iload_n hx hb dX3_switchFlag_50 rfl (lv_at hl 3 rfl) ?_
      refine zr_iconst hx hb dX3_switchFlag_51 ?_
      refine zr_icmp_ne (tgt := 68) hx hb dX3_switchFlag_52 (by decide) (by omega) (by omega) (fun c_6 => ?_) (fun c_6 => ?_)
      · refine lv_aload_n hx hb dX3_switchFlag_68 rfl (lv_at hl 2 rfl) ?_
        refine va_get (D := D) (ci := 4) (v := .ref q2) (C := RX3) (T := TX3) (N := 5) hx hb hts in_X3_switchFlag_X3 hown hK hP 0 rfl rfl 1 (by decide) (hts (.fieldLink RX3 16 "ZHeads" "memory" "LZHeads$Row;") (by decide +kernel)) (fun _ h9 => h9) rfl dX3_switchFlag_69 ?_
        refine zr_bipush hx hb dX3_switchFlag_72 (by decide) ?_
        refine lv_iload hx hb dX3_switchFlag_74 (lv_at hl 0 rfl) ?_
        refine zc_Vv (As := [.int (zi_n 16), .int (zi_n (zh_clr (zh_t G 16) p1))]) (rest := []) (wr := [(x, .inr (4, [.ref q, .ref q2, .ref hh, .int (zi_n rd), .int (zi_n br)])), (q, .inr (3, [.ref a, .int (zi_n n)])), (hh, .inr (2, [.ref q])), (a, .inl (cA, 600, .inl (zi_F F)))]) (wf := fun (_ : Unit) => [(x, .inr (4, [.ref q, .ref q2, .ref hh, .int (zi_n rd), .int (zi_n br)])), (q, .inr (3, [.ref a, .int (zi_n n)])), (q2, .inr (3, [.ref a2, .int (zi_n k)])), (hh, .inr (2, [.ref q])), (a, .inl (cA, 600, .inl (zi_F F))), (a2, .inl (cB, 600, .inl (zi_F (zh_put (zh_put G k 16 ((zh_clr (zh_t G 16) p1) / 256)) k (16 + 1) (zh_clr (zh_t G 16) p1)))))]) ⟨hx, hb, hml, hown, hts⟩ (c_Row_putTwo l D q2 a2 cB G k hG (by omega) _ 16 (zh_clr (zh_t G 16) p1) (by omega) (by omega)) (cwV 2 hts gX3_switchFlag_X2_putTwo rfl rfl rfl (by decide +kernel) ⟨(Nat.le_of_ble_eq_true rfl), (Nat.le_of_ble_eq_true rfl)⟩) hP hD hK hS hA [2, 5] [0, 1, 3, 4] [1] [0, 1, 4, 2, 3, 5] rfl rfl (by decide) rfl (by decide) (by decide) rfl (fun _ => rfl) (fun _ => rfl) (by decide) (ci := 3) rfl rfl rfl rfl hl.1 rfl (Nat.le_of_ble_eq_true rfl) dX3_switchFlag_76 ⟨Nat.zero_le _, Nat.zero_le _⟩ (fun _ hr1 H locs hP hD hS => ?_)
        have hF_7 : zi_By (zh_put (zh_put G k 16 ((zh_clr (zh_t G 16) p1) / 256)) k (16 + 1) (zh_clr (zh_t G 16) p1)) := zh_put_By (zh_put_By hG _ _ _) _ _ _
        have hP : va_P D vwCl [(x, .inr (4, [.ref q, .ref q2, .ref hh, .int (zi_n rd), .int (zi_n br)])), (q, .inr (3, [.ref a, .int (zi_n n)])), (q2, .inr (3, [.ref a2, .int (zi_n k)])), (hh, .inr (2, [.ref q])), (a, .inl (cA, 600, .inl (zi_F F))), (a2, .inl (cB, 600, .inl (zi_F (zh_put (zh_put G k 16 ((zh_clr (zh_t G 16) p1) / 256)) k (16 + 1) (zh_clr (zh_t G 16) p1)))))] H := hP
        have hD : va_D A [(x, .inr (4, [.ref q, .ref q2, .ref hh, .int (zi_n rd), .int (zi_n br)])), (q, .inr (3, [.ref a, .int (zi_n n)])), (q2, .inr (3, [.ref a2, .int (zi_n k)])), (hh, .inr (2, [.ref q])), (a, .inl (cA, 600, .inl (zi_F F))), (a2, .inl (cB, 600, .inl (zi_F (zh_put (zh_put G k 16 ((zh_clr (zh_t G 16) p1) / 256)) k (16 + 1) (zh_clr (zh_t G 16) p1)))))] := hD
        have e_n_8_0 : zh_swG G k p0 p1 p2 = zh_put (zh_put G k 16 ((zh_clr (zh_t G 16) p1) / 256)) k (16 + 1) (zh_clr (zh_t G 16) p1) := by unfold zh_swG zh_swV; first | (exfalso; omega; done) | rw [if_pos (by omega), if_pos (by omega)] | rw [if_pos (by omega), if_neg (by omega)] | rw [if_neg (by omega), if_pos (by omega)] | rw [if_neg (by omega), if_neg (by omega)]
        have hP9 : va_P D vwCl [(x, .inr (4, [.ref q, .ref q2, .ref hh, .int (zi_n rd), .int (zi_n br)])), (q, .inr (3, [.ref a, .int (zi_n n)])), (q2, .inr (3, [.ref a2, .int (zi_n k)])), (hh, .inr (2, [.ref q])), (a, .inl (cA, 600, .inl (zi_F F))), (a2, .inl (cB, 600, .inl (zi_F (zh_swG G k p0 p1 p2))))] H := by rw [e_n_8_0]; exact hP
        have hD9 : va_D A [(x, .inr (4, [.ref q, .ref q2, .ref hh, .int (zi_n rd), .int (zi_n br)])), (q, .inr (3, [.ref a, .int (zi_n n)])), (q2, .inr (3, [.ref a2, .int (zi_n k)])), (hh, .inr (2, [.ref q])), (a, .inl (cA, 600, .inl (zi_F F))), (a2, .inl (cB, 600, .inl (zi_F (zh_swG G k p0 p1 p2))))] := by rw [e_n_8_0]; exact hD
        exact W.vret hx hb hr (fun t ht hW => ⟨⟨(), rfl, trivial, by rw [ht]; exact hP9, va_K.moved hW.alike hK, hD9⟩, hS.F ht⟩) hS.2.2 dX3_switchFlag_79
      · refine lv_aload_n hx hb dX3_switchFlag_55 rfl (lv_at hl 2 rfl) ?_
        refine va_get (D := D) (ci := 4) (v := .ref q2) (C := RX3) (T := TX3) (N := 5) hx hb hts in_X3_switchFlag_X3 hown hK hP 0 rfl rfl 1 (by decide) (hts (.fieldLink RX3 16 "ZHeads" "memory" "LZHeads$Row;") (by decide +kernel)) (fun _ h9 => h9) rfl dX3_switchFlag_56 ?_
        refine zr_iconst hx hb dX3_switchFlag_59 ?_
        refine lv_iload hx hb dX3_switchFlag_60 (lv_at hl 0 rfl) ?_
        refine zc_Vv (As := [.int (zi_n 1), .int (zi_n (zh_clr (zh_t G 16) p1))]) (rest := []) (wr := [(x, .inr (4, [.ref q, .ref q2, .ref hh, .int (zi_n rd), .int (zi_n br)])), (q, .inr (3, [.ref a, .int (zi_n n)])), (hh, .inr (2, [.ref q])), (a, .inl (cA, 600, .inl (zi_F F)))]) (wf := fun (_ : Unit) => [(x, .inr (4, [.ref q, .ref q2, .ref hh, .int (zi_n rd), .int (zi_n br)])), (q, .inr (3, [.ref a, .int (zi_n n)])), (q2, .inr (3, [.ref a2, .int (zi_n k)])), (hh, .inr (2, [.ref q])), (a, .inl (cA, 600, .inl (zi_F F))), (a2, .inl (cB, 600, .inl (zi_F (zh_put G k 1 (zh_clr (zh_t G 16) p1)))))]) ⟨hx, hb, hml, hown, hts⟩ (c_Row_put l D q2 a2 cB G k hG (by omega) _ 1 (zh_clr (zh_t G 16) p1) (by omega) (by omega)) (cwV 2 hts gX3_switchFlag_X2_put rfl rfl rfl (by decide +kernel) ⟨(Nat.le_of_ble_eq_true rfl), (Nat.le_of_ble_eq_true rfl)⟩) hP hD hK hS hA [2, 5] [0, 1, 3, 4] [1] [0, 1, 4, 2, 3, 5] rfl rfl (by decide) rfl (by decide) (by decide) rfl (fun _ => rfl) (fun _ => rfl) (by decide) (ci := 3) rfl rfl rfl rfl hl.1 rfl (Nat.le_of_ble_eq_true rfl) dX3_switchFlag_62 ⟨Nat.zero_le _, Nat.zero_le _⟩ (fun _ hr1 H locs hP hD hS => ?_)
        have hF_9 : zi_By (zh_put G k 1 (zh_clr (zh_t G 16) p1)) := zh_put_By hG _ _ _
        have hP : va_P D vwCl [(x, .inr (4, [.ref q, .ref q2, .ref hh, .int (zi_n rd), .int (zi_n br)])), (q, .inr (3, [.ref a, .int (zi_n n)])), (q2, .inr (3, [.ref a2, .int (zi_n k)])), (hh, .inr (2, [.ref q])), (a, .inl (cA, 600, .inl (zi_F F))), (a2, .inl (cB, 600, .inl (zi_F (zh_put G k 1 (zh_clr (zh_t G 16) p1)))))] H := hP
        have hD : va_D A [(x, .inr (4, [.ref q, .ref q2, .ref hh, .int (zi_n rd), .int (zi_n br)])), (q, .inr (3, [.ref a, .int (zi_n n)])), (q2, .inr (3, [.ref a2, .int (zi_n k)])), (hh, .inr (2, [.ref q])), (a, .inl (cA, 600, .inl (zi_F F))), (a2, .inl (cB, 600, .inl (zi_F (zh_put G k 1 (zh_clr (zh_t G 16) p1)))))] := hD
        refine lv_goto (tgt := 79) hx hb dX3_switchFlag_65 (by decide) ?_
        have e_n_10_0 : zh_swG G k p0 p1 p2 = zh_put G k 1 (zh_clr (zh_t G 16) p1) := by unfold zh_swG zh_swV; first | (exfalso; omega; done) | rw [if_pos (by omega), if_pos (by omega)] | rw [if_pos (by omega), if_neg (by omega)] | rw [if_neg (by omega), if_pos (by omega)] | rw [if_neg (by omega), if_neg (by omega)]
        have hP9 : va_P D vwCl [(x, .inr (4, [.ref q, .ref q2, .ref hh, .int (zi_n rd), .int (zi_n br)])), (q, .inr (3, [.ref a, .int (zi_n n)])), (q2, .inr (3, [.ref a2, .int (zi_n k)])), (hh, .inr (2, [.ref q])), (a, .inl (cA, 600, .inl (zi_F F))), (a2, .inl (cB, 600, .inl (zi_F (zh_swG G k p0 p1 p2))))] H := by rw [e_n_10_0]; exact hP
        have hD9 : va_D A [(x, .inr (4, [.ref q, .ref q2, .ref hh, .int (zi_n rd), .int (zi_n br)])), (q, .inr (3, [.ref a, .int (zi_n n)])), (q2, .inr (3, [.ref a2, .int (zi_n k)])), (hh, .inr (2, [.ref q])), (a, .inl (cA, 600, .inl (zi_F F))), (a2, .inl (cB, 600, .inl (zi_F (zh_swG G k p0 p1 p2))))] := by rw [e_n_10_0]; exact hD
        exact W.vret hx hb hr (fun t ht hW => ⟨⟨(), rfl, trivial, by rw [ht]; exact hP9, va_K.moved hW.alike hK, hD9⟩, hS.F ht⟩) hS.2.2 dX3_switchFlag_79
    · refine lv_iload hx hb dX3_switchFlag_31 (lv_at hl 0 rfl) ?_
      refine zr_iconst hx hb dX3_switchFlag_33 ?_
      refine lv_iload_n hx hb dX3_switchFlag_34 rfl (lv_at hl 3 rfl) ?_
      refine zr_ishl1 hx hb dX3_switchFlag_35 (by omega) ?_
      have b_11 := zh_pw_b (k := p1) (by omega)
      refine zr_iorp hx hb dX3_switchFlag_36 (by omega) (by omega) ?_
      have b_12 := zh_set_b (a := zh_t G 16) (k := p1) (by omega) (by omega)
      refine lv_goto (tgt := 48) hx hb dX3_switchFlag_37 (by decide) ?_
      refine lv_istore (lv' := [(5, .int (zi_n (zh_set (zh_t G 16) p1))), (4, .int (zi_n (zh_t G 16))), (0, .ref x), (1, .int (zi_n p0)), (2, .int (zi_n p1)), (3, .int (zi_n p2))]) hx hb dX3_switchFlag_48 hl (by decide) rfl (fun ls hl => ?_)
      refine lv_iload_n hx hb dX3_switchFlag_50 rfl (lv_at hl 3 rfl) ?_
      refine zr_iconst hx hb dX3_switchFlag_51 ?_
      refine zr_icmp_ne (tgt := 68) hx hb dX3_switchFlag_52 (by decide) (by omega) (by omega) (fun c_13 => ?_) (fun c_13 => ?_)
      · refine lv_aload_n hx hb dX3_switchFlag_68 rfl (lv_at hl 2 rfl) ?_
        refine va_get (D := D) (ci := 4) (v := .ref q2) (C := RX3) (T := TX3) (N := 5) hx hb hts in_X3_switchFlag_X3 hown hK hP 0 rfl rfl 1 (by decide) (hts (.fieldLink RX3 16 "ZHeads" "memory" "LZHeads$Row;") (by decide +kernel)) (fun _ h9 => h9) rfl dX3_switchFlag_69 ?_
        refine zr_bipush hx hb dX3_switchFlag_72 (by decide) ?_
        refine lv_iload hx hb dX3_switchFlag_74 (lv_at hl 0 rfl) ?_
        refine zc_Vv (As := [.int (zi_n 16), .int (zi_n (zh_set (zh_t G 16) p1))]) (rest := []) (wr := [(x, .inr (4, [.ref q, .ref q2, .ref hh, .int (zi_n rd), .int (zi_n br)])), (q, .inr (3, [.ref a, .int (zi_n n)])), (hh, .inr (2, [.ref q])), (a, .inl (cA, 600, .inl (zi_F F)))]) (wf := fun (_ : Unit) => [(x, .inr (4, [.ref q, .ref q2, .ref hh, .int (zi_n rd), .int (zi_n br)])), (q, .inr (3, [.ref a, .int (zi_n n)])), (q2, .inr (3, [.ref a2, .int (zi_n k)])), (hh, .inr (2, [.ref q])), (a, .inl (cA, 600, .inl (zi_F F))), (a2, .inl (cB, 600, .inl (zi_F (zh_put (zh_put G k 16 ((zh_set (zh_t G 16) p1) / 256)) k (16 + 1) (zh_set (zh_t G 16) p1)))))]) ⟨hx, hb, hml, hown, hts⟩ (c_Row_putTwo l D q2 a2 cB G k hG (by omega) _ 16 (zh_set (zh_t G 16) p1) (by omega) (by omega)) (cwV 2 hts gX3_switchFlag_X2_putTwo rfl rfl rfl (by decide +kernel) ⟨(Nat.le_of_ble_eq_true rfl), (Nat.le_of_ble_eq_true rfl)⟩) hP hD hK hS hA [2, 5] [0, 1, 3, 4] [1] [0, 1, 4, 2, 3, 5] rfl rfl (by decide) rfl (by decide) (by decide) rfl (fun _ => rfl) (fun _ => rfl) (by decide) (ci := 3) rfl rfl rfl rfl hl.1 rfl (Nat.le_of_ble_eq_true rfl) dX3_switchFlag_76 ⟨Nat.zero_le _, Nat.zero_le _⟩ (fun _ hr1 H locs hP hD hS => ?_)
        have hF_14 : zi_By (zh_put (zh_put G k 16 ((zh_set (zh_t G 16) p1) / 256)) k (16 + 1) (zh_set (zh_t G 16) p1)) := zh_put_By (zh_put_By hG _ _ _) _ _ _
        have hP : va_P D vwCl [(x, .inr (4, [.ref q, .ref q2, .ref hh, .int (zi_n rd), .int (zi_n br)])), (q, .inr (3, [.ref a, .int (zi_n n)])), (q2, .inr (3, [.ref a2, .int (zi_n k)])), (hh, .inr (2, [.ref q])), (a, .inl (cA, 600, .inl (zi_F F))), (a2, .inl (cB, 600, .inl (zi_F (zh_put (zh_put G k 16 ((zh_set (zh_t G 16) p1) / 256)) k (16 + 1) (zh_set (zh_t G 16) p1)))))] H := hP
        have hD : va_D A [(x, .inr (4, [.ref q, .ref q2, .ref hh, .int (zi_n rd), .int (zi_n br)])), (q, .inr (3, [.ref a, .int (zi_n n)])), (q2, .inr (3, [.ref a2, .int (zi_n k)])), (hh, .inr (2, [.ref q])), (a, .inl (cA, 600, .inl (zi_F F))), (a2, .inl (cB, 600, .inl (zi_F (zh_put (zh_put G k 16 ((zh_set (zh_t G 16) p1) / 256)) k (16 + 1) (zh_set (zh_t G 16) p1)))))] := hD
        have e_n_15_0 : zh_swG G k p0 p1 p2 = zh_put (zh_put G k 16 ((zh_set (zh_t G 16) p1) / 256)) k (16 + 1) (zh_set (zh_t G 16) p1) := by unfold zh_swG zh_swV; first | (exfalso; omega; done) | rw [if_pos (by omega), if_pos (by omega)] | rw [if_pos (by omega), if_neg (by omega)] | rw [if_neg (by omega), if_pos (by omega)] | rw [if_neg (by omega), if_neg (by omega)]
        have hP9 : va_P D vwCl [(x, .inr (4, [.ref q, .ref q2, .ref hh, .int (zi_n rd), .int (zi_n br)])), (q, .inr (3, [.ref a, .int (zi_n n)])), (q2, .inr (3, [.ref a2, .int (zi_n k)])), (hh, .inr (2, [.ref q])), (a, .inl (cA, 600, .inl (zi_F F))), (a2, .inl (cB, 600, .inl (zi_F (zh_swG G k p0 p1 p2))))] H := by rw [e_n_15_0]; exact hP
        have hD9 : va_D A [(x, .inr (4, [.ref q, .ref q2, .ref hh, .int (zi_n rd), .int (zi_n br)])), (q, .inr (3, [.ref a, .int (zi_n n)])), (q2, .inr (3, [.ref a2, .int (zi_n k)])), (hh, .inr (2, [.ref q])), (a, .inl (cA, 600, .inl (zi_F F))), (a2, .inl (cB, 600, .inl (zi_F (zh_swG G k p0 p1 p2))))] := by rw [e_n_15_0]; exact hD
        exact W.vret hx hb hr (fun t ht hW => ⟨⟨(), rfl, trivial, by rw [ht]; exact hP9, va_K.moved hW.alike hK, hD9⟩, hS.F ht⟩) hS.2.2 dX3_switchFlag_79
      · refine lv_aload_n hx hb dX3_switchFlag_55 rfl (lv_at hl 2 rfl) ?_
        refine va_get (D := D) (ci := 4) (v := .ref q2) (C := RX3) (T := TX3) (N := 5) hx hb hts in_X3_switchFlag_X3 hown hK hP 0 rfl rfl 1 (by decide) (hts (.fieldLink RX3 16 "ZHeads" "memory" "LZHeads$Row;") (by decide +kernel)) (fun _ h9 => h9) rfl dX3_switchFlag_56 ?_
        refine zr_iconst hx hb dX3_switchFlag_59 ?_
        refine lv_iload hx hb dX3_switchFlag_60 (lv_at hl 0 rfl) ?_
        refine zc_Vv (As := [.int (zi_n 1), .int (zi_n (zh_set (zh_t G 16) p1))]) (rest := []) (wr := [(x, .inr (4, [.ref q, .ref q2, .ref hh, .int (zi_n rd), .int (zi_n br)])), (q, .inr (3, [.ref a, .int (zi_n n)])), (hh, .inr (2, [.ref q])), (a, .inl (cA, 600, .inl (zi_F F)))]) (wf := fun (_ : Unit) => [(x, .inr (4, [.ref q, .ref q2, .ref hh, .int (zi_n rd), .int (zi_n br)])), (q, .inr (3, [.ref a, .int (zi_n n)])), (q2, .inr (3, [.ref a2, .int (zi_n k)])), (hh, .inr (2, [.ref q])), (a, .inl (cA, 600, .inl (zi_F F))), (a2, .inl (cB, 600, .inl (zi_F (zh_put G k 1 (zh_set (zh_t G 16) p1)))))]) ⟨hx, hb, hml, hown, hts⟩ (c_Row_put l D q2 a2 cB G k hG (by omega) _ 1 (zh_set (zh_t G 16) p1) (by omega) (by omega)) (cwV 2 hts gX3_switchFlag_X2_put rfl rfl rfl (by decide +kernel) ⟨(Nat.le_of_ble_eq_true rfl), (Nat.le_of_ble_eq_true rfl)⟩) hP hD hK hS hA [2, 5] [0, 1, 3, 4] [1] [0, 1, 4, 2, 3, 5] rfl rfl (by decide) rfl (by decide) (by decide) rfl (fun _ => rfl) (fun _ => rfl) (by decide) (ci := 3) rfl rfl rfl rfl hl.1 rfl (Nat.le_of_ble_eq_true rfl) dX3_switchFlag_62 ⟨Nat.zero_le _, Nat.zero_le _⟩ (fun _ hr1 H locs hP hD hS => ?_)
        have hF_16 : zi_By (zh_put G k 1 (zh_set (zh_t G 16) p1)) := zh_put_By hG _ _ _
        have hP : va_P D vwCl [(x, .inr (4, [.ref q, .ref q2, .ref hh, .int (zi_n rd), .int (zi_n br)])), (q, .inr (3, [.ref a, .int (zi_n n)])), (q2, .inr (3, [.ref a2, .int (zi_n k)])), (hh, .inr (2, [.ref q])), (a, .inl (cA, 600, .inl (zi_F F))), (a2, .inl (cB, 600, .inl (zi_F (zh_put G k 1 (zh_set (zh_t G 16) p1)))))] H := hP
        have hD : va_D A [(x, .inr (4, [.ref q, .ref q2, .ref hh, .int (zi_n rd), .int (zi_n br)])), (q, .inr (3, [.ref a, .int (zi_n n)])), (q2, .inr (3, [.ref a2, .int (zi_n k)])), (hh, .inr (2, [.ref q])), (a, .inl (cA, 600, .inl (zi_F F))), (a2, .inl (cB, 600, .inl (zi_F (zh_put G k 1 (zh_set (zh_t G 16) p1)))))] := hD
        refine lv_goto (tgt := 79) hx hb dX3_switchFlag_65 (by decide) ?_
        have e_n_17_0 : zh_swG G k p0 p1 p2 = zh_put G k 1 (zh_set (zh_t G 16) p1) := by unfold zh_swG zh_swV; first | (exfalso; omega; done) | rw [if_pos (by omega), if_pos (by omega)] | rw [if_pos (by omega), if_neg (by omega)] | rw [if_neg (by omega), if_pos (by omega)] | rw [if_neg (by omega), if_neg (by omega)]
        have hP9 : va_P D vwCl [(x, .inr (4, [.ref q, .ref q2, .ref hh, .int (zi_n rd), .int (zi_n br)])), (q, .inr (3, [.ref a, .int (zi_n n)])), (q2, .inr (3, [.ref a2, .int (zi_n k)])), (hh, .inr (2, [.ref q])), (a, .inl (cA, 600, .inl (zi_F F))), (a2, .inl (cB, 600, .inl (zi_F (zh_swG G k p0 p1 p2))))] H := by rw [e_n_17_0]; exact hP
        have hD9 : va_D A [(x, .inr (4, [.ref q, .ref q2, .ref hh, .int (zi_n rd), .int (zi_n br)])), (q, .inr (3, [.ref a, .int (zi_n n)])), (q2, .inr (3, [.ref a2, .int (zi_n k)])), (hh, .inr (2, [.ref q])), (a, .inl (cA, 600, .inl (zi_F F))), (a2, .inl (cB, 600, .inl (zi_F (zh_swG G k p0 p1 p2))))] := by rw [e_n_17_0]; exact hD
        exact W.vret hx hb hr (fun t ht hW => ⟨⟨(), rfl, trivial, by rw [ht]; exact hP9, va_K.moved hW.alike hK, hD9⟩, hS.F ht⟩) hS.2.2 dX3_switchFlag_79
  · refine lv_aload_n hx hb dX3_switchFlag_5 rfl (lv_at hl 0 rfl) ?_
    refine va_get (D := D) (ci := 4) (v := .ref q2) (C := RX3) (T := TX3) (N := 5) hx hb hts in_X3_switchFlag_X3 hown hK hP 0 rfl rfl 1 (by decide) (hts (.fieldLink RX3 16 "ZHeads" "memory" "LZHeads$Row;") (by decide +kernel)) (fun _ h9 => h9) rfl dX3_switchFlag_6 ?_
    refine zr_iconst hx hb dX3_switchFlag_9 ?_
    refine zc_V (As := [.int (zi_n 1)]) (rest := []) ⟨hx, hb, hml, hown, hts⟩ (c_Row_at_k l D q2 a2 cB G k hG (by omega) 1 1 rfl (by omega)) (cwV 1 hts gX3_switchFlag_X2_at rfl rfl rfl (by decide +kernel) ⟨(Nat.le_of_ble_eq_true rfl), (Nat.le_of_ble_eq_true rfl)⟩) hP hK [2, 5] [1] rfl rfl (ci := 3) rfl rfl rfl rfl hl.1 rfl (Nat.le_of_ble_eq_true rfl) dX3_switchFlag_10 ⟨Nat.zero_le _, Nat.zero_le _⟩ (fun r hr1 => ?_)
    obtain ⟨rfl, b_18⟩ := hr1
    refine lv_goto (tgt := 25) hx hb dX3_switchFlag_13 (by decide) ?_
    refine lv_istore (lv' := [(4, .int (zi_n (G 1))), (0, .ref x), (1, .int (zi_n p0)), (2, .int (zi_n p1)), (3, .int (zi_n p2))]) hx hb dX3_switchFlag_25 hl (by decide) rfl (fun ls hl => ?_)
    refine lv_iload_n hx hb dX3_switchFlag_27 rfl (lv_at hl 4 rfl) ?_
    refine zr_if_eq (tgt := 40) hx hb dX3_switchFlag_28 (by decide) (by omega) (fun c_19 => ?_) (fun c_19 => ?_)
    · refine lv_iload hx hb dX3_switchFlag_40 (lv_at hl 0 rfl) ?_
      refine zr_iconst hx hb dX3_switchFlag_42 ?_
      refine lv_iload_n hx hb dX3_switchFlag_43 rfl (lv_at hl 3 rfl) ?_
      refine zr_ishl1 hx hb dX3_switchFlag_44 (by omega) ?_
      have b_20 := zh_pw_b (k := p1) (by omega)
      refine zr_iconst hx hb dX3_switchFlag_45 ?_
      refine zr_ixm1 hx hb dX3_switchFlag_46 ?_
      refine zr_iandn hx hb dX3_switchFlag_47 (by omega) (by omega) ?_
      have b_21 := zh_clr_b (a := G 1) (k := p1) (by omega) (by omega)
      refine lv_istore (lv' := [(5, .int (zi_n (zh_clr (G 1) p1))), (4, .int (zi_n (G 1))), (0, .ref x), (1, .int (zi_n p0)), (2, .int (zi_n p1)), (3, .int (zi_n p2))]) hx hb dX3_switchFlag_48 hl (by decide) rfl (fun ls hl => ?_)
      refine lv_iload_n hx hb dX3_switchFlag_50 rfl (lv_at hl 3 rfl) ?_
      refine zr_iconst hx hb dX3_switchFlag_51 ?_
      refine zr_icmp_ne (tgt := 68) hx hb dX3_switchFlag_52 (by decide) (by omega) (by omega) (fun c_22 => ?_) (fun c_22 => ?_)
      · refine lv_aload_n hx hb dX3_switchFlag_68 rfl (lv_at hl 2 rfl) ?_
        refine va_get (D := D) (ci := 4) (v := .ref q2) (C := RX3) (T := TX3) (N := 5) hx hb hts in_X3_switchFlag_X3 hown hK hP 0 rfl rfl 1 (by decide) (hts (.fieldLink RX3 16 "ZHeads" "memory" "LZHeads$Row;") (by decide +kernel)) (fun _ h9 => h9) rfl dX3_switchFlag_69 ?_
        refine zr_bipush hx hb dX3_switchFlag_72 (by decide) ?_
        refine lv_iload hx hb dX3_switchFlag_74 (lv_at hl 0 rfl) ?_
        refine zc_Vv (As := [.int (zi_n 16), .int (zi_n (zh_clr (G 1) p1))]) (rest := []) (wr := [(x, .inr (4, [.ref q, .ref q2, .ref hh, .int (zi_n rd), .int (zi_n br)])), (q, .inr (3, [.ref a, .int (zi_n n)])), (hh, .inr (2, [.ref q])), (a, .inl (cA, 600, .inl (zi_F F)))]) (wf := fun (_ : Unit) => [(x, .inr (4, [.ref q, .ref q2, .ref hh, .int (zi_n rd), .int (zi_n br)])), (q, .inr (3, [.ref a, .int (zi_n n)])), (q2, .inr (3, [.ref a2, .int (zi_n k)])), (hh, .inr (2, [.ref q])), (a, .inl (cA, 600, .inl (zi_F F))), (a2, .inl (cB, 600, .inl (zi_F (zh_put (zh_put G k 16 ((zh_clr (G 1) p1) / 256)) k (16 + 1) (zh_clr (G 1) p1)))))]) ⟨hx, hb, hml, hown, hts⟩ (c_Row_putTwo l D q2 a2 cB G k hG (by omega) _ 16 (zh_clr (G 1) p1) (by omega) (by omega)) (cwV 2 hts gX3_switchFlag_X2_putTwo rfl rfl rfl (by decide +kernel) ⟨(Nat.le_of_ble_eq_true rfl), (Nat.le_of_ble_eq_true rfl)⟩) hP hD hK hS hA [2, 5] [0, 1, 3, 4] [1] [0, 1, 4, 2, 3, 5] rfl rfl (by decide) rfl (by decide) (by decide) rfl (fun _ => rfl) (fun _ => rfl) (by decide) (ci := 3) rfl rfl rfl rfl hl.1 rfl (Nat.le_of_ble_eq_true rfl) dX3_switchFlag_76 ⟨Nat.zero_le _, Nat.zero_le _⟩ (fun _ hr1 H locs hP hD hS => ?_)
        have hF_23 : zi_By (zh_put (zh_put G k 16 ((zh_clr (G 1) p1) / 256)) k (16 + 1) (zh_clr (G 1) p1)) := zh_put_By (zh_put_By hG _ _ _) _ _ _
        have hP : va_P D vwCl [(x, .inr (4, [.ref q, .ref q2, .ref hh, .int (zi_n rd), .int (zi_n br)])), (q, .inr (3, [.ref a, .int (zi_n n)])), (q2, .inr (3, [.ref a2, .int (zi_n k)])), (hh, .inr (2, [.ref q])), (a, .inl (cA, 600, .inl (zi_F F))), (a2, .inl (cB, 600, .inl (zi_F (zh_put (zh_put G k 16 ((zh_clr (G 1) p1) / 256)) k (16 + 1) (zh_clr (G 1) p1)))))] H := hP
        have hD : va_D A [(x, .inr (4, [.ref q, .ref q2, .ref hh, .int (zi_n rd), .int (zi_n br)])), (q, .inr (3, [.ref a, .int (zi_n n)])), (q2, .inr (3, [.ref a2, .int (zi_n k)])), (hh, .inr (2, [.ref q])), (a, .inl (cA, 600, .inl (zi_F F))), (a2, .inl (cB, 600, .inl (zi_F (zh_put (zh_put G k 16 ((zh_clr (G 1) p1) / 256)) k (16 + 1) (zh_clr (G 1) p1)))))] := hD
        have e_n_24_0 : zh_swG G k p0 p1 p2 = zh_put (zh_put G k 16 ((zh_clr (G 1) p1) / 256)) k (16 + 1) (zh_clr (G 1) p1) := by unfold zh_swG zh_swV; first | (exfalso; omega; done) | rw [if_pos (by omega), if_pos (by omega)] | rw [if_pos (by omega), if_neg (by omega)] | rw [if_neg (by omega), if_pos (by omega)] | rw [if_neg (by omega), if_neg (by omega)]
        have hP9 : va_P D vwCl [(x, .inr (4, [.ref q, .ref q2, .ref hh, .int (zi_n rd), .int (zi_n br)])), (q, .inr (3, [.ref a, .int (zi_n n)])), (q2, .inr (3, [.ref a2, .int (zi_n k)])), (hh, .inr (2, [.ref q])), (a, .inl (cA, 600, .inl (zi_F F))), (a2, .inl (cB, 600, .inl (zi_F (zh_swG G k p0 p1 p2))))] H := by rw [e_n_24_0]; exact hP
        have hD9 : va_D A [(x, .inr (4, [.ref q, .ref q2, .ref hh, .int (zi_n rd), .int (zi_n br)])), (q, .inr (3, [.ref a, .int (zi_n n)])), (q2, .inr (3, [.ref a2, .int (zi_n k)])), (hh, .inr (2, [.ref q])), (a, .inl (cA, 600, .inl (zi_F F))), (a2, .inl (cB, 600, .inl (zi_F (zh_swG G k p0 p1 p2))))] := by rw [e_n_24_0]; exact hD
        exact W.vret hx hb hr (fun t ht hW => ⟨⟨(), rfl, trivial, by rw [ht]; exact hP9, va_K.moved hW.alike hK, hD9⟩, hS.F ht⟩) hS.2.2 dX3_switchFlag_79
      · refine lv_aload_n hx hb dX3_switchFlag_55 rfl (lv_at hl 2 rfl) ?_
        refine va_get (D := D) (ci := 4) (v := .ref q2) (C := RX3) (T := TX3) (N := 5) hx hb hts in_X3_switchFlag_X3 hown hK hP 0 rfl rfl 1 (by decide) (hts (.fieldLink RX3 16 "ZHeads" "memory" "LZHeads$Row;") (by decide +kernel)) (fun _ h9 => h9) rfl dX3_switchFlag_56 ?_
        refine zr_iconst hx hb dX3_switchFlag_59 ?_
        refine lv_iload hx hb dX3_switchFlag_60 (lv_at hl 0 rfl) ?_
        refine zc_Vv (As := [.int (zi_n 1), .int (zi_n (zh_clr (G 1) p1))]) (rest := []) (wr := [(x, .inr (4, [.ref q, .ref q2, .ref hh, .int (zi_n rd), .int (zi_n br)])), (q, .inr (3, [.ref a, .int (zi_n n)])), (hh, .inr (2, [.ref q])), (a, .inl (cA, 600, .inl (zi_F F)))]) (wf := fun (_ : Unit) => [(x, .inr (4, [.ref q, .ref q2, .ref hh, .int (zi_n rd), .int (zi_n br)])), (q, .inr (3, [.ref a, .int (zi_n n)])), (q2, .inr (3, [.ref a2, .int (zi_n k)])), (hh, .inr (2, [.ref q])), (a, .inl (cA, 600, .inl (zi_F F))), (a2, .inl (cB, 600, .inl (zi_F (zh_put G k 1 (zh_clr (G 1) p1)))))]) ⟨hx, hb, hml, hown, hts⟩ (c_Row_put l D q2 a2 cB G k hG (by omega) _ 1 (zh_clr (G 1) p1) (by omega) (by omega)) (cwV 2 hts gX3_switchFlag_X2_put rfl rfl rfl (by decide +kernel) ⟨(Nat.le_of_ble_eq_true rfl), (Nat.le_of_ble_eq_true rfl)⟩) hP hD hK hS hA [2, 5] [0, 1, 3, 4] [1] [0, 1, 4, 2, 3, 5] rfl rfl (by decide) rfl (by decide) (by decide) rfl (fun _ => rfl) (fun _ => rfl) (by decide) (ci := 3) rfl rfl rfl rfl hl.1 rfl (Nat.le_of_ble_eq_true rfl) dX3_switchFlag_62 ⟨Nat.zero_le _, Nat.zero_le _⟩ (fun _ hr1 H locs hP hD hS => ?_)
        have hF_25 : zi_By (zh_put G k 1 (zh_clr (G 1) p1)) := zh_put_By hG _ _ _
        have hP : va_P D vwCl [(x, .inr (4, [.ref q, .ref q2, .ref hh, .int (zi_n rd), .int (zi_n br)])), (q, .inr (3, [.ref a, .int (zi_n n)])), (q2, .inr (3, [.ref a2, .int (zi_n k)])), (hh, .inr (2, [.ref q])), (a, .inl (cA, 600, .inl (zi_F F))), (a2, .inl (cB, 600, .inl (zi_F (zh_put G k 1 (zh_clr (G 1) p1)))))] H := hP
        have hD : va_D A [(x, .inr (4, [.ref q, .ref q2, .ref hh, .int (zi_n rd), .int (zi_n br)])), (q, .inr (3, [.ref a, .int (zi_n n)])), (q2, .inr (3, [.ref a2, .int (zi_n k)])), (hh, .inr (2, [.ref q])), (a, .inl (cA, 600, .inl (zi_F F))), (a2, .inl (cB, 600, .inl (zi_F (zh_put G k 1 (zh_clr (G 1) p1)))))] := hD
        refine lv_goto (tgt := 79) hx hb dX3_switchFlag_65 (by decide) ?_
        have e_n_26_0 : zh_swG G k p0 p1 p2 = zh_put G k 1 (zh_clr (G 1) p1) := by unfold zh_swG zh_swV; first | (exfalso; omega; done) | rw [if_pos (by omega), if_pos (by omega)] | rw [if_pos (by omega), if_neg (by omega)] | rw [if_neg (by omega), if_pos (by omega)] | rw [if_neg (by omega), if_neg (by omega)]
        have hP9 : va_P D vwCl [(x, .inr (4, [.ref q, .ref q2, .ref hh, .int (zi_n rd), .int (zi_n br)])), (q, .inr (3, [.ref a, .int (zi_n n)])), (q2, .inr (3, [.ref a2, .int (zi_n k)])), (hh, .inr (2, [.ref q])), (a, .inl (cA, 600, .inl (zi_F F))), (a2, .inl (cB, 600, .inl (zi_F (zh_swG G k p0 p1 p2))))] H := by rw [e_n_26_0]; exact hP
        have hD9 : va_D A [(x, .inr (4, [.ref q, .ref q2, .ref hh, .int (zi_n rd), .int (zi_n br)])), (q, .inr (3, [.ref a, .int (zi_n n)])), (q2, .inr (3, [.ref a2, .int (zi_n k)])), (hh, .inr (2, [.ref q])), (a, .inl (cA, 600, .inl (zi_F F))), (a2, .inl (cB, 600, .inl (zi_F (zh_swG G k p0 p1 p2))))] := by rw [e_n_26_0]; exact hD
        exact W.vret hx hb hr (fun t ht hW => ⟨⟨(), rfl, trivial, by rw [ht]; exact hP9, va_K.moved hW.alike hK, hD9⟩, hS.F ht⟩) hS.2.2 dX3_switchFlag_79
    · refine lv_iload hx hb dX3_switchFlag_31 (lv_at hl 0 rfl) ?_
      refine zr_iconst hx hb dX3_switchFlag_33 ?_
      refine lv_iload_n hx hb dX3_switchFlag_34 rfl (lv_at hl 3 rfl) ?_
      refine zr_ishl1 hx hb dX3_switchFlag_35 (by omega) ?_
      have b_27 := zh_pw_b (k := p1) (by omega)
      refine zr_iorp hx hb dX3_switchFlag_36 (by omega) (by omega) ?_
      have b_28 := zh_set_b (a := G 1) (k := p1) (by omega) (by omega)
      refine lv_goto (tgt := 48) hx hb dX3_switchFlag_37 (by decide) ?_
      refine lv_istore (lv' := [(5, .int (zi_n (zh_set (G 1) p1))), (4, .int (zi_n (G 1))), (0, .ref x), (1, .int (zi_n p0)), (2, .int (zi_n p1)), (3, .int (zi_n p2))]) hx hb dX3_switchFlag_48 hl (by decide) rfl (fun ls hl => ?_)
      refine lv_iload_n hx hb dX3_switchFlag_50 rfl (lv_at hl 3 rfl) ?_
      refine zr_iconst hx hb dX3_switchFlag_51 ?_
      refine zr_icmp_ne (tgt := 68) hx hb dX3_switchFlag_52 (by decide) (by omega) (by omega) (fun c_29 => ?_) (fun c_29 => ?_)
      · refine lv_aload_n hx hb dX3_switchFlag_68 rfl (lv_at hl 2 rfl) ?_
        refine va_get (D := D) (ci := 4) (v := .ref q2) (C := RX3) (T := TX3) (N := 5) hx hb hts in_X3_switchFlag_X3 hown hK hP 0 rfl rfl 1 (by decide) (hts (.fieldLink RX3 16 "ZHeads" "memory" "LZHeads$Row;") (by decide +kernel)) (fun _ h9 => h9) rfl dX3_switchFlag_69 ?_
        refine zr_bipush hx hb dX3_switchFlag_72 (by decide) ?_
        refine lv_iload hx hb dX3_switchFlag_74 (lv_at hl 0 rfl) ?_
        refine zc_Vv (As := [.int (zi_n 16), .int (zi_n (zh_set (G 1) p1))]) (rest := []) (wr := [(x, .inr (4, [.ref q, .ref q2, .ref hh, .int (zi_n rd), .int (zi_n br)])), (q, .inr (3, [.ref a, .int (zi_n n)])), (hh, .inr (2, [.ref q])), (a, .inl (cA, 600, .inl (zi_F F)))]) (wf := fun (_ : Unit) => [(x, .inr (4, [.ref q, .ref q2, .ref hh, .int (zi_n rd), .int (zi_n br)])), (q, .inr (3, [.ref a, .int (zi_n n)])), (q2, .inr (3, [.ref a2, .int (zi_n k)])), (hh, .inr (2, [.ref q])), (a, .inl (cA, 600, .inl (zi_F F))), (a2, .inl (cB, 600, .inl (zi_F (zh_put (zh_put G k 16 ((zh_set (G 1) p1) / 256)) k (16 + 1) (zh_set (G 1) p1)))))]) ⟨hx, hb, hml, hown, hts⟩ (c_Row_putTwo l D q2 a2 cB G k hG (by omega) _ 16 (zh_set (G 1) p1) (by omega) (by omega)) (cwV 2 hts gX3_switchFlag_X2_putTwo rfl rfl rfl (by decide +kernel) ⟨(Nat.le_of_ble_eq_true rfl), (Nat.le_of_ble_eq_true rfl)⟩) hP hD hK hS hA [2, 5] [0, 1, 3, 4] [1] [0, 1, 4, 2, 3, 5] rfl rfl (by decide) rfl (by decide) (by decide) rfl (fun _ => rfl) (fun _ => rfl) (by decide) (ci := 3) rfl rfl rfl rfl hl.1 rfl (Nat.le_of_ble_eq_true rfl) dX3_switchFlag_76 ⟨Nat.zero_le _, Nat.zero_le _⟩ (fun _ hr1 H locs hP hD hS => ?_)
        have hF_30 : zi_By (zh_put (zh_put G k 16 ((zh_set (G 1) p1) / 256)) k (16 + 1) (zh_set (G 1) p1)) := zh_put_By (zh_put_By hG _ _ _) _ _ _
        have hP : va_P D vwCl [(x, .inr (4, [.ref q, .ref q2, .ref hh, .int (zi_n rd), .int (zi_n br)])), (q, .inr (3, [.ref a, .int (zi_n n)])), (q2, .inr (3, [.ref a2, .int (zi_n k)])), (hh, .inr (2, [.ref q])), (a, .inl (cA, 600, .inl (zi_F F))), (a2, .inl (cB, 600, .inl (zi_F (zh_put (zh_put G k 16 ((zh_set (G 1) p1) / 256)) k (16 + 1) (zh_set (G 1) p1)))))] H := hP
        have hD : va_D A [(x, .inr (4, [.ref q, .ref q2, .ref hh, .int (zi_n rd), .int (zi_n br)])), (q, .inr (3, [.ref a, .int (zi_n n)])), (q2, .inr (3, [.ref a2, .int (zi_n k)])), (hh, .inr (2, [.ref q])), (a, .inl (cA, 600, .inl (zi_F F))), (a2, .inl (cB, 600, .inl (zi_F (zh_put (zh_put G k 16 ((zh_set (G 1) p1) / 256)) k (16 + 1) (zh_set (G 1) p1)))))] := hD
        have e_n_31_0 : zh_swG G k p0 p1 p2 = zh_put (zh_put G k 16 ((zh_set (G 1) p1) / 256)) k (16 + 1) (zh_set (G 1) p1) := by unfold zh_swG zh_swV; first | (exfalso; omega; done) | rw [if_pos (by omega), if_pos (by omega)] | rw [if_pos (by omega), if_neg (by omega)] | rw [if_neg (by omega), if_pos (by omega)] | rw [if_neg (by omega), if_neg (by omega)]
        have hP9 : va_P D vwCl [(x, .inr (4, [.ref q, .ref q2, .ref hh, .int (zi_n rd), .int (zi_n br)])), (q, .inr (3, [.ref a, .int (zi_n n)])), (q2, .inr (3, [.ref a2, .int (zi_n k)])), (hh, .inr (2, [.ref q])), (a, .inl (cA, 600, .inl (zi_F F))), (a2, .inl (cB, 600, .inl (zi_F (zh_swG G k p0 p1 p2))))] H := by rw [e_n_31_0]; exact hP
        have hD9 : va_D A [(x, .inr (4, [.ref q, .ref q2, .ref hh, .int (zi_n rd), .int (zi_n br)])), (q, .inr (3, [.ref a, .int (zi_n n)])), (q2, .inr (3, [.ref a2, .int (zi_n k)])), (hh, .inr (2, [.ref q])), (a, .inl (cA, 600, .inl (zi_F F))), (a2, .inl (cB, 600, .inl (zi_F (zh_swG G k p0 p1 p2))))] := by rw [e_n_31_0]; exact hD
        exact W.vret hx hb hr (fun t ht hW => ⟨⟨(), rfl, trivial, by rw [ht]; exact hP9, va_K.moved hW.alike hK, hD9⟩, hS.F ht⟩) hS.2.2 dX3_switchFlag_79
      · refine lv_aload_n hx hb dX3_switchFlag_55 rfl (lv_at hl 2 rfl) ?_
        refine va_get (D := D) (ci := 4) (v := .ref q2) (C := RX3) (T := TX3) (N := 5) hx hb hts in_X3_switchFlag_X3 hown hK hP 0 rfl rfl 1 (by decide) (hts (.fieldLink RX3 16 "ZHeads" "memory" "LZHeads$Row;") (by decide +kernel)) (fun _ h9 => h9) rfl dX3_switchFlag_56 ?_
        refine zr_iconst hx hb dX3_switchFlag_59 ?_
        refine lv_iload hx hb dX3_switchFlag_60 (lv_at hl 0 rfl) ?_
        refine zc_Vv (As := [.int (zi_n 1), .int (zi_n (zh_set (G 1) p1))]) (rest := []) (wr := [(x, .inr (4, [.ref q, .ref q2, .ref hh, .int (zi_n rd), .int (zi_n br)])), (q, .inr (3, [.ref a, .int (zi_n n)])), (hh, .inr (2, [.ref q])), (a, .inl (cA, 600, .inl (zi_F F)))]) (wf := fun (_ : Unit) => [(x, .inr (4, [.ref q, .ref q2, .ref hh, .int (zi_n rd), .int (zi_n br)])), (q, .inr (3, [.ref a, .int (zi_n n)])), (q2, .inr (3, [.ref a2, .int (zi_n k)])), (hh, .inr (2, [.ref q])), (a, .inl (cA, 600, .inl (zi_F F))), (a2, .inl (cB, 600, .inl (zi_F (zh_put G k 1 (zh_set (G 1) p1)))))]) ⟨hx, hb, hml, hown, hts⟩ (c_Row_put l D q2 a2 cB G k hG (by omega) _ 1 (zh_set (G 1) p1) (by omega) (by omega)) (cwV 2 hts gX3_switchFlag_X2_put rfl rfl rfl (by decide +kernel) ⟨(Nat.le_of_ble_eq_true rfl), (Nat.le_of_ble_eq_true rfl)⟩) hP hD hK hS hA [2, 5] [0, 1, 3, 4] [1] [0, 1, 4, 2, 3, 5] rfl rfl (by decide) rfl (by decide) (by decide) rfl (fun _ => rfl) (fun _ => rfl) (by decide) (ci := 3) rfl rfl rfl rfl hl.1 rfl (Nat.le_of_ble_eq_true rfl) dX3_switchFlag_62 ⟨Nat.zero_le _, Nat.zero_le _⟩ (fun _ hr1 H locs hP hD hS => ?_)
        have hF_32 : zi_By (zh_put G k 1 (zh_set (G 1) p1)) := zh_put_By hG _ _ _
        have hP : va_P D vwCl [(x, .inr (4, [.ref q, .ref q2, .ref hh, .int (zi_n rd), .int (zi_n br)])), (q, .inr (3, [.ref a, .int (zi_n n)])), (q2, .inr (3, [.ref a2, .int (zi_n k)])), (hh, .inr (2, [.ref q])), (a, .inl (cA, 600, .inl (zi_F F))), (a2, .inl (cB, 600, .inl (zi_F (zh_put G k 1 (zh_set (G 1) p1)))))] H := hP
        have hD : va_D A [(x, .inr (4, [.ref q, .ref q2, .ref hh, .int (zi_n rd), .int (zi_n br)])), (q, .inr (3, [.ref a, .int (zi_n n)])), (q2, .inr (3, [.ref a2, .int (zi_n k)])), (hh, .inr (2, [.ref q])), (a, .inl (cA, 600, .inl (zi_F F))), (a2, .inl (cB, 600, .inl (zi_F (zh_put G k 1 (zh_set (G 1) p1)))))] := hD
        refine lv_goto (tgt := 79) hx hb dX3_switchFlag_65 (by decide) ?_
        have e_n_33_0 : zh_swG G k p0 p1 p2 = zh_put G k 1 (zh_set (G 1) p1) := by unfold zh_swG zh_swV; first | (exfalso; omega; done) | rw [if_pos (by omega), if_pos (by omega)] | rw [if_pos (by omega), if_neg (by omega)] | rw [if_neg (by omega), if_pos (by omega)] | rw [if_neg (by omega), if_neg (by omega)]
        have hP9 : va_P D vwCl [(x, .inr (4, [.ref q, .ref q2, .ref hh, .int (zi_n rd), .int (zi_n br)])), (q, .inr (3, [.ref a, .int (zi_n n)])), (q2, .inr (3, [.ref a2, .int (zi_n k)])), (hh, .inr (2, [.ref q])), (a, .inl (cA, 600, .inl (zi_F F))), (a2, .inl (cB, 600, .inl (zi_F (zh_swG G k p0 p1 p2))))] H := by rw [e_n_33_0]; exact hP
        have hD9 : va_D A [(x, .inr (4, [.ref q, .ref q2, .ref hh, .int (zi_n rd), .int (zi_n br)])), (q, .inr (3, [.ref a, .int (zi_n n)])), (q2, .inr (3, [.ref a2, .int (zi_n k)])), (hh, .inr (2, [.ref q])), (a, .inl (cA, 600, .inl (zi_F F))), (a2, .inl (cB, 600, .inl (zi_F (zh_swG G k p0 p1 p2))))] := by rw [e_n_33_0]; exact hD
        exact W.vret hx hb hr (fun t ht hW => ⟨⟨(), rfl, trivial, by rw [ht]; exact hP9, va_K.moved hW.alike hK, hD9⟩, hS.F ht⟩) hS.2.2 dX3_switchFlag_79

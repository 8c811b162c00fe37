set_option maxHeartbeats 4000000 in
set_option maxRecDepth 100000 in
theorem c_Z_isByte (l : Launch) (p0 : Int) (h0 : zi_R p0) : Met l yX3_isByte wsX3_isByte ({ frames := 0, cells := 0, slots := 0, locals := 0 }) (va_Pc [.int (zi_n p0)] (fun _ => True)) (vp_Si (fun r => (r = zi_n 1 ∧ (0 ≤ p0 ∧ p0 ≤ 255)) ∨ (r = zi_n 0 ∧ ¬ (0 ≤ p0 ∧ p0 ≤ 255)))) 0 0 (fun _ => False) := by
  refine Met.ofW (cc := cX3_isByte) (maxL := 1) (ret := (some .boolean)) (by decide) rfl ?_
  intro p e s m args below meth c s₁ B hml hv
  obtain ⟨rfl, -⟩ := hv
  have hx := B.exec
  have hb := B.bytes
  have hr := B.returns
  have hts := atoms_spec (ws := wsX3_isByte) B.pre
  have hown : s.vm.findClass RX3 = some m.cls := findClass_of_methodNamed B.named
  have hlocks := B.notSynchronized
  have hl := lv_entry ([.int (zi_n p0)]) (n := 1) (Nat.le_of_ble_eq_true rfl)
  rw [lg_entry_eq]
  generalize (lg_sl ([.int (zi_n p0)]) ++ List.replicate (1 - (lg_sl ([.int (zi_n p0)])).length) Slot.unset).toArray = ls at hl ⊢
  have hl : lv_has ls 1 [(0, .int (zi_n p0))] := hl
  refine lv_iload_n hx hb dX3_isByte_0 rfl (lv_at hl 0 rfl) ?_
  refine zr_if_lt (tgt := 15) hx hb dX3_isByte_1 (by decide) (by omega) (fun c_1 => ?_) (fun c_1 => ?_)
  · refine zr_iconst hx hb dX3_isByte_15 ?_
    exact W.zret (v := zi_n 0) (ty := .boolean) hx hb hr zl_b0 (fun t ht hW => ⟨_, rfl, zl_f (by omega), ht⟩) (fun q hq => nomatch hq) dX3_isByte_16
  · refine lv_iload_n hx hb dX3_isByte_4 rfl (lv_at hl 0 rfl) ?_
    refine zr_sipush hx hb dX3_isByte_5 (by decide) ?_
    refine zr_icmp_gt (tgt := 15) hx hb dX3_isByte_8 (by decide) (by omega) (by omega) (fun c_2 => ?_) (fun c_2 => ?_)
    · refine zr_iconst hx hb dX3_isByte_15 ?_
      exact W.zret (v := zi_n 0) (ty := .boolean) hx hb hr zl_b0 (fun t ht hW => ⟨_, rfl, zl_f (by omega), ht⟩) (fun q hq => nomatch hq) dX3_isByte_16
    · refine zr_iconst hx hb dX3_isByte_11 ?_
      refine lv_goto (tgt := 16) hx hb dX3_isByte_12 (by decide) ?_
      exact W.zret (v := zi_n 1) (ty := .boolean) hx hb hr zl_b1 (fun t ht hW => ⟨_, rfl, zl_t (by omega), ht⟩) (fun q hq => nomatch hq) dX3_isByte_16

set_option maxHeartbeats 4000000 in
set_option maxRecDepth 100000 in
theorem c_Z_isTwo (l : Launch) (p0 : Int) (h0 : zi_R p0) : Met l yX3_isTwo wsX3_isTwo ({ frames := 0, cells := 0, slots := 0, locals := 0 }) (va_Pc [.int (zi_n p0)] (fun _ => True)) (vp_Si (fun r => (r = zi_n 1 ∧ (0 ≤ p0 ∧ p0 ≤ 65535)) ∨ (r = zi_n 0 ∧ ¬ (0 ≤ p0 ∧ p0 ≤ 65535)))) 0 0 (fun _ => False) := by
  refine Met.ofW (cc := cX3_isTwo) (maxL := 1) (ret := (some .boolean)) (by decide) rfl ?_
  intro p e s m args below meth c s₁ B hml hv
  obtain ⟨rfl, -⟩ := hv
  have hx := B.exec
  have hb := B.bytes
  have hr := B.returns
  have hts := atoms_spec (ws := wsX3_isTwo) B.pre
  have hown : s.vm.findClass RX3 = some m.cls := findClass_of_methodNamed B.named
  have hlocks := B.notSynchronized
  have hl := lv_entry ([.int (zi_n p0)]) (n := 1) (Nat.le_of_ble_eq_true rfl)
  rw [lg_entry_eq]
  generalize (lg_sl ([.int (zi_n p0)]) ++ List.replicate (1 - (lg_sl ([.int (zi_n p0)])).length) Slot.unset).toArray = ls at hl ⊢
  have hl : lv_has ls 1 [(0, .int (zi_n p0))] := hl
  refine lv_iload_n hx hb dX3_isTwo_0 rfl (lv_at hl 0 rfl) ?_
  refine zr_if_lt (tgt := 14) hx hb dX3_isTwo_1 (by decide) (by omega) (fun c_1 => ?_) (fun c_1 => ?_)
  · refine zr_iconst hx hb dX3_isTwo_14 ?_
    exact W.zret (v := zi_n 0) (ty := .boolean) hx hb hr zl_b0 (fun t ht hW => ⟨_, rfl, zl_f (by omega), ht⟩) (fun q hq => nomatch hq) dX3_isTwo_15
  · refine lv_iload_n hx hb dX3_isTwo_4 rfl (lv_at hl 0 rfl) ?_
    refine zr_ldc (n := 65535) hx hb hown (hts (.constant RX3 173 (65535)) (by decide +kernel)) (by decide) dX3_isTwo_5 ?_
    refine zr_icmp_gt (tgt := 14) hx hb dX3_isTwo_7 (by decide) (by omega) (by omega) (fun c_2 => ?_) (fun c_2 => ?_)
    · refine zr_iconst hx hb dX3_isTwo_14 ?_
      exact W.zret (v := zi_n 0) (ty := .boolean) hx hb hr zl_b0 (fun t ht hW => ⟨_, rfl, zl_f (by omega), ht⟩) (fun q hq => nomatch hq) dX3_isTwo_15
    · refine zr_iconst hx hb dX3_isTwo_10 ?_
      refine lv_goto (tgt := 15) hx hb dX3_isTwo_11 (by decide) ?_
      exact W.zret (v := zi_n 1) (ty := .boolean) hx hb hr zl_b1 (fun t ht hW => ⟨_, rfl, zl_t (by omega), ht⟩) (fun q hq => nomatch hq) dX3_isTwo_15

theorem in_X3_append_X3 : ∀ w ∈ u_ws RX3 TX3 5, w ∈ wsX3_append := by decide +kernel
set_option maxHeartbeats 4000000 in
set_option maxRecDepth 100000 in
theorem c_Z_append (l : Launch) (D : va_G) (x q q2 hh a a2 : Nat) (cA cB : ClassId) (F G : Nat → Int) (n k rd br : Int) (hF : zi_By F) (hn : 0 ≤ n ∧ n ≤ 600) (hG : zi_By G) (hk : 0 ≤ k ∧ k ≤ 600) (hrd : rd = 0 ∨ rd = 1) (hbr : 0 ≤ br ∧ br ≤ 15) (sz : Nat) (p0 : Int) (p1 : Int) (hp : 1 ≤ p0 ∧ p0 ≤ 600) (hq : 0 ≤ p1 ∧ p1 ≤ 255) : Met l yX3_append wsX3_append ({ frames := 1, cells := 0, slots := 0, locals := 21 }) (va_Pc [.ref x, .int (zi_n p0), .int (zi_n p1)] (zp_P D vwCl sz [(x, .inr (4, [.ref q, .ref q2, .ref hh, .int (zi_n rd), .int (zi_n br)])), (q, .inr (3, [.ref a, .int (zi_n n)])), (q2, .inr (3, [.ref a2, .int (zi_n k)])), (hh, .inr (2, [.ref q])), (a, .inl (cA, 600, .inl (zi_F F))), (a2, .inl (cB, 600, .inl (zi_F G)))] [(cA, .int), (cB, .int)])) (va_Qi (fun (r : Int32) (_ : Unit) => r = zi_n (zh_apE n p0) ∧ -14 ≤ (zh_apE n p0) ∧ (zh_apE n p0) ≤ 600) (fun (_ : Unit) => zp_B D vwCl [(cA, .int), (cB, .int)] (va_A [(x, .inr (4, [.ref q, .ref q2, .ref hh, .int (zi_n rd), .int (zi_n br)])), (q, .inr (3, [.ref a, .int (zi_n n)])), (q2, .inr (3, [.ref a2, .int (zi_n k)])), (hh, .inr (2, [.ref q])), (a, .inl (cA, 600, .inl (zi_F F))), (a2, .inl (cB, 600, .inl (zi_F G)))] sz) [(x, .inr (4, [.ref q, .ref q2, .ref hh, .int (zi_n (zh_apR n rd p0)), .int (zi_n br)])), (q, .inr (3, [.ref a, .int (zi_n (zh_apN n p0))])), (q2, .inr (3, [.ref a2, .int (zi_n k)])), (hh, .inr (2, [.ref q])), (a, .inl (cA, 600, .inl (zi_F (zh_apF F n p0 p1)))), (a2, .inl (cB, 600, .inl (zi_F G)))]) (va_A [(x, .inr (4, [.ref q, .ref q2, .ref hh, .int (zi_n rd), .int (zi_n br)])), (q, .inr (3, [.ref a, .int (zi_n n)])), (q2, .inr (3, [.ref a2, .int (zi_n k)])), (hh, .inr (2, [.ref q])), (a, .inl (cA, 600, .inl (zi_F F))), (a2, .inl (cB, 600, .inl (zi_F G)))] sz)) 0 0 (va_A [(x, .inr (4, [.ref q, .ref q2, .ref hh, .int (zi_n rd), .int (zi_n br)])), (q, .inr (3, [.ref a, .int (zi_n n)])), (q2, .inr (3, [.ref a2, .int (zi_n k)])), (hh, .inr (2, [.ref q])), (a, .inl (cA, 600, .inl (zi_F F))), (a2, .inl (cB, 600, .inl (zi_F G)))] sz) := by
  refine Met.ofW (cc := cX3_append) (maxL := 4) (ret := (some .int)) (by decide) rfl ?_
  intro p e s m args below meth c s₁ B hml hv
  obtain ⟨rfl, hsz, hP, hK, hD0⟩ := hv
  have hx := B.exec
  have hb := B.bytes
  have hr := B.returns
  have hts := atoms_spec (ws := wsX3_append) B.pre
  have hown : s.vm.findClass RX3 = some m.cls := findClass_of_methodNamed B.named
  have hlocks := B.notSynchronized
  subst hsz
  have hD := hD0.self (sz := s.heap.size)
  generalize hAe : va_A [(x, .inr (4, [.ref q, .ref q2, .ref hh, .int (zi_n rd), .int (zi_n br)])), (q, .inr (3, [.ref a, .int (zi_n n)])), (q2, .inr (3, [.ref a2, .int (zi_n k)])), (hh, .inr (2, [.ref q])), (a, .inl (cA, 600, .inl (zi_F F))), (a2, .inl (cB, 600, .inl (zi_F G)))] s.heap.size = A at hD ⊢
  have hA : ∀ q : Nat, s.heap.size ≤ q → A q := fun q h => by rw [← hAe]; exact Or.inr h
  have hS : va_S A s.heap s.heap [] := va_S.rf
  have hP : va_P D vwCl [(x, .inr (4, [.ref q, .ref q2, .ref hh, .int (zi_n rd), .int (zi_n br)])), (q, .inr (3, [.ref a, .int (zi_n n)])), (q2, .inr (3, [.ref a2, .int (zi_n k)])), (hh, .inr (2, [.ref q])), (a, .inl (cA, 600, .inl (zi_F F))), (a2, .inl (cB, 600, .inl (zi_F G)))] s.heap := hP
  have hl := lv_entry ([.ref x, .int (zi_n p0), .int (zi_n p1)]) (n := 4) (Nat.le_of_ble_eq_true rfl)
  rw [lg_entry_eq]
  generalize (lg_sl ([.ref x, .int (zi_n p0), .int (zi_n p1)]) ++ List.replicate (4 - (lg_sl ([.ref x, .int (zi_n p0), .int (zi_n p1)])).length) Slot.unset).toArray = ls at hl ⊢
  have hl : lv_has ls 4 [(0, .ref x), (1, .int (zi_n p0)), (2, .int (zi_n p1))] := hl
  refine lv_iload_n hx hb dX3_append_0 rfl (lv_at hl 1 rfl) ?_
  refine lv_aload_n hx hb dX3_append_1 rfl (lv_at hl 0 rfl) ?_
  refine va_get (D := D) (ci := 4) (v := .ref q) (C := RX3) (T := TX3) (N := 5) hx hb hts in_X3_append_X3 hown hK hP 0 rfl rfl 0 (by decide) (hts (.fieldLink RX3 10 "ZHeads" "file" "LZHeads$Row;") (by decide +kernel)) (fun _ h9 => h9) rfl dX3_append_2 ?_
  refine zc_V (As := []) (rest := [.int (zi_n p0)]) ⟨hx, hb, hml, hown, hts⟩ (c_Row_room l D q a cA F n hF (by omega)) (cwV 0 hts gX3_append_X2_room rfl rfl rfl (by decide +kernel) ⟨(Nat.le_of_ble_eq_true rfl), (Nat.le_of_ble_eq_true rfl)⟩) hP hK [1, 4] [0] rfl rfl (ci := 3) rfl rfl rfl rfl hl.1 rfl (Nat.le_of_ble_eq_true rfl) dX3_append_5 ⟨Nat.zero_le _, Nat.zero_le _⟩ (fun r hr1 => ?_)
  obtain ⟨rfl, b_1⟩ := hr1
  refine zr_icmp_le (tgt := 14) hx hb dX3_append_8 (by decide) (by omega) (by omega) (fun c_2 => ?_) (fun c_2 => ?_)
  · refine zr_iconst hx hb dX3_append_14 ?_
    refine lv_istore_n (lv' := [(3, .int (zi_n 0)), (0, .ref x), (1, .int (zi_n p0)), (2, .int (zi_n p1))]) hx hb dX3_append_15 rfl hl (by decide) rfl (fun ls hl => ?_)
    have key : ∀ (N : Nat) (i : Int), (0 ≤ i) → (i ≤ p0) → p0 - i < N → ∀ (H : Heap) (locs : List Loc), va_P D vwCl [(x, .inr (4, [.ref q, .ref q2, .ref hh, .int (zi_n rd), .int (zi_n br)])), (q, .inr (3, [.ref a, .int (zi_n (n + i))])), (q2, .inr (3, [.ref a2, .int (zi_n k)])), (hh, .inr (2, [.ref q])), (a, .inl (cA, 600, .inl (zi_F (zh_fl F n i p1)))), (a2, .inl (cB, 600, .inl (zi_F G)))] H → va_D A [(x, .inr (4, [.ref q, .ref q2, .ref hh, .int (zi_n rd), .int (zi_n br)])), (q, .inr (3, [.ref a, .int (zi_n (n + i))])), (q2, .inr (3, [.ref a2, .int (zi_n k)])), (hh, .inr (2, [.ref q])), (a, .inl (cA, 600, .inl (zi_F (zh_fl F n i p1)))), (a2, .inl (cB, 600, .inl (zi_F G)))] → va_S A s.heap H locs → ∀ ls : Array Slot, lv_has ls 4 [(3, .int (zi_n i)), (0, .ref x), (1, .int (zi_n p0)), (2, .int (zi_n p1))] → W p l e (headSpec wsX3_append ({ frames := 1, cells := 0, slots := 0, locals := 21 })).room s m ([.ref x, .int (zi_n p0), .int (zi_n p1)] : List Value).toArray below meth c H locs 0 0 (MQ below (va_Qi (fun (r : Int32) (_ : Unit) => r = zi_n (zh_apE n p0) ∧ -14 ≤ (zh_apE n p0) ∧ (zh_apE n p0) ≤ 600) (fun (_ : Unit) => zp_B D vwCl [(cA, .int), (cB, .int)] A [(x, .inr (4, [.ref q, .ref q2, .ref hh, .int (zi_n (zh_apR n rd p0)), .int (zi_n br)])), (q, .inr (3, [.ref a, .int (zi_n (zh_apN n p0))])), (q2, .inr (3, [.ref a2, .int (zi_n k)])), (hh, .inr (2, [.ref q])), (a, .inl (cA, 600, .inl (zi_F (zh_apF F n p0 p1)))), (a2, .inl (cB, 600, .inl (zi_F G)))]) A) ([.ref x, .int (zi_n p0), .int (zi_n p1)] : List Value).toArray s 0 0 A) (F0 m 16 ls []) := by
      intro N
      induction N with
      | zero => intro i  h1 h2 hm H locs hP hD hS ls hl; exfalso; omega
      | succ N ih =>
        intro i  h1 h2 hm H locs hP hD hS ls hl
        have hFi : zi_By (zh_fl F n i p1) := zh_fl_By hF n i (by omega)
        refine lv_iload_n hx hb dX3_append_16 rfl (lv_at hl 0 rfl) ?_
        refine lv_iload_n hx hb dX3_append_17 rfl (lv_at hl 2 rfl) ?_
        refine zr_icmp_ge (tgt := 35) hx hb dX3_append_18 (by decide) (by omega) (by omega) (fun c_3 => ?_) (fun c_3 => ?_)
        · refine lv_aload_n hx hb dX3_append_35 rfl (lv_at hl 1 rfl) ?_
          refine zr_iconst hx hb dX3_append_36 ?_
          refine va_put (D := D) (ci := 4) (v := .int (zi_n 0)) (ty := .boolean) (C := RX3) (T := TX3) (N := 5) hx hb hts in_X3_append_X3 tyX3 tyX3_ok nmX3 hown hK hP hD hS 0 rfl rfl 3 (by decide) (hts (.fieldLink RX3 28 "ZHeads" "isRead" "Z") (by decide +kernel)) (fun _ h9 => h9) rfl (by decide +kernel) (by decide) rfl (Nat.le_of_ble_eq_true rfl) dX3_append_37 (fun H locs hP hD hS => ?_)
          have hP : va_P D vwCl [(x, .inr (4, [.ref q, .ref q2, .ref hh, .int (zi_n 0), .int (zi_n br)])), (q, .inr (3, [.ref a, .int (zi_n (n + i))])), (q2, .inr (3, [.ref a2, .int (zi_n k)])), (hh, .inr (2, [.ref q])), (a, .inl (cA, 600, .inl (zi_F (zh_fl F n i p1)))), (a2, .inl (cB, 600, .inl (zi_F G)))] H := hP
          have hD : va_D A [(x, .inr (4, [.ref q, .ref q2, .ref hh, .int (zi_n 0), .int (zi_n br)])), (q, .inr (3, [.ref a, .int (zi_n (n + i))])), (q2, .inr (3, [.ref a2, .int (zi_n k)])), (hh, .inr (2, [.ref q])), (a, .inl (cA, 600, .inl (zi_F (zh_fl F n i p1)))), (a2, .inl (cB, 600, .inl (zi_F G)))] := hD
          refine lv_aload_n hx hb dX3_append_40 rfl (lv_at hl 1 rfl) ?_
          refine va_get (D := D) (ci := 4) (v := .ref q) (C := RX3) (T := TX3) (N := 5) hx hb hts in_X3_append_X3 hown hK hP 0 rfl rfl 0 (by decide) (hts (.fieldLink RX3 10 "ZHeads" "file" "LZHeads$Row;") (by decide +kernel)) (fun _ h9 => h9) rfl dX3_append_41 ?_
          refine zc_V (As := []) (rest := []) ⟨hx, hb, hml, hown, hts⟩ (c_Row_count l D q a cA (zh_fl F n i p1) (n + i) hFi (by omega)) (cwV 0 hts gX3_append_X2_count rfl rfl rfl (by decide +kernel) ⟨(Nat.le_of_ble_eq_true rfl), (Nat.le_of_ble_eq_true rfl)⟩) hP hK [1, 4] [0] rfl rfl (ci := 3) rfl rfl rfl rfl hl.1 rfl (Nat.le_of_ble_eq_true rfl) dX3_append_44 ⟨Nat.zero_le _, Nat.zero_le _⟩ (fun r hr1 => ?_)
          obtain ⟨rfl, b_4⟩ := hr1
          have e_n_5_0 : zh_apR n rd p0 = 0 := by unfold zh_apR; rw [if_neg (by omega)]
          have e_n_5_1 : zh_apN n p0 = n + i := by unfold zh_apN; rw [if_neg (by omega)]; rw [show p0 = i by omega]
          have e_n_5_2 : zh_apF F n p0 p1 = zh_fl F n i p1 := by unfold zh_apF; rw [if_neg (by omega)]; rw [show p0 = i by omega]
          have hP9 : va_P D vwCl [(x, .inr (4, [.ref q, .ref q2, .ref hh, .int (zi_n (zh_apR n rd p0)), .int (zi_n br)])), (q, .inr (3, [.ref a, .int (zi_n (zh_apN n p0))])), (q2, .inr (3, [.ref a2, .int (zi_n k)])), (hh, .inr (2, [.ref q])), (a, .inl (cA, 600, .inl (zi_F (zh_apF F n p0 p1)))), (a2, .inl (cB, 600, .inl (zi_F G)))] H := by rw [e_n_5_0, e_n_5_1, e_n_5_2]; exact hP
          have hD9 : va_D A [(x, .inr (4, [.ref q, .ref q2, .ref hh, .int (zi_n (zh_apR n rd p0)), .int (zi_n br)])), (q, .inr (3, [.ref a, .int (zi_n (zh_apN n p0))])), (q2, .inr (3, [.ref a2, .int (zi_n k)])), (hh, .inr (2, [.ref q])), (a, .inl (cA, 600, .inl (zi_F (zh_apF F n p0 p1)))), (a2, .inl (cB, 600, .inl (zi_F G)))] := by rw [e_n_5_0, e_n_5_1, e_n_5_2]; exact hD
          exact W.iret (v := zi_n ((n + i))) hx hb hr (fun t ht hW => ⟨⟨zi_n ((n + i)), (), rfl, zl_r (by unfold zh_apE; rw [if_neg (by omega)]; omega) (by omega), by rw [ht]; exact hP9, va_K.moved hW.alike hK, hD9⟩, hS.F ht⟩) hS.2.2 dX3_append_47
        · refine lv_aload_n hx hb dX3_append_21 rfl (lv_at hl 1 rfl) ?_
          refine va_get (D := D) (ci := 4) (v := .ref q) (C := RX3) (T := TX3) (N := 5) hx hb hts in_X3_append_X3 hown hK hP 0 rfl rfl 0 (by decide) (hts (.fieldLink RX3 10 "ZHeads" "file" "LZHeads$Row;") (by decide +kernel)) (fun _ h9 => h9) rfl dX3_append_22 ?_
          refine lv_iload_n hx hb dX3_append_25 rfl (lv_at hl 3 rfl) ?_
          refine zc_Vv (As := [.int (zi_n p1)]) (rest := []) (wr := [(x, .inr (4, [.ref q, .ref q2, .ref hh, .int (zi_n rd), .int (zi_n br)])), (q2, .inr (3, [.ref a2, .int (zi_n k)])), (hh, .inr (2, [.ref q])), (a2, .inl (cB, 600, .inl (zi_F G)))]) (wf := fun (_ : Unit) => [(x, .inr (4, [.ref q, .ref q2, .ref hh, .int (zi_n rd), .int (zi_n br)])), (q, .inr (3, [.ref a, .int (zi_n ((n + i) + 1))])), (q2, .inr (3, [.ref a2, .int (zi_n k)])), (hh, .inr (2, [.ref q])), (a, .inl (cA, 600, .inl (zi_F (zi_up (zh_fl F n i p1) (n + i).toNat p1)))), (a2, .inl (cB, 600, .inl (zi_F G)))]) ⟨hx, hb, hml, hown, hts⟩ (c_Row_add l D q a cA (zh_fl F n i p1) (n + i) hFi (by omega) _ p1 (by omega) (by omega)) (cwV 1 hts gX3_append_X2_add rfl rfl rfl (by decide +kernel) ⟨(Nat.le_of_ble_eq_true rfl), (Nat.le_of_ble_eq_true rfl)⟩) hP hD hK hS hA [1, 4] [0, 2, 3, 5] [0] [0, 4, 1, 2, 5, 3] rfl rfl (by decide) rfl (by decide) (by decide) rfl (fun _ => rfl) (fun _ => rfl) (by decide) (ci := 3) rfl rfl rfl rfl hl.1 rfl (Nat.le_of_ble_eq_true rfl) dX3_append_26 ⟨Nat.zero_le _, Nat.zero_le _⟩ (fun _ hr1 H locs hP hD hS => ?_)
          have hF_6 : zi_By (zi_up (zh_fl F n i p1) (n + i).toNat p1) := zi_up_By hFi _ (by omega)
          have hP : va_P D vwCl [(x, .inr (4, [.ref q, .ref q2, .ref hh, .int (zi_n rd), .int (zi_n br)])), (q, .inr (3, [.ref a, .int (zi_n ((n + i) + 1))])), (q2, .inr (3, [.ref a2, .int (zi_n k)])), (hh, .inr (2, [.ref q])), (a, .inl (cA, 600, .inl (zi_F (zi_up (zh_fl F n i p1) (n + i).toNat p1)))), (a2, .inl (cB, 600, .inl (zi_F G)))] H := hP
          have hD : va_D A [(x, .inr (4, [.ref q, .ref q2, .ref hh, .int (zi_n rd), .int (zi_n br)])), (q, .inr (3, [.ref a, .int (zi_n ((n + i) + 1))])), (q2, .inr (3, [.ref a2, .int (zi_n k)])), (hh, .inr (2, [.ref q])), (a, .inl (cA, 600, .inl (zi_F (zi_up (zh_fl F n i p1) (n + i).toNat p1)))), (a2, .inl (cB, 600, .inl (zi_F G)))] := hD
          refine zr_iinc (lv' := [(3, .int (zi_n (i + 1))), (0, .ref x), (1, .int (zi_n p0)), (2, .int (zi_n p1))]) hx hb dX3_append_29 hl (k := 0) rfl (by decide) rfl (fun ls hl => ?_)
          refine lv_goto (tgt := 16) hx hb dX3_append_32 (by decide) ?_
          have e1 : zi_up (zh_fl F n i p1) (n + i).toNat p1 = zh_fl F n (i + 1) p1 := by exact zh_fl_s (by omega) (by omega)
          have e2 : n + i + 1 = n + (i + 1) := by omega
          rw [e1] at hP hD; rw [e2] at hP hD
          exact ih (i + 1) (by omega) (by omega) (by omega) H locs hP hD hS _ (lv_sub hl [0, 1, 2, 3] rfl)
    have e0 : zh_fl F n 0 p1 = F := by exact zh_fl_0 F n p1
    have e00 : n + 0 = n := by omega
    exact key 601 0 (by omega) (by omega) (by omega) _ _ (by rw [e0]; rw [e00]; exact hP) (by rw [e0]; rw [e00]; exact hD) hS _ hl
  · refine zr_bipush hx hb dX3_append_11 (by decide) ?_
    have e_n_7_0 : zh_apR n rd p0 = rd := by unfold zh_apR; exact if_pos (by omega)
    have e_n_7_1 : zh_apN n p0 = n := by unfold zh_apN; exact if_pos (by omega)
    have e_n_7_2 : zh_apF F n p0 p1 = F := by unfold zh_apF; exact if_pos (by omega)
    have hP9 : va_P D vwCl [(x, .inr (4, [.ref q, .ref q2, .ref hh, .int (zi_n (zh_apR n rd p0)), .int (zi_n br)])), (q, .inr (3, [.ref a, .int (zi_n (zh_apN n p0))])), (q2, .inr (3, [.ref a2, .int (zi_n k)])), (hh, .inr (2, [.ref q])), (a, .inl (cA, 600, .inl (zi_F (zh_apF F n p0 p1)))), (a2, .inl (cB, 600, .inl (zi_F G)))] s.heap := by rw [e_n_7_0, e_n_7_1, e_n_7_2]; exact hP
    have hD9 : va_D A [(x, .inr (4, [.ref q, .ref q2, .ref hh, .int (zi_n (zh_apR n rd p0)), .int (zi_n br)])), (q, .inr (3, [.ref a, .int (zi_n (zh_apN n p0))])), (q2, .inr (3, [.ref a2, .int (zi_n k)])), (hh, .inr (2, [.ref q])), (a, .inl (cA, 600, .inl (zi_F (zh_apF F n p0 p1)))), (a2, .inl (cB, 600, .inl (zi_F G)))] := by rw [e_n_7_0, e_n_7_1, e_n_7_2]; exact hD
    exact W.iret (v := zi_n (-14)) hx hb hr (fun t ht hW => ⟨⟨zi_n (-14), (), rfl, zl_r (by unfold zh_apE; exact if_pos (by omega)) (by omega), by rw [ht]; exact hP9, va_K.moved hW.alike hK, hD9⟩, hS.F ht⟩) hS.2.2 dX3_append_13

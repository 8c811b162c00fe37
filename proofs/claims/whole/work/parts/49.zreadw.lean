theorem in_X3_read_X3 : ∀ w ∈ u_ws RX3 TX3 5, w ∈ wsX3_read := by decide +kernel
set_option maxHeartbeats 4000000 in
set_option maxRecDepth 100000 in
theorem c_Z_read (l : Launch) (D : va_G) (x q q2 hh a a2 : Nat) (cA cB : ClassId) (F G : Nat → Int) (n k rd br : Int) (hF : zi_By F) (hn : 0 ≤ n ∧ n ≤ 600) (hG : zi_By G) (hk : 0 ≤ k ∧ k ≤ 600) (hrd : rd = 0 ∨ rd = 1) (hbr : 0 ≤ br ∧ br ≤ 15) (sz : Nat) : Met l yX3_read wsX3_read ({ frames := 6, cells := 0, slots := 0, locals := 129 }) (va_Pc [.ref x] (zp_P D vwCl sz [(x, .inr (4, [.ref q, .ref q2, .ref hh, .int (zi_n rd), .int (zi_n br)])), (q, .inr (3, [.ref a, .int (zi_n n)])), (q2, .inr (3, [.ref a2, .int (zi_n k)])), (hh, .inr (2, [.ref q])), (a, .inl (cA, 600, .inl (zi_F F))), (a2, .inl (cB, 600, .inl (zi_F G)))] [(cA, .int), (cB, .int)])) (va_Qi (fun (r : Int32) (u : Nat) => zh_first F n u ∧ r = zi_n (zh_rdE F n u)) (fun (u : Nat) => zp_B D vwCl [(cA, .int), (cB, .int)] (va_A [(x, .inr (4, [.ref q, .ref q2, .ref hh, .int (zi_n rd), .int (zi_n br)])), (q, .inr (3, [.ref a, .int (zi_n n)])), (q2, .inr (3, [.ref a2, .int (zi_n k)])), (hh, .inr (2, [.ref q])), (a, .inl (cA, 600, .inl (zi_F F))), (a2, .inl (cB, 600, .inl (zi_F G)))] sz) [(x, .inr (4, [.ref q, .ref q2, .ref hh, .int (zi_n (zh_rdR u)), .int (zi_n (zh_rdB u))])), (q, .inr (3, [.ref a, .int (zi_n n)])), (q2, .inr (3, [.ref a2, .int (zi_n (zh_rdK n k u))])), (hh, .inr (2, [.ref q])), (a, .inl (cA, 600, .inl (zi_F F))), (a2, .inl (cB, 600, .inl (zi_F (zh_rdG F G u))))]) (va_A [(x, .inr (4, [.ref q, .ref q2, .ref hh, .int (zi_n rd), .int (zi_n br)])), (q, .inr (3, [.ref a, .int (zi_n n)])), (q2, .inr (3, [.ref a2, .int (zi_n k)])), (hh, .inr (2, [.ref q])), (a, .inl (cA, 600, .inl (zi_F F))), (a2, .inl (cB, 600, .inl (zi_F G)))] sz)) 0 0 (va_A [(x, .inr (4, [.ref q, .ref q2, .ref hh, .int (zi_n rd), .int (zi_n br)])), (q, .inr (3, [.ref a, .int (zi_n n)])), (q2, .inr (3, [.ref a2, .int (zi_n k)])), (hh, .inr (2, [.ref q])), (a, .inl (cA, 600, .inl (zi_F F))), (a2, .inl (cB, 600, .inl (zi_F G)))] sz) := by
  refine Met.ofW (cc := cX3_read) (maxL := 2) (ret := (some .int)) (by decide) rfl ?_
  intro p e s m args below meth c s₁ B hml hv
  obtain ⟨rfl, hsz, hP, hK, hD0⟩ := hv
  have hx := B.exec
  have hb := B.bytes
  have hr := B.returns
  have hts := atoms_spec (ws := wsX3_read) B.pre
  have hown : s.vm.findClass RX3 = some m.cls := findClass_of_methodNamed B.named
  have hlocks := B.notSynchronized
  subst hsz
  have hD := hD0.self (sz := s.heap.size)
  generalize hAe : va_A [(x, .inr (4, [.ref q, .ref q2, .ref hh, .int (zi_n rd), .int (zi_n br)])), (q, .inr (3, [.ref a, .int (zi_n n)])), (q2, .inr (3, [.ref a2, .int (zi_n k)])), (hh, .inr (2, [.ref q])), (a, .inl (cA, 600, .inl (zi_F F))), (a2, .inl (cB, 600, .inl (zi_F G)))] s.heap.size = A at hD ⊢
  have hA : ∀ q : Nat, s.heap.size ≤ q → A q := fun q h => by rw [← hAe]; exact Or.inr h
  have hS : va_S A s.heap s.heap [] := va_S.rf
  have hP : va_P D vwCl [(x, .inr (4, [.ref q, .ref q2, .ref hh, .int (zi_n rd), .int (zi_n br)])), (q, .inr (3, [.ref a, .int (zi_n n)])), (q2, .inr (3, [.ref a2, .int (zi_n k)])), (hh, .inr (2, [.ref q])), (a, .inl (cA, 600, .inl (zi_F F))), (a2, .inl (cB, 600, .inl (zi_F G)))] s.heap := hP
  have hl := lv_entry ([.ref x]) (n := 2) (Nat.le_of_ble_eq_true rfl)
  rw [lg_entry_eq]
  generalize (lg_sl ([.ref x]) ++ List.replicate (2 - (lg_sl ([.ref x])).length) Slot.unset).toArray = ls at hl ⊢
  have hl : lv_has ls 2 [(0, .ref x)] := hl
  refine lv_aload_n hx hb dX3_read_0 rfl (lv_at hl 0 rfl) ?_
  refine zr_iconst hx hb dX3_read_1 ?_
  refine va_put (D := D) (ci := 4) (v := .int (zi_n 0)) (ty := .int) (C := RX3) (T := TX3) (N := 5) hx hb hts in_X3_read_X3 tyX3 tyX3_ok nmX3 hown hK hP hD hS 0 rfl rfl 4 (by decide) (hts (.fieldLink RX3 32 "ZHeads" "brokenRule" "I") (by decide +kernel)) (fun _ h9 => h9) rfl (by decide +kernel) rfl rfl (Nat.le_of_ble_eq_true rfl) dX3_read_2 (fun H locs hP hD hS => ?_)
  have hP : va_P D vwCl [(x, .inr (4, [.ref q, .ref q2, .ref hh, .int (zi_n rd), .int (zi_n 0)])), (q, .inr (3, [.ref a, .int (zi_n n)])), (q2, .inr (3, [.ref a2, .int (zi_n k)])), (hh, .inr (2, [.ref q])), (a, .inl (cA, 600, .inl (zi_F F))), (a2, .inl (cB, 600, .inl (zi_F G)))] H := hP
  have hD : va_D A [(x, .inr (4, [.ref q, .ref q2, .ref hh, .int (zi_n rd), .int (zi_n 0)])), (q, .inr (3, [.ref a, .int (zi_n n)])), (q2, .inr (3, [.ref a2, .int (zi_n k)])), (hh, .inr (2, [.ref q])), (a, .inl (cA, 600, .inl (zi_F F))), (a2, .inl (cB, 600, .inl (zi_F G)))] := hD
  refine zr_iconst hx hb dX3_read_5 ?_
  refine lv_istore_n (lv' := [(1, .int (zi_n 1)), (0, .ref x)]) hx hb dX3_read_6 rfl hl (by decide) rfl (fun ls hl => ?_)
  refine lv_iload_n hx hb dX3_read_7 rfl (lv_at hl 0 rfl) ?_
  refine zr_bipush hx hb dX3_read_8 (by decide) ?_
  refine zr_icmp_gt (tgt := 42) hx hb dX3_read_10 (by decide) (by omega) (by omega) (fun c => absurd c (by decide)) (fun c_1 => ?_)
  refine lv_aload_n hx hb dX3_read_13 rfl (lv_at hl 1 rfl) ?_
  refine va_get (D := D) (ci := 4) (v := .int (zi_n 0)) (C := RX3) (T := TX3) (N := 5) hx hb hts in_X3_read_X3 hown hK hP 0 rfl rfl 4 (by decide) (hts (.fieldLink RX3 32 "ZHeads" "brokenRule" "I") (by decide +kernel)) (fun _ h9 => h9) rfl dX3_read_14 ?_
  refine zr_if_ne (tgt := 42) hx hb dX3_read_17 (by decide) (by omega) (fun c => absurd c (by decide)) (fun c_2 => ?_)
  refine lv_aload_n hx hb dX3_read_20 rfl (lv_at hl 1 rfl) ?_
  refine va_get (D := D) (ci := 4) (v := .ref hh) (C := RX3) (T := TX3) (N := 5) hx hb hts in_X3_read_X3 hown hK hP 0 rfl rfl 2 (by decide) (hts (.fieldLink RX3 24 "ZHeads" "head" "LZHeads$Head;") (by decide +kernel)) (fun _ h9 => h9) rfl dX3_read_21 ?_
  refine lv_iload_n hx hb dX3_read_24 rfl (lv_at hl 0 rfl) ?_
  refine zc_V (As := [.int (zi_n 1)]) (rest := []) ⟨hx, hb, hml, hown, hts⟩ (c_Hd_holds1 l D hh q a cA F n hF (by omega)) (cwV 1 hts gX3_read_X0_holds rfl rfl rfl (by decide +kernel) ⟨(Nat.le_of_ble_eq_true rfl), (Nat.le_of_ble_eq_true rfl)⟩) hP hK [3, 1, 4] [0] rfl rfl (ci := 2) rfl rfl rfl rfl hl.1 rfl (Nat.le_of_ble_eq_true rfl) dX3_read_25 ⟨Nat.zero_le _, Nat.zero_le _⟩ (fun r hr1 => ?_)
  rcases hr1 with ⟨rfl, c_3⟩ | ⟨rfl, c_3⟩
  · unfold zh_ok1 at c_3
    refine zr_if_ne (tgt := 36) hx hb dX3_read_28 (by decide) (by omega) (fun c_4 => ?_) (fun c => absurd c (by decide))
    refine zr_iinc (lv' := [(1, .int (zi_n 2)), (0, .ref x)]) hx hb dX3_read_36 hl (k := 0) rfl (by decide) rfl (fun ls hl => ?_)
    refine lv_goto (tgt := 7) hx hb dX3_read_39 (by decide) ?_
    refine lv_iload_n hx hb dX3_read_7 rfl (lv_at hl 0 rfl) ?_
    refine zr_bipush hx hb dX3_read_8 (by decide) ?_
    refine zr_icmp_gt (tgt := 42) hx hb dX3_read_10 (by decide) (by omega) (by omega) (fun c => absurd c (by decide)) (fun c_5 => ?_)
    refine lv_aload_n hx hb dX3_read_13 rfl (lv_at hl 1 rfl) ?_
    refine va_get (D := D) (ci := 4) (v := .int (zi_n 0)) (C := RX3) (T := TX3) (N := 5) hx hb hts in_X3_read_X3 hown hK hP 0 rfl rfl 4 (by decide) (hts (.fieldLink RX3 32 "ZHeads" "brokenRule" "I") (by decide +kernel)) (fun _ h9 => h9) rfl dX3_read_14 ?_
    refine zr_if_ne (tgt := 42) hx hb dX3_read_17 (by decide) (by omega) (fun c => absurd c (by decide)) (fun c_6 => ?_)
    refine lv_aload_n hx hb dX3_read_20 rfl (lv_at hl 1 rfl) ?_
    refine va_get (D := D) (ci := 4) (v := .ref hh) (C := RX3) (T := TX3) (N := 5) hx hb hts in_X3_read_X3 hown hK hP 0 rfl rfl 2 (by decide) (hts (.fieldLink RX3 24 "ZHeads" "head" "LZHeads$Head;") (by decide +kernel)) (fun _ h9 => h9) rfl dX3_read_21 ?_
    refine lv_iload_n hx hb dX3_read_24 rfl (lv_at hl 0 rfl) ?_
    refine zc_V (As := [.int (zi_n 2)]) (rest := []) ⟨hx, hb, hml, hown, hts⟩ (c_Hd_holds2 l D hh q a cA F n hF (by omega) (by omega)) (cwV 1 hts gX3_read_X0_holds rfl rfl rfl (by decide +kernel) ⟨(Nat.le_of_ble_eq_true rfl), (Nat.le_of_ble_eq_true rfl)⟩) hP hK [3, 1, 4] [0] rfl rfl (ci := 2) rfl rfl rfl rfl hl.1 rfl (Nat.le_of_ble_eq_true rfl) dX3_read_25 ⟨Nat.zero_le _, Nat.zero_le _⟩ (fun r hr1 => ?_)
    rcases hr1 with ⟨rfl, c_7⟩ | ⟨rfl, c_7⟩
    · unfold zh_ok2 at c_7
      refine zr_if_ne (tgt := 36) hx hb dX3_read_28 (by decide) (by omega) (fun c_8 => ?_) (fun c => absurd c (by decide))
      refine zr_iinc (lv' := [(1, .int (zi_n 3)), (0, .ref x)]) hx hb dX3_read_36 hl (k := 0) rfl (by decide) rfl (fun ls hl => ?_)
      refine lv_goto (tgt := 7) hx hb dX3_read_39 (by decide) ?_
      refine lv_iload_n hx hb dX3_read_7 rfl (lv_at hl 0 rfl) ?_
      refine zr_bipush hx hb dX3_read_8 (by decide) ?_
      refine zr_icmp_gt (tgt := 42) hx hb dX3_read_10 (by decide) (by omega) (by omega) (fun c => absurd c (by decide)) (fun c_9 => ?_)
      refine lv_aload_n hx hb dX3_read_13 rfl (lv_at hl 1 rfl) ?_
      refine va_get (D := D) (ci := 4) (v := .int (zi_n 0)) (C := RX3) (T := TX3) (N := 5) hx hb hts in_X3_read_X3 hown hK hP 0 rfl rfl 4 (by decide) (hts (.fieldLink RX3 32 "ZHeads" "brokenRule" "I") (by decide +kernel)) (fun _ h9 => h9) rfl dX3_read_14 ?_
      refine zr_if_ne (tgt := 42) hx hb dX3_read_17 (by decide) (by omega) (fun c => absurd c (by decide)) (fun c_10 => ?_)
      refine lv_aload_n hx hb dX3_read_20 rfl (lv_at hl 1 rfl) ?_
      refine va_get (D := D) (ci := 4) (v := .ref hh) (C := RX3) (T := TX3) (N := 5) hx hb hts in_X3_read_X3 hown hK hP 0 rfl rfl 2 (by decide) (hts (.fieldLink RX3 24 "ZHeads" "head" "LZHeads$Head;") (by decide +kernel)) (fun _ h9 => h9) rfl dX3_read_21 ?_
      refine lv_iload_n hx hb dX3_read_24 rfl (lv_at hl 0 rfl) ?_
      refine zc_V (As := [.int (zi_n 3)]) (rest := []) ⟨hx, hb, hml, hown, hts⟩ (c_Hd_holds3 l D hh q a cA F n hF (by omega)) (cwV 1 hts gX3_read_X0_holds rfl rfl rfl (by decide +kernel) ⟨(Nat.le_of_ble_eq_true rfl), (Nat.le_of_ble_eq_true rfl)⟩) hP hK [3, 1, 4] [0] rfl rfl (ci := 2) rfl rfl rfl rfl hl.1 rfl (Nat.le_of_ble_eq_true rfl) dX3_read_25 ⟨Nat.zero_le _, Nat.zero_le _⟩ (fun r hr1 => ?_)
      rcases hr1 with ⟨rfl, c_11⟩ | ⟨rfl, c_11⟩
      · unfold zh_ok3 at c_11
        refine zr_if_ne (tgt := 36) hx hb dX3_read_28 (by decide) (by omega) (fun c_12 => ?_) (fun c => absurd c (by decide))
        refine zr_iinc (lv' := [(1, .int (zi_n 4)), (0, .ref x)]) hx hb dX3_read_36 hl (k := 0) rfl (by decide) rfl (fun ls hl => ?_)
        refine lv_goto (tgt := 7) hx hb dX3_read_39 (by decide) ?_
        refine lv_iload_n hx hb dX3_read_7 rfl (lv_at hl 0 rfl) ?_
        refine zr_bipush hx hb dX3_read_8 (by decide) ?_
        refine zr_icmp_gt (tgt := 42) hx hb dX3_read_10 (by decide) (by omega) (by omega) (fun c => absurd c (by decide)) (fun c_13 => ?_)
        refine lv_aload_n hx hb dX3_read_13 rfl (lv_at hl 1 rfl) ?_
        refine va_get (D := D) (ci := 4) (v := .int (zi_n 0)) (C := RX3) (T := TX3) (N := 5) hx hb hts in_X3_read_X3 hown hK hP 0 rfl rfl 4 (by decide) (hts (.fieldLink RX3 32 "ZHeads" "brokenRule" "I") (by decide +kernel)) (fun _ h9 => h9) rfl dX3_read_14 ?_
        refine zr_if_ne (tgt := 42) hx hb dX3_read_17 (by decide) (by omega) (fun c => absurd c (by decide)) (fun c_14 => ?_)
        refine lv_aload_n hx hb dX3_read_20 rfl (lv_at hl 1 rfl) ?_
        refine va_get (D := D) (ci := 4) (v := .ref hh) (C := RX3) (T := TX3) (N := 5) hx hb hts in_X3_read_X3 hown hK hP 0 rfl rfl 2 (by decide) (hts (.fieldLink RX3 24 "ZHeads" "head" "LZHeads$Head;") (by decide +kernel)) (fun _ h9 => h9) rfl dX3_read_21 ?_
        refine lv_iload_n hx hb dX3_read_24 rfl (lv_at hl 0 rfl) ?_
        refine zc_V (As := [.int (zi_n 4)]) (rest := []) ⟨hx, hb, hml, hown, hts⟩ (c_Hd_holds4 l D hh q a cA F n hF (by omega) (by omega)) (cwV 1 hts gX3_read_X0_holds rfl rfl rfl (by decide +kernel) ⟨(Nat.le_of_ble_eq_true rfl), (Nat.le_of_ble_eq_true rfl)⟩) hP hK [3, 1, 4] [0] rfl rfl (ci := 2) rfl rfl rfl rfl hl.1 rfl (Nat.le_of_ble_eq_true rfl) dX3_read_25 ⟨Nat.zero_le _, Nat.zero_le _⟩ (fun r hr1 => ?_)
        rcases hr1 with ⟨rfl, c_15⟩ | ⟨rfl, c_15⟩
        · unfold zh_ok4 at c_15
          refine zr_if_ne (tgt := 36) hx hb dX3_read_28 (by decide) (by omega) (fun c_16 => ?_) (fun c => absurd c (by decide))
          refine zr_iinc (lv' := [(1, .int (zi_n 5)), (0, .ref x)]) hx hb dX3_read_36 hl (k := 0) rfl (by decide) rfl (fun ls hl => ?_)
          refine lv_goto (tgt := 7) hx hb dX3_read_39 (by decide) ?_
          refine lv_iload_n hx hb dX3_read_7 rfl (lv_at hl 0 rfl) ?_
          refine zr_bipush hx hb dX3_read_8 (by decide) ?_
          refine zr_icmp_gt (tgt := 42) hx hb dX3_read_10 (by decide) (by omega) (by omega) (fun c => absurd c (by decide)) (fun c_17 => ?_)
          refine lv_aload_n hx hb dX3_read_13 rfl (lv_at hl 1 rfl) ?_
          refine va_get (D := D) (ci := 4) (v := .int (zi_n 0)) (C := RX3) (T := TX3) (N := 5) hx hb hts in_X3_read_X3 hown hK hP 0 rfl rfl 4 (by decide) (hts (.fieldLink RX3 32 "ZHeads" "brokenRule" "I") (by decide +kernel)) (fun _ h9 => h9) rfl dX3_read_14 ?_
          refine zr_if_ne (tgt := 42) hx hb dX3_read_17 (by decide) (by omega) (fun c => absurd c (by decide)) (fun c_18 => ?_)
          refine lv_aload_n hx hb dX3_read_20 rfl (lv_at hl 1 rfl) ?_
          refine va_get (D := D) (ci := 4) (v := .ref hh) (C := RX3) (T := TX3) (N := 5) hx hb hts in_X3_read_X3 hown hK hP 0 rfl rfl 2 (by decide) (hts (.fieldLink RX3 24 "ZHeads" "head" "LZHeads$Head;") (by decide +kernel)) (fun _ h9 => h9) rfl dX3_read_21 ?_
          refine lv_iload_n hx hb dX3_read_24 rfl (lv_at hl 0 rfl) ?_
          refine zc_V (As := [.int (zi_n 5)]) (rest := []) ⟨hx, hb, hml, hown, hts⟩ (c_Hd_holds5 l D hh q a cA F n hF (by omega) (by omega)) (cwV 1 hts gX3_read_X0_holds rfl rfl rfl (by decide +kernel) ⟨(Nat.le_of_ble_eq_true rfl), (Nat.le_of_ble_eq_true rfl)⟩) hP hK [3, 1, 4] [0] rfl rfl (ci := 2) rfl rfl rfl rfl hl.1 rfl (Nat.le_of_ble_eq_true rfl) dX3_read_25 ⟨Nat.zero_le _, Nat.zero_le _⟩ (fun r hr1 => ?_)
          rcases hr1 with ⟨rfl, c_19⟩ | ⟨rfl, c_19⟩
          · refine zr_if_ne (tgt := 36) hx hb dX3_read_28 (by decide) (by omega) (fun c_20 => ?_) (fun c => absurd c (by decide))
            refine zr_iinc (lv' := [(1, .int (zi_n 6)), (0, .ref x)]) hx hb dX3_read_36 hl (k := 0) rfl (by decide) rfl (fun ls hl => ?_)
            refine lv_goto (tgt := 7) hx hb dX3_read_39 (by decide) ?_
            refine lv_iload_n hx hb dX3_read_7 rfl (lv_at hl 0 rfl) ?_
            refine zr_bipush hx hb dX3_read_8 (by decide) ?_
            refine zr_icmp_gt (tgt := 42) hx hb dX3_read_10 (by decide) (by omega) (by omega) (fun c => absurd c (by decide)) (fun c_21 => ?_)
            refine lv_aload_n hx hb dX3_read_13 rfl (lv_at hl 1 rfl) ?_
            refine va_get (D := D) (ci := 4) (v := .int (zi_n 0)) (C := RX3) (T := TX3) (N := 5) hx hb hts in_X3_read_X3 hown hK hP 0 rfl rfl 4 (by decide) (hts (.fieldLink RX3 32 "ZHeads" "brokenRule" "I") (by decide +kernel)) (fun _ h9 => h9) rfl dX3_read_14 ?_
            refine zr_if_ne (tgt := 42) hx hb dX3_read_17 (by decide) (by omega) (fun c => absurd c (by decide)) (fun c_22 => ?_)
            refine lv_aload_n hx hb dX3_read_20 rfl (lv_at hl 1 rfl) ?_
            refine va_get (D := D) (ci := 4) (v := .ref hh) (C := RX3) (T := TX3) (N := 5) hx hb hts in_X3_read_X3 hown hK hP 0 rfl rfl 2 (by decide) (hts (.fieldLink RX3 24 "ZHeads" "head" "LZHeads$Head;") (by decide +kernel)) (fun _ h9 => h9) rfl dX3_read_21 ?_
            refine lv_iload_n hx hb dX3_read_24 rfl (lv_at hl 0 rfl) ?_
            refine zc_V (As := [.int (zi_n 6)]) (rest := []) ⟨hx, hb, hml, hown, hts⟩ (c_Hd_holds6 l D hh q a cA F n hF (by omega) (by omega)) (cwV 1 hts gX3_read_X0_holds rfl rfl rfl (by decide +kernel) ⟨(Nat.le_of_ble_eq_true rfl), (Nat.le_of_ble_eq_true rfl)⟩) hP hK [3, 1, 4] [0] rfl rfl (ci := 2) rfl rfl rfl rfl hl.1 rfl (Nat.le_of_ble_eq_true rfl) dX3_read_25 ⟨Nat.zero_le _, Nat.zero_le _⟩ (fun r hr1 => ?_)
            rcases hr1 with ⟨rfl, c_23⟩ | ⟨rfl, c_23⟩
            · refine zr_if_ne (tgt := 36) hx hb dX3_read_28 (by decide) (by omega) (fun c_24 => ?_) (fun c => absurd c (by decide))
              refine zr_iinc (lv' := [(1, .int (zi_n 7)), (0, .ref x)]) hx hb dX3_read_36 hl (k := 0) rfl (by decide) rfl (fun ls hl => ?_)
              refine lv_goto (tgt := 7) hx hb dX3_read_39 (by decide) ?_
              refine lv_iload_n hx hb dX3_read_7 rfl (lv_at hl 0 rfl) ?_
              refine zr_bipush hx hb dX3_read_8 (by decide) ?_
              refine zr_icmp_gt (tgt := 42) hx hb dX3_read_10 (by decide) (by omega) (by omega) (fun c => absurd c (by decide)) (fun c_25 => ?_)
              refine lv_aload_n hx hb dX3_read_13 rfl (lv_at hl 1 rfl) ?_
              refine va_get (D := D) (ci := 4) (v := .int (zi_n 0)) (C := RX3) (T := TX3) (N := 5) hx hb hts in_X3_read_X3 hown hK hP 0 rfl rfl 4 (by decide) (hts (.fieldLink RX3 32 "ZHeads" "brokenRule" "I") (by decide +kernel)) (fun _ h9 => h9) rfl dX3_read_14 ?_
              refine zr_if_ne (tgt := 42) hx hb dX3_read_17 (by decide) (by omega) (fun c => absurd c (by decide)) (fun c_26 => ?_)
              refine lv_aload_n hx hb dX3_read_20 rfl (lv_at hl 1 rfl) ?_
              refine va_get (D := D) (ci := 4) (v := .ref hh) (C := RX3) (T := TX3) (N := 5) hx hb hts in_X3_read_X3 hown hK hP 0 rfl rfl 2 (by decide) (hts (.fieldLink RX3 24 "ZHeads" "head" "LZHeads$Head;") (by decide +kernel)) (fun _ h9 => h9) rfl dX3_read_21 ?_
              refine lv_iload_n hx hb dX3_read_24 rfl (lv_at hl 0 rfl) ?_
              refine zc_V (As := [.int (zi_n 7)]) (rest := []) ⟨hx, hb, hml, hown, hts⟩ (c_Hd_holds7 l D hh q a cA F n hF (by omega) (by omega)) (cwV 1 hts gX3_read_X0_holds rfl rfl rfl (by decide +kernel) ⟨(Nat.le_of_ble_eq_true rfl), (Nat.le_of_ble_eq_true rfl)⟩) hP hK [3, 1, 4] [0] rfl rfl (ci := 2) rfl rfl rfl rfl hl.1 rfl (Nat.le_of_ble_eq_true rfl) dX3_read_25 ⟨Nat.zero_le _, Nat.zero_le _⟩ (fun r hr1 => ?_)
              rcases hr1 with ⟨rfl, c_27⟩ | ⟨rfl, c_27⟩
              · refine zr_if_ne (tgt := 36) hx hb dX3_read_28 (by decide) (by omega) (fun c_28 => ?_) (fun c => absurd c (by decide))
                refine zr_iinc (lv' := [(1, .int (zi_n 8)), (0, .ref x)]) hx hb dX3_read_36 hl (k := 0) rfl (by decide) rfl (fun ls hl => ?_)
                refine lv_goto (tgt := 7) hx hb dX3_read_39 (by decide) ?_
                refine lv_iload_n hx hb dX3_read_7 rfl (lv_at hl 0 rfl) ?_
                refine zr_bipush hx hb dX3_read_8 (by decide) ?_
                refine zr_icmp_gt (tgt := 42) hx hb dX3_read_10 (by decide) (by omega) (by omega) (fun c => absurd c (by decide)) (fun c_29 => ?_)
                refine lv_aload_n hx hb dX3_read_13 rfl (lv_at hl 1 rfl) ?_
                refine va_get (D := D) (ci := 4) (v := .int (zi_n 0)) (C := RX3) (T := TX3) (N := 5) hx hb hts in_X3_read_X3 hown hK hP 0 rfl rfl 4 (by decide) (hts (.fieldLink RX3 32 "ZHeads" "brokenRule" "I") (by decide +kernel)) (fun _ h9 => h9) rfl dX3_read_14 ?_
                refine zr_if_ne (tgt := 42) hx hb dX3_read_17 (by decide) (by omega) (fun c => absurd c (by decide)) (fun c_30 => ?_)
                refine lv_aload_n hx hb dX3_read_20 rfl (lv_at hl 1 rfl) ?_
                refine va_get (D := D) (ci := 4) (v := .ref hh) (C := RX3) (T := TX3) (N := 5) hx hb hts in_X3_read_X3 hown hK hP 0 rfl rfl 2 (by decide) (hts (.fieldLink RX3 24 "ZHeads" "head" "LZHeads$Head;") (by decide +kernel)) (fun _ h9 => h9) rfl dX3_read_21 ?_
                refine lv_iload_n hx hb dX3_read_24 rfl (lv_at hl 0 rfl) ?_
                refine zc_V (As := [.int (zi_n 8)]) (rest := []) ⟨hx, hb, hml, hown, hts⟩ (c_Hd_holds8 l D hh q a cA F n hF (by omega) (by omega)) (cwV 1 hts gX3_read_X0_holds rfl rfl rfl (by decide +kernel) ⟨(Nat.le_of_ble_eq_true rfl), (Nat.le_of_ble_eq_true rfl)⟩) hP hK [3, 1, 4] [0] rfl rfl (ci := 2) rfl rfl rfl rfl hl.1 rfl (Nat.le_of_ble_eq_true rfl) dX3_read_25 ⟨Nat.zero_le _, Nat.zero_le _⟩ (fun r hr1 => ?_)
                rcases hr1 with ⟨rfl, c_31⟩ | ⟨rfl, c_31⟩
                · refine zr_if_ne (tgt := 36) hx hb dX3_read_28 (by decide) (by omega) (fun c_32 => ?_) (fun c => absurd c (by decide))
                  refine zr_iinc (lv' := [(1, .int (zi_n 9)), (0, .ref x)]) hx hb dX3_read_36 hl (k := 0) rfl (by decide) rfl (fun ls hl => ?_)
                  refine lv_goto (tgt := 7) hx hb dX3_read_39 (by decide) ?_
                  refine lv_iload_n hx hb dX3_read_7 rfl (lv_at hl 0 rfl) ?_
                  refine zr_bipush hx hb dX3_read_8 (by decide) ?_
                  refine zr_icmp_gt (tgt := 42) hx hb dX3_read_10 (by decide) (by omega) (by omega) (fun c => absurd c (by decide)) (fun c_33 => ?_)
                  refine lv_aload_n hx hb dX3_read_13 rfl (lv_at hl 1 rfl) ?_
                  refine va_get (D := D) (ci := 4) (v := .int (zi_n 0)) (C := RX3) (T := TX3) (N := 5) hx hb hts in_X3_read_X3 hown hK hP 0 rfl rfl 4 (by decide) (hts (.fieldLink RX3 32 "ZHeads" "brokenRule" "I") (by decide +kernel)) (fun _ h9 => h9) rfl dX3_read_14 ?_
                  refine zr_if_ne (tgt := 42) hx hb dX3_read_17 (by decide) (by omega) (fun c => absurd c (by decide)) (fun c_34 => ?_)
                  refine lv_aload_n hx hb dX3_read_20 rfl (lv_at hl 1 rfl) ?_
                  refine va_get (D := D) (ci := 4) (v := .ref hh) (C := RX3) (T := TX3) (N := 5) hx hb hts in_X3_read_X3 hown hK hP 0 rfl rfl 2 (by decide) (hts (.fieldLink RX3 24 "ZHeads" "head" "LZHeads$Head;") (by decide +kernel)) (fun _ h9 => h9) rfl dX3_read_21 ?_
                  refine lv_iload_n hx hb dX3_read_24 rfl (lv_at hl 0 rfl) ?_
                  refine zc_V (As := [.int (zi_n 9)]) (rest := []) ⟨hx, hb, hml, hown, hts⟩ (c_Hd_holds9 l D hh q a cA F n hF (by omega) (by omega)) (cwV 1 hts gX3_read_X0_holds rfl rfl rfl (by decide +kernel) ⟨(Nat.le_of_ble_eq_true rfl), (Nat.le_of_ble_eq_true rfl)⟩) hP hK [3, 1, 4] [0] rfl rfl (ci := 2) rfl rfl rfl rfl hl.1 rfl (Nat.le_of_ble_eq_true rfl) dX3_read_25 ⟨Nat.zero_le _, Nat.zero_le _⟩ (fun r hr1 => ?_)
                  rcases hr1 with ⟨rfl, c_35⟩ | ⟨rfl, c_35⟩
                  · refine zr_if_ne (tgt := 36) hx hb dX3_read_28 (by decide) (by omega) (fun c_36 => ?_) (fun c => absurd c (by decide))
                    refine zr_iinc (lv' := [(1, .int (zi_n 10)), (0, .ref x)]) hx hb dX3_read_36 hl (k := 0) rfl (by decide) rfl (fun ls hl => ?_)
                    refine lv_goto (tgt := 7) hx hb dX3_read_39 (by decide) ?_
                    refine lv_iload_n hx hb dX3_read_7 rfl (lv_at hl 0 rfl) ?_
                    refine zr_bipush hx hb dX3_read_8 (by decide) ?_
                    refine zr_icmp_gt (tgt := 42) hx hb dX3_read_10 (by decide) (by omega) (by omega) (fun c => absurd c (by decide)) (fun c_37 => ?_)
                    refine lv_aload_n hx hb dX3_read_13 rfl (lv_at hl 1 rfl) ?_
                    refine va_get (D := D) (ci := 4) (v := .int (zi_n 0)) (C := RX3) (T := TX3) (N := 5) hx hb hts in_X3_read_X3 hown hK hP 0 rfl rfl 4 (by decide) (hts (.fieldLink RX3 32 "ZHeads" "brokenRule" "I") (by decide +kernel)) (fun _ h9 => h9) rfl dX3_read_14 ?_
                    refine zr_if_ne (tgt := 42) hx hb dX3_read_17 (by decide) (by omega) (fun c => absurd c (by decide)) (fun c_38 => ?_)
                    refine lv_aload_n hx hb dX3_read_20 rfl (lv_at hl 1 rfl) ?_
                    refine va_get (D := D) (ci := 4) (v := .ref hh) (C := RX3) (T := TX3) (N := 5) hx hb hts in_X3_read_X3 hown hK hP 0 rfl rfl 2 (by decide) (hts (.fieldLink RX3 24 "ZHeads" "head" "LZHeads$Head;") (by decide +kernel)) (fun _ h9 => h9) rfl dX3_read_21 ?_
                    refine lv_iload_n hx hb dX3_read_24 rfl (lv_at hl 0 rfl) ?_
                    refine zc_V (As := [.int (zi_n 10)]) (rest := []) ⟨hx, hb, hml, hown, hts⟩ (c_Hd_holds10 l D hh q a cA F n hF (by omega) (by omega)) (cwV 1 hts gX3_read_X0_holds rfl rfl rfl (by decide +kernel) ⟨(Nat.le_of_ble_eq_true rfl), (Nat.le_of_ble_eq_true rfl)⟩) hP hK [3, 1, 4] [0] rfl rfl (ci := 2) rfl rfl rfl rfl hl.1 rfl (Nat.le_of_ble_eq_true rfl) dX3_read_25 ⟨Nat.zero_le _, Nat.zero_le _⟩ (fun r hr1 => ?_)
                    rcases hr1 with ⟨rfl, c_39⟩ | ⟨rfl, c_39⟩
                    · refine zr_if_ne (tgt := 36) hx hb dX3_read_28 (by decide) (by omega) (fun c_40 => ?_) (fun c => absurd c (by decide))
                      refine zr_iinc (lv' := [(1, .int (zi_n 11)), (0, .ref x)]) hx hb dX3_read_36 hl (k := 0) rfl (by decide) rfl (fun ls hl => ?_)
                      refine lv_goto (tgt := 7) hx hb dX3_read_39 (by decide) ?_
                      refine lv_iload_n hx hb dX3_read_7 rfl (lv_at hl 0 rfl) ?_
                      refine zr_bipush hx hb dX3_read_8 (by decide) ?_
                      refine zr_icmp_gt (tgt := 42) hx hb dX3_read_10 (by decide) (by omega) (by omega) (fun c => absurd c (by decide)) (fun c_41 => ?_)
                      refine lv_aload_n hx hb dX3_read_13 rfl (lv_at hl 1 rfl) ?_
                      refine va_get (D := D) (ci := 4) (v := .int (zi_n 0)) (C := RX3) (T := TX3) (N := 5) hx hb hts in_X3_read_X3 hown hK hP 0 rfl rfl 4 (by decide) (hts (.fieldLink RX3 32 "ZHeads" "brokenRule" "I") (by decide +kernel)) (fun _ h9 => h9) rfl dX3_read_14 ?_
                      refine zr_if_ne (tgt := 42) hx hb dX3_read_17 (by decide) (by omega) (fun c => absurd c (by decide)) (fun c_42 => ?_)
                      refine lv_aload_n hx hb dX3_read_20 rfl (lv_at hl 1 rfl) ?_
                      refine va_get (D := D) (ci := 4) (v := .ref hh) (C := RX3) (T := TX3) (N := 5) hx hb hts in_X3_read_X3 hown hK hP 0 rfl rfl 2 (by decide) (hts (.fieldLink RX3 24 "ZHeads" "head" "LZHeads$Head;") (by decide +kernel)) (fun _ h9 => h9) rfl dX3_read_21 ?_
                      refine lv_iload_n hx hb dX3_read_24 rfl (lv_at hl 0 rfl) ?_
                      refine zc_V (As := [.int (zi_n 11)]) (rest := []) ⟨hx, hb, hml, hown, hts⟩ (c_Hd_holds11 l D hh q a cA F n hF (by omega) (by omega)) (cwV 1 hts gX3_read_X0_holds rfl rfl rfl (by decide +kernel) ⟨(Nat.le_of_ble_eq_true rfl), (Nat.le_of_ble_eq_true rfl)⟩) hP hK [3, 1, 4] [0] rfl rfl (ci := 2) rfl rfl rfl rfl hl.1 rfl (Nat.le_of_ble_eq_true rfl) dX3_read_25 ⟨Nat.zero_le _, Nat.zero_le _⟩ (fun r hr1 => ?_)
                      rcases hr1 with ⟨rfl, c_43⟩ | ⟨rfl, c_43⟩
                      · refine zr_if_ne (tgt := 36) hx hb dX3_read_28 (by decide) (by omega) (fun c_44 => ?_) (fun c => absurd c (by decide))
                        refine zr_iinc (lv' := [(1, .int (zi_n 12)), (0, .ref x)]) hx hb dX3_read_36 hl (k := 0) rfl (by decide) rfl (fun ls hl => ?_)
                        refine lv_goto (tgt := 7) hx hb dX3_read_39 (by decide) ?_
                        refine lv_iload_n hx hb dX3_read_7 rfl (lv_at hl 0 rfl) ?_
                        refine zr_bipush hx hb dX3_read_8 (by decide) ?_
                        refine zr_icmp_gt (tgt := 42) hx hb dX3_read_10 (by decide) (by omega) (by omega) (fun c => absurd c (by decide)) (fun c_45 => ?_)
                        refine lv_aload_n hx hb dX3_read_13 rfl (lv_at hl 1 rfl) ?_
                        refine va_get (D := D) (ci := 4) (v := .int (zi_n 0)) (C := RX3) (T := TX3) (N := 5) hx hb hts in_X3_read_X3 hown hK hP 0 rfl rfl 4 (by decide) (hts (.fieldLink RX3 32 "ZHeads" "brokenRule" "I") (by decide +kernel)) (fun _ h9 => h9) rfl dX3_read_14 ?_
                        refine zr_if_ne (tgt := 42) hx hb dX3_read_17 (by decide) (by omega) (fun c => absurd c (by decide)) (fun c_46 => ?_)
                        refine lv_aload_n hx hb dX3_read_20 rfl (lv_at hl 1 rfl) ?_
                        refine va_get (D := D) (ci := 4) (v := .ref hh) (C := RX3) (T := TX3) (N := 5) hx hb hts in_X3_read_X3 hown hK hP 0 rfl rfl 2 (by decide) (hts (.fieldLink RX3 24 "ZHeads" "head" "LZHeads$Head;") (by decide +kernel)) (fun _ h9 => h9) rfl dX3_read_21 ?_
                        refine lv_iload_n hx hb dX3_read_24 rfl (lv_at hl 0 rfl) ?_
                        refine zc_V (As := [.int (zi_n 12)]) (rest := []) ⟨hx, hb, hml, hown, hts⟩ (c_Hd_holds12 l D hh q a cA F n hF (by omega) (by omega)) (cwV 1 hts gX3_read_X0_holds rfl rfl rfl (by decide +kernel) ⟨(Nat.le_of_ble_eq_true rfl), (Nat.le_of_ble_eq_true rfl)⟩) hP hK [3, 1, 4] [0] rfl rfl (ci := 2) rfl rfl rfl rfl hl.1 rfl (Nat.le_of_ble_eq_true rfl) dX3_read_25 ⟨Nat.zero_le _, Nat.zero_le _⟩ (fun r hr1 => ?_)
                        rcases hr1 with ⟨rfl, c_47⟩ | ⟨rfl, c_47⟩
                        · refine zr_if_ne (tgt := 36) hx hb dX3_read_28 (by decide) (by omega) (fun c_48 => ?_) (fun c => absurd c (by decide))
                          refine zr_iinc (lv' := [(1, .int (zi_n 13)), (0, .ref x)]) hx hb dX3_read_36 hl (k := 0) rfl (by decide) rfl (fun ls hl => ?_)
                          refine lv_goto (tgt := 7) hx hb dX3_read_39 (by decide) ?_
                          refine lv_iload_n hx hb dX3_read_7 rfl (lv_at hl 0 rfl) ?_
                          refine zr_bipush hx hb dX3_read_8 (by decide) ?_
                          refine zr_icmp_gt (tgt := 42) hx hb dX3_read_10 (by decide) (by omega) (by omega) (fun c => absurd c (by decide)) (fun c_49 => ?_)
                          refine lv_aload_n hx hb dX3_read_13 rfl (lv_at hl 1 rfl) ?_
                          refine va_get (D := D) (ci := 4) (v := .int (zi_n 0)) (C := RX3) (T := TX3) (N := 5) hx hb hts in_X3_read_X3 hown hK hP 0 rfl rfl 4 (by decide) (hts (.fieldLink RX3 32 "ZHeads" "brokenRule" "I") (by decide +kernel)) (fun _ h9 => h9) rfl dX3_read_14 ?_
                          refine zr_if_ne (tgt := 42) hx hb dX3_read_17 (by decide) (by omega) (fun c => absurd c (by decide)) (fun c_50 => ?_)
                          refine lv_aload_n hx hb dX3_read_20 rfl (lv_at hl 1 rfl) ?_
                          refine va_get (D := D) (ci := 4) (v := .ref hh) (C := RX3) (T := TX3) (N := 5) hx hb hts in_X3_read_X3 hown hK hP 0 rfl rfl 2 (by decide) (hts (.fieldLink RX3 24 "ZHeads" "head" "LZHeads$Head;") (by decide +kernel)) (fun _ h9 => h9) rfl dX3_read_21 ?_
                          refine lv_iload_n hx hb dX3_read_24 rfl (lv_at hl 0 rfl) ?_
                          refine zc_V (As := [.int (zi_n 13)]) (rest := []) ⟨hx, hb, hml, hown, hts⟩ (c_Hd_holds13 l D hh q a cA F n hF (by omega) (by omega) (by omega)) (cwV 1 hts gX3_read_X0_holds rfl rfl rfl (by decide +kernel) ⟨(Nat.le_of_ble_eq_true rfl), (Nat.le_of_ble_eq_true rfl)⟩) hP hK [3, 1, 4] [0] rfl rfl (ci := 2) rfl rfl rfl rfl hl.1 rfl (Nat.le_of_ble_eq_true rfl) dX3_read_25 ⟨Nat.zero_le _, Nat.zero_le _⟩ (fun r hr1 => ?_)
                          rcases hr1 with ⟨rfl, c_51⟩ | ⟨rfl, c_51⟩
                          · refine zr_if_ne (tgt := 36) hx hb dX3_read_28 (by decide) (by omega) (fun c_52 => ?_) (fun c => absurd c (by decide))
                            refine zr_iinc (lv' := [(1, .int (zi_n 14)), (0, .ref x)]) hx hb dX3_read_36 hl (k := 0) rfl (by decide) rfl (fun ls hl => ?_)
                            refine lv_goto (tgt := 7) hx hb dX3_read_39 (by decide) ?_
                            refine lv_iload_n hx hb dX3_read_7 rfl (lv_at hl 0 rfl) ?_
                            refine zr_bipush hx hb dX3_read_8 (by decide) ?_
                            refine zr_icmp_gt (tgt := 42) hx hb dX3_read_10 (by decide) (by omega) (by omega) (fun c => absurd c (by decide)) (fun c_53 => ?_)
                            refine lv_aload_n hx hb dX3_read_13 rfl (lv_at hl 1 rfl) ?_
                            refine va_get (D := D) (ci := 4) (v := .int (zi_n 0)) (C := RX3) (T := TX3) (N := 5) hx hb hts in_X3_read_X3 hown hK hP 0 rfl rfl 4 (by decide) (hts (.fieldLink RX3 32 "ZHeads" "brokenRule" "I") (by decide +kernel)) (fun _ h9 => h9) rfl dX3_read_14 ?_
                            refine zr_if_ne (tgt := 42) hx hb dX3_read_17 (by decide) (by omega) (fun c => absurd c (by decide)) (fun c_54 => ?_)
                            refine lv_aload_n hx hb dX3_read_20 rfl (lv_at hl 1 rfl) ?_
                            refine va_get (D := D) (ci := 4) (v := .ref hh) (C := RX3) (T := TX3) (N := 5) hx hb hts in_X3_read_X3 hown hK hP 0 rfl rfl 2 (by decide) (hts (.fieldLink RX3 24 "ZHeads" "head" "LZHeads$Head;") (by decide +kernel)) (fun _ h9 => h9) rfl dX3_read_21 ?_
                            refine lv_iload_n hx hb dX3_read_24 rfl (lv_at hl 0 rfl) ?_
                            refine zc_V (As := [.int (zi_n 14)]) (rest := []) ⟨hx, hb, hml, hown, hts⟩ (c_Hd_holds14 l D hh q a cA F n hF (by omega) (by omega)) (cwV 1 hts gX3_read_X0_holds rfl rfl rfl (by decide +kernel) ⟨(Nat.le_of_ble_eq_true rfl), (Nat.le_of_ble_eq_true rfl)⟩) hP hK [3, 1, 4] [0] rfl rfl (ci := 2) rfl rfl rfl rfl hl.1 rfl (Nat.le_of_ble_eq_true rfl) dX3_read_25 ⟨Nat.zero_le _, Nat.zero_le _⟩ (fun r hr1 => ?_)
                            rcases hr1 with ⟨rfl, c_55⟩ | ⟨rfl, c_55⟩
                            · refine zr_if_ne (tgt := 36) hx hb dX3_read_28 (by decide) (by omega) (fun c_56 => ?_) (fun c => absurd c (by decide))
                              refine zr_iinc (lv' := [(1, .int (zi_n 15)), (0, .ref x)]) hx hb dX3_read_36 hl (k := 0) rfl (by decide) rfl (fun ls hl => ?_)
                              refine lv_goto (tgt := 7) hx hb dX3_read_39 (by decide) ?_
                              refine lv_iload_n hx hb dX3_read_7 rfl (lv_at hl 0 rfl) ?_
                              refine zr_bipush hx hb dX3_read_8 (by decide) ?_
                              refine zr_icmp_gt (tgt := 42) hx hb dX3_read_10 (by decide) (by omega) (by omega) (fun c => absurd c (by decide)) (fun c_57 => ?_)
                              refine lv_aload_n hx hb dX3_read_13 rfl (lv_at hl 1 rfl) ?_
                              refine va_get (D := D) (ci := 4) (v := .int (zi_n 0)) (C := RX3) (T := TX3) (N := 5) hx hb hts in_X3_read_X3 hown hK hP 0 rfl rfl 4 (by decide) (hts (.fieldLink RX3 32 "ZHeads" "brokenRule" "I") (by decide +kernel)) (fun _ h9 => h9) rfl dX3_read_14 ?_
                              refine zr_if_ne (tgt := 42) hx hb dX3_read_17 (by decide) (by omega) (fun c => absurd c (by decide)) (fun c_58 => ?_)
                              refine lv_aload_n hx hb dX3_read_20 rfl (lv_at hl 1 rfl) ?_
                              refine va_get (D := D) (ci := 4) (v := .ref hh) (C := RX3) (T := TX3) (N := 5) hx hb hts in_X3_read_X3 hown hK hP 0 rfl rfl 2 (by decide) (hts (.fieldLink RX3 24 "ZHeads" "head" "LZHeads$Head;") (by decide +kernel)) (fun _ h9 => h9) rfl dX3_read_21 ?_
                              refine lv_iload_n hx hb dX3_read_24 rfl (lv_at hl 0 rfl) ?_
                              refine zc_V (As := [.int (zi_n 15)]) (rest := []) ⟨hx, hb, hml, hown, hts⟩ (c_Hd_holds15 l D hh q a cA F n hF (by omega) (by omega)) (cwV 1 hts gX3_read_X0_holds rfl rfl rfl (by decide +kernel) ⟨(Nat.le_of_ble_eq_true rfl), (Nat.le_of_ble_eq_true rfl)⟩) hP hK [3, 1, 4] [0] rfl rfl (ci := 2) rfl rfl rfl rfl hl.1 rfl (Nat.le_of_ble_eq_true rfl) dX3_read_25 ⟨Nat.zero_le _, Nat.zero_le _⟩ (fun r hr1 => ?_)
                              rcases hr1 with ⟨rfl, c_59⟩ | ⟨rfl, c_59⟩
                              · refine zr_if_ne (tgt := 36) hx hb dX3_read_28 (by decide) (by omega) (fun c_60 => ?_) (fun c => absurd c (by decide))
                                refine zr_iinc (lv' := [(1, .int (zi_n 16)), (0, .ref x)]) hx hb dX3_read_36 hl (k := 0) rfl (by decide) rfl (fun ls hl => ?_)
                                refine lv_goto (tgt := 7) hx hb dX3_read_39 (by decide) ?_
                                refine lv_iload_n hx hb dX3_read_7 rfl (lv_at hl 0 rfl) ?_
                                refine zr_bipush hx hb dX3_read_8 (by decide) ?_
                                refine zr_icmp_gt (tgt := 42) hx hb dX3_read_10 (by decide) (by omega) (by omega) (fun c_61 => ?_) (fun c => absurd c (by decide))
                                refine lv_aload_n hx hb dX3_read_42 rfl (lv_at hl 1 rfl) ?_
                                refine lv_aload_n hx hb dX3_read_43 rfl (lv_at hl 1 rfl) ?_
                                refine va_get (D := D) (ci := 4) (v := .int (zi_n 0)) (C := RX3) (T := TX3) (N := 5) hx hb hts in_X3_read_X3 hown hK hP 0 rfl rfl 4 (by decide) (hts (.fieldLink RX3 32 "ZHeads" "brokenRule" "I") (by decide +kernel)) (fun _ h9 => h9) rfl dX3_read_44 ?_
                                refine zr_if_ne (tgt := 54) hx hb dX3_read_47 (by decide) (by omega) (fun c => absurd c (by decide)) (fun c_62 => ?_)
                                refine zr_iconst hx hb dX3_read_50 ?_
                                refine lv_goto (tgt := 55) hx hb dX3_read_51 (by decide) ?_
                                refine va_put (D := D) (ci := 4) (v := .int (zi_n 1)) (ty := .boolean) (C := RX3) (T := TX3) (N := 5) hx hb hts in_X3_read_X3 tyX3 tyX3_ok nmX3 hown hK hP hD hS 0 rfl rfl 3 (by decide) (hts (.fieldLink RX3 28 "ZHeads" "isRead" "Z") (by decide +kernel)) (fun _ h9 => h9) rfl (by decide +kernel) (by decide) rfl (Nat.le_of_ble_eq_true rfl) dX3_read_55 (fun H locs hP hD hS => ?_)
                                have hP : va_P D vwCl [(x, .inr (4, [.ref q, .ref q2, .ref hh, .int (zi_n 1), .int (zi_n 0)])), (q, .inr (3, [.ref a, .int (zi_n n)])), (q2, .inr (3, [.ref a2, .int (zi_n k)])), (hh, .inr (2, [.ref q])), (a, .inl (cA, 600, .inl (zi_F F))), (a2, .inl (cB, 600, .inl (zi_F G)))] H := hP
                                have hD : va_D A [(x, .inr (4, [.ref q, .ref q2, .ref hh, .int (zi_n 1), .int (zi_n 0)])), (q, .inr (3, [.ref a, .int (zi_n n)])), (q2, .inr (3, [.ref a2, .int (zi_n k)])), (hh, .inr (2, [.ref q])), (a, .inl (cA, 600, .inl (zi_F F))), (a2, .inl (cB, 600, .inl (zi_F G)))] := hD
                                refine lv_aload_n hx hb dX3_read_58 rfl (lv_at hl 1 rfl) ?_
                                refine va_get (D := D) (ci := 4) (v := .int (zi_n 1)) (C := RX3) (T := TX3) (N := 5) hx hb hts in_X3_read_X3 hown hK hP 0 rfl rfl 3 (by decide) (hts (.fieldLink RX3 28 "ZHeads" "isRead" "Z") (by decide +kernel)) (fun _ h9 => h9) rfl dX3_read_59 ?_
                                refine zr_if_ne (tgt := 80) hx hb dX3_read_62 (by decide) (by omega) (fun c_63 => ?_) (fun c => absurd c (by decide))
                                refine lv_aload_n hx hb dX3_read_80 rfl (lv_at hl 1 rfl) ?_
                                refine va_get (D := D) (ci := 4) (v := .ref q2) (C := RX3) (T := TX3) (N := 5) hx hb hts in_X3_read_X3 hown hK hP 0 rfl rfl 1 (by decide) (hts (.fieldLink RX3 16 "ZHeads" "memory" "LZHeads$Row;") (by decide +kernel)) (fun _ h9 => h9) rfl dX3_read_81 ?_
                                refine lv_aload_n hx hb dX3_read_84 rfl (lv_at hl 1 rfl) ?_
                                refine va_get (D := D) (ci := 4) (v := .ref q) (C := RX3) (T := TX3) (N := 5) hx hb hts in_X3_read_X3 hown hK hP 0 rfl rfl 0 (by decide) (hts (.fieldLink RX3 10 "ZHeads" "file" "LZHeads$Row;") (by decide +kernel)) (fun _ h9 => h9) rfl dX3_read_85 ?_
                                refine zc_Vv (As := [.ref q]) (rest := []) (wr := [(x, .inr (4, [.ref q, .ref q2, .ref hh, .int (zi_n 1), .int (zi_n 0)])), (hh, .inr (2, [.ref q]))]) (wf := fun (_ : Unit) => [(x, .inr (4, [.ref q, .ref q2, .ref hh, .int (zi_n 1), .int (zi_n 0)])), (q, .inr (3, [.ref a, .int (zi_n n)])), (q2, .inr (3, [.ref a2, .int (zi_n n)])), (hh, .inr (2, [.ref q])), (a, .inl (cA, 600, .inl (zi_F F))), (a2, .inl (cB, 600, .inl (zi_F (zh_cp F G))))]) ⟨hx, hb, hml, hown, hts⟩ (c_Row_copy l D q2 q a2 a cB cA G F k n hG (by omega) hF (by omega) _) (cwV 1 hts gX3_read_X2_copy rfl rfl rfl (by decide +kernel) ⟨(Nat.le_of_ble_eq_true rfl), (Nat.le_of_ble_eq_true rfl)⟩) hP hD hK hS hA [2, 1, 5, 4] [0, 3] [1, 0] [0, 3, 2, 1, 5, 4] rfl rfl (by decide) rfl (by decide) (by decide) rfl (fun _ => rfl) (fun _ => rfl) (by decide) (ci := 3) rfl rfl rfl rfl hl.1 rfl (Nat.le_of_ble_eq_true rfl) dX3_read_88 ⟨Nat.zero_le _, Nat.zero_le _⟩ (fun _ hr1 H locs hP hD hS => ?_)
                                have hF_64 : zi_By (zh_cp F G) := zh_cp_By hF hG
                                have hP : va_P D vwCl [(x, .inr (4, [.ref q, .ref q2, .ref hh, .int (zi_n 1), .int (zi_n 0)])), (q, .inr (3, [.ref a, .int (zi_n n)])), (q2, .inr (3, [.ref a2, .int (zi_n n)])), (hh, .inr (2, [.ref q])), (a, .inl (cA, 600, .inl (zi_F F))), (a2, .inl (cB, 600, .inl (zi_F (zh_cp F G))))] H := hP
                                have hD : va_D A [(x, .inr (4, [.ref q, .ref q2, .ref hh, .int (zi_n 1), .int (zi_n 0)])), (q, .inr (3, [.ref a, .int (zi_n n)])), (q2, .inr (3, [.ref a2, .int (zi_n n)])), (hh, .inr (2, [.ref q])), (a, .inl (cA, 600, .inl (zi_F F))), (a2, .inl (cB, 600, .inl (zi_F (zh_cp F G))))] := hD
                                refine lv_aload_n hx hb dX3_read_91 rfl (lv_at hl 1 rfl) ?_
                                refine va_get (D := D) (ci := 4) (v := .ref hh) (C := RX3) (T := TX3) (N := 5) hx hb hts in_X3_read_X3 hown hK hP 0 rfl rfl 2 (by decide) (hts (.fieldLink RX3 24 "ZHeads" "head" "LZHeads$Head;") (by decide +kernel)) (fun _ h9 => h9) rfl dX3_read_92 ?_
                                refine zc_V (As := []) (rest := []) ⟨hx, hb, hml, hown, hts⟩ (c_Hd_version l D hh q a cA F n hF (by omega) (by omega)) (cwV 0 hts gX3_read_X0_version rfl rfl rfl (by decide +kernel) ⟨(Nat.le_of_ble_eq_true rfl), (Nat.le_of_ble_eq_true rfl)⟩) hP hK [3, 1, 4] [0] rfl rfl (ci := 2) rfl rfl rfl rfl hl.1 rfl (Nat.le_of_ble_eq_true rfl) dX3_read_95 ⟨Nat.zero_le _, Nat.zero_le _⟩ (fun r hr1 => ?_)
                                obtain ⟨rfl, b_65⟩ := hr1
                                have e_n_66_0 : zh_rdR 0 = 1 := by rfl
                                have e_n_66_1 : zh_rdB 0 = 0 := by rfl
                                have e_n_66_2 : zh_rdK n k 0 = n := by rfl
                                have e_n_66_3 : zh_rdG F G 0 = zh_cp F G := by rfl
                                have hP9 : va_P D vwCl [(x, .inr (4, [.ref q, .ref q2, .ref hh, .int (zi_n (zh_rdR 0)), .int (zi_n (zh_rdB 0))])), (q, .inr (3, [.ref a, .int (zi_n n)])), (q2, .inr (3, [.ref a2, .int (zi_n (zh_rdK n k 0))])), (hh, .inr (2, [.ref q])), (a, .inl (cA, 600, .inl (zi_F F))), (a2, .inl (cB, 600, .inl (zi_F (zh_rdG F G 0))))] H := by rw [e_n_66_0, e_n_66_1, e_n_66_2, e_n_66_3]; exact hP
                                have hD9 : va_D A [(x, .inr (4, [.ref q, .ref q2, .ref hh, .int (zi_n (zh_rdR 0)), .int (zi_n (zh_rdB 0))])), (q, .inr (3, [.ref a, .int (zi_n n)])), (q2, .inr (3, [.ref a2, .int (zi_n (zh_rdK n k 0))])), (hh, .inr (2, [.ref q])), (a, .inl (cA, 600, .inl (zi_F F))), (a2, .inl (cB, 600, .inl (zi_F (zh_rdG F G 0))))] := by rw [e_n_66_0, e_n_66_1, e_n_66_2, e_n_66_3]; exact hD
                                exact W.iret (v := zi_n (F 0)) hx hb hr (fun t ht hW => ⟨⟨zi_n (F 0), 0, rfl, ⟨zh_first_0 (zh_all_s (zh_all_s (zh_all_s (zh_all_s (zh_all_s (zh_all_s (zh_all_s (zh_all_s (zh_all_s (zh_all_s (zh_all_s (zh_all_s (zh_all_s (zh_all_s (zh_all_s zh_all_0 c_3) c_7) c_11) c_15) c_19) c_23) c_27) c_31) c_35) c_39) c_43) c_47) c_51) c_55) c_59), rfl⟩, by rw [ht]; exact hP9, va_K.moved hW.alike hK, hD9⟩, hS.F ht⟩) hS.2.2 dX3_read_98
                              · refine zr_if_ne (tgt := 36) hx hb dX3_read_28 (by decide) (by omega) (fun c => absurd c (by decide)) (fun c_67 => ?_)
                                refine lv_aload_n hx hb dX3_read_31 rfl (lv_at hl 1 rfl) ?_
                                refine lv_iload_n hx hb dX3_read_32 rfl (lv_at hl 0 rfl) ?_
                                refine va_put (D := D) (ci := 4) (v := .int (zi_n 15)) (ty := .int) (C := RX3) (T := TX3) (N := 5) hx hb hts in_X3_read_X3 tyX3 tyX3_ok nmX3 hown hK hP hD hS 0 rfl rfl 4 (by decide) (hts (.fieldLink RX3 32 "ZHeads" "brokenRule" "I") (by decide +kernel)) (fun _ h9 => h9) rfl (by decide +kernel) rfl rfl (Nat.le_of_ble_eq_true rfl) dX3_read_33 (fun H locs hP hD hS => ?_)
                                have hP : va_P D vwCl [(x, .inr (4, [.ref q, .ref q2, .ref hh, .int (zi_n rd), .int (zi_n 15)])), (q, .inr (3, [.ref a, .int (zi_n n)])), (q2, .inr (3, [.ref a2, .int (zi_n k)])), (hh, .inr (2, [.ref q])), (a, .inl (cA, 600, .inl (zi_F F))), (a2, .inl (cB, 600, .inl (zi_F G)))] H := hP
                                have hD : va_D A [(x, .inr (4, [.ref q, .ref q2, .ref hh, .int (zi_n rd), .int (zi_n 15)])), (q, .inr (3, [.ref a, .int (zi_n n)])), (q2, .inr (3, [.ref a2, .int (zi_n k)])), (hh, .inr (2, [.ref q])), (a, .inl (cA, 600, .inl (zi_F F))), (a2, .inl (cB, 600, .inl (zi_F G)))] := hD
                                refine zr_iinc (lv' := [(1, .int (zi_n 16)), (0, .ref x)]) hx hb dX3_read_36 hl (k := 0) rfl (by decide) rfl (fun ls hl => ?_)
                                refine lv_goto (tgt := 7) hx hb dX3_read_39 (by decide) ?_
                                refine lv_iload_n hx hb dX3_read_7 rfl (lv_at hl 0 rfl) ?_
                                refine zr_bipush hx hb dX3_read_8 (by decide) ?_
                                refine zr_icmp_gt (tgt := 42) hx hb dX3_read_10 (by decide) (by omega) (by omega) (fun c_68 => ?_) (fun c => absurd c (by decide))
                                refine lv_aload_n hx hb dX3_read_42 rfl (lv_at hl 1 rfl) ?_
                                refine lv_aload_n hx hb dX3_read_43 rfl (lv_at hl 1 rfl) ?_
                                refine va_get (D := D) (ci := 4) (v := .int (zi_n 15)) (C := RX3) (T := TX3) (N := 5) hx hb hts in_X3_read_X3 hown hK hP 0 rfl rfl 4 (by decide) (hts (.fieldLink RX3 32 "ZHeads" "brokenRule" "I") (by decide +kernel)) (fun _ h9 => h9) rfl dX3_read_44 ?_
                                refine zr_if_ne (tgt := 54) hx hb dX3_read_47 (by decide) (by omega) (fun c_69 => ?_) (fun c => absurd c (by decide))
                                refine zr_iconst hx hb dX3_read_54 ?_
                                refine va_put (D := D) (ci := 4) (v := .int (zi_n 0)) (ty := .boolean) (C := RX3) (T := TX3) (N := 5) hx hb hts in_X3_read_X3 tyX3 tyX3_ok nmX3 hown hK hP hD hS 0 rfl rfl 3 (by decide) (hts (.fieldLink RX3 28 "ZHeads" "isRead" "Z") (by decide +kernel)) (fun _ h9 => h9) rfl (by decide +kernel) (by decide) rfl (Nat.le_of_ble_eq_true rfl) dX3_read_55 (fun H locs hP hD hS => ?_)
                                have hP : va_P D vwCl [(x, .inr (4, [.ref q, .ref q2, .ref hh, .int (zi_n 0), .int (zi_n 15)])), (q, .inr (3, [.ref a, .int (zi_n n)])), (q2, .inr (3, [.ref a2, .int (zi_n k)])), (hh, .inr (2, [.ref q])), (a, .inl (cA, 600, .inl (zi_F F))), (a2, .inl (cB, 600, .inl (zi_F G)))] H := hP
                                have hD : va_D A [(x, .inr (4, [.ref q, .ref q2, .ref hh, .int (zi_n 0), .int (zi_n 15)])), (q, .inr (3, [.ref a, .int (zi_n n)])), (q2, .inr (3, [.ref a2, .int (zi_n k)])), (hh, .inr (2, [.ref q])), (a, .inl (cA, 600, .inl (zi_F F))), (a2, .inl (cB, 600, .inl (zi_F G)))] := hD
                                refine lv_aload_n hx hb dX3_read_58 rfl (lv_at hl 1 rfl) ?_
                                refine va_get (D := D) (ci := 4) (v := .int (zi_n 0)) (C := RX3) (T := TX3) (N := 5) hx hb hts in_X3_read_X3 hown hK hP 0 rfl rfl 3 (by decide) (hts (.fieldLink RX3 28 "ZHeads" "isRead" "Z") (by decide +kernel)) (fun _ h9 => h9) rfl dX3_read_59 ?_
                                refine zr_if_ne (tgt := 80) hx hb dX3_read_62 (by decide) (by omega) (fun c => absurd c (by decide)) (fun c_70 => ?_)
                                refine zr_bipush hx hb dX3_read_65 (by decide) ?_
                                refine lv_aload_n hx hb dX3_read_67 rfl (lv_at hl 1 rfl) ?_
                                refine va_get (D := D) (ci := 4) (v := .ref hh) (C := RX3) (T := TX3) (N := 5) hx hb hts in_X3_read_X3 hown hK hP 0 rfl rfl 2 (by decide) (hts (.fieldLink RX3 24 "ZHeads" "head" "LZHeads$Head;") (by decide +kernel)) (fun _ h9 => h9) rfl dX3_read_68 ?_
                                refine lv_aload_n hx hb dX3_read_71 rfl (lv_at hl 1 rfl) ?_
                                refine va_get (D := D) (ci := 4) (v := .int (zi_n 15)) (C := RX3) (T := TX3) (N := 5) hx hb hts in_X3_read_X3 hown hK hP 0 rfl rfl 4 (by decide) (hts (.fieldLink RX3 32 "ZHeads" "brokenRule" "I") (by decide +kernel)) (fun _ h9 => h9) rfl dX3_read_72 ?_
                                refine zc_V (As := [.int (zi_n 15)]) (rest := [.int (zi_n (-20))]) ⟨hx, hb, hml, hown, hts⟩ (c_Hd_placeOf15 l D hh q a cA F n hF (by omega) (by omega)) (cwV 1 hts gX3_read_X0_placeOf rfl rfl rfl (by decide +kernel) ⟨(Nat.le_of_ble_eq_true rfl), (Nat.le_of_ble_eq_true rfl)⟩) hP hK [3, 1, 4] [0] rfl rfl (ci := 2) rfl rfl rfl rfl hl.1 rfl (Nat.le_of_ble_eq_true rfl) dX3_read_75 ⟨Nat.zero_le _, Nat.zero_le _⟩ (fun r hr1 => ?_)
                                obtain ⟨rfl, b_71⟩ := hr1
                                refine zr_isub hx hb dX3_read_78 ?_
                                have e_n_72_0 : zh_rdR 15 = 0 := by rfl
                                have e_n_72_1 : zh_rdB 15 = 15 := by rfl
                                have e_n_72_2 : zh_rdK n k 15 = k := by rfl
                                have e_n_72_3 : zh_rdG F G 15 = G := by rfl
                                have hP9 : va_P D vwCl [(x, .inr (4, [.ref q, .ref q2, .ref hh, .int (zi_n (zh_rdR 15)), .int (zi_n (zh_rdB 15))])), (q, .inr (3, [.ref a, .int (zi_n n)])), (q2, .inr (3, [.ref a2, .int (zi_n (zh_rdK n k 15))])), (hh, .inr (2, [.ref q])), (a, .inl (cA, 600, .inl (zi_F F))), (a2, .inl (cB, 600, .inl (zi_F (zh_rdG F G 15))))] H := by rw [e_n_72_0, e_n_72_1, e_n_72_2, e_n_72_3]; exact hP
                                have hD9 : va_D A [(x, .inr (4, [.ref q, .ref q2, .ref hh, .int (zi_n (zh_rdR 15)), .int (zi_n (zh_rdB 15))])), (q, .inr (3, [.ref a, .int (zi_n n)])), (q2, .inr (3, [.ref a2, .int (zi_n (zh_rdK n k 15))])), (hh, .inr (2, [.ref q])), (a, .inl (cA, 600, .inl (zi_F F))), (a2, .inl (cB, 600, .inl (zi_F (zh_rdG F G 15))))] := by rw [e_n_72_0, e_n_72_1, e_n_72_2, e_n_72_3]; exact hD
                                exact W.iret (v := zi_n ((-20) - (zh_more F + 6))) hx hb hr (fun t ht hW => ⟨⟨zi_n ((-20) - (zh_more F + 6)), 15, rfl, ⟨zh_first_b 14 (by decide) (zh_all_s (zh_all_s (zh_all_s (zh_all_s (zh_all_s (zh_all_s (zh_all_s (zh_all_s (zh_all_s (zh_all_s (zh_all_s (zh_all_s (zh_all_s (zh_all_s zh_all_0 c_3) c_7) c_11) c_15) c_19) c_23) c_27) c_31) c_35) c_39) c_43) c_47) c_51) c_55) c_59, rfl⟩, by rw [ht]; exact hP9, va_K.moved hW.alike hK, hD9⟩, hS.F ht⟩) hS.2.2 dX3_read_79
                            · refine zr_if_ne (tgt := 36) hx hb dX3_read_28 (by decide) (by omega) (fun c => absurd c (by decide)) (fun c_73 => ?_)
                              refine lv_aload_n hx hb dX3_read_31 rfl (lv_at hl 1 rfl) ?_
                              refine lv_iload_n hx hb dX3_read_32 rfl (lv_at hl 0 rfl) ?_
                              refine va_put (D := D) (ci := 4) (v := .int (zi_n 14)) (ty := .int) (C := RX3) (T := TX3) (N := 5) hx hb hts in_X3_read_X3 tyX3 tyX3_ok nmX3 hown hK hP hD hS 0 rfl rfl 4 (by decide) (hts (.fieldLink RX3 32 "ZHeads" "brokenRule" "I") (by decide +kernel)) (fun _ h9 => h9) rfl (by decide +kernel) rfl rfl (Nat.le_of_ble_eq_true rfl) dX3_read_33 (fun H locs hP hD hS => ?_)
                              have hP : va_P D vwCl [(x, .inr (4, [.ref q, .ref q2, .ref hh, .int (zi_n rd), .int (zi_n 14)])), (q, .inr (3, [.ref a, .int (zi_n n)])), (q2, .inr (3, [.ref a2, .int (zi_n k)])), (hh, .inr (2, [.ref q])), (a, .inl (cA, 600, .inl (zi_F F))), (a2, .inl (cB, 600, .inl (zi_F G)))] H := hP
                              have hD : va_D A [(x, .inr (4, [.ref q, .ref q2, .ref hh, .int (zi_n rd), .int (zi_n 14)])), (q, .inr (3, [.ref a, .int (zi_n n)])), (q2, .inr (3, [.ref a2, .int (zi_n k)])), (hh, .inr (2, [.ref q])), (a, .inl (cA, 600, .inl (zi_F F))), (a2, .inl (cB, 600, .inl (zi_F G)))] := hD
                              refine zr_iinc (lv' := [(1, .int (zi_n 15)), (0, .ref x)]) hx hb dX3_read_36 hl (k := 0) rfl (by decide) rfl (fun ls hl => ?_)
                              refine lv_goto (tgt := 7) hx hb dX3_read_39 (by decide) ?_
                              refine lv_iload_n hx hb dX3_read_7 rfl (lv_at hl 0 rfl) ?_
                              refine zr_bipush hx hb dX3_read_8 (by decide) ?_
                              refine zr_icmp_gt (tgt := 42) hx hb dX3_read_10 (by decide) (by omega) (by omega) (fun c => absurd c (by decide)) (fun c_74 => ?_)
                              refine lv_aload_n hx hb dX3_read_13 rfl (lv_at hl 1 rfl) ?_
                              refine va_get (D := D) (ci := 4) (v := .int (zi_n 14)) (C := RX3) (T := TX3) (N := 5) hx hb hts in_X3_read_X3 hown hK hP 0 rfl rfl 4 (by decide) (hts (.fieldLink RX3 32 "ZHeads" "brokenRule" "I") (by decide +kernel)) (fun _ h9 => h9) rfl dX3_read_14 ?_
                              refine zr_if_ne (tgt := 42) hx hb dX3_read_17 (by decide) (by omega) (fun c_75 => ?_) (fun c => absurd c (by decide))
                              refine lv_aload_n hx hb dX3_read_42 rfl (lv_at hl 1 rfl) ?_
                              refine lv_aload_n hx hb dX3_read_43 rfl (lv_at hl 1 rfl) ?_
                              refine va_get (D := D) (ci := 4) (v := .int (zi_n 14)) (C := RX3) (T := TX3) (N := 5) hx hb hts in_X3_read_X3 hown hK hP 0 rfl rfl 4 (by decide) (hts (.fieldLink RX3 32 "ZHeads" "brokenRule" "I") (by decide +kernel)) (fun _ h9 => h9) rfl dX3_read_44 ?_
                              refine zr_if_ne (tgt := 54) hx hb dX3_read_47 (by decide) (by omega) (fun c_76 => ?_) (fun c => absurd c (by decide))
                              refine zr_iconst hx hb dX3_read_54 ?_
                              refine va_put (D := D) (ci := 4) (v := .int (zi_n 0)) (ty := .boolean) (C := RX3) (T := TX3) (N := 5) hx hb hts in_X3_read_X3 tyX3 tyX3_ok nmX3 hown hK hP hD hS 0 rfl rfl 3 (by decide) (hts (.fieldLink RX3 28 "ZHeads" "isRead" "Z") (by decide +kernel)) (fun _ h9 => h9) rfl (by decide +kernel) (by decide) rfl (Nat.le_of_ble_eq_true rfl) dX3_read_55 (fun H locs hP hD hS => ?_)
                              have hP : va_P D vwCl [(x, .inr (4, [.ref q, .ref q2, .ref hh, .int (zi_n 0), .int (zi_n 14)])), (q, .inr (3, [.ref a, .int (zi_n n)])), (q2, .inr (3, [.ref a2, .int (zi_n k)])), (hh, .inr (2, [.ref q])), (a, .inl (cA, 600, .inl (zi_F F))), (a2, .inl (cB, 600, .inl (zi_F G)))] H := hP
                              have hD : va_D A [(x, .inr (4, [.ref q, .ref q2, .ref hh, .int (zi_n 0), .int (zi_n 14)])), (q, .inr (3, [.ref a, .int (zi_n n)])), (q2, .inr (3, [.ref a2, .int (zi_n k)])), (hh, .inr (2, [.ref q])), (a, .inl (cA, 600, .inl (zi_F F))), (a2, .inl (cB, 600, .inl (zi_F G)))] := hD
                              refine lv_aload_n hx hb dX3_read_58 rfl (lv_at hl 1 rfl) ?_
                              refine va_get (D := D) (ci := 4) (v := .int (zi_n 0)) (C := RX3) (T := TX3) (N := 5) hx hb hts in_X3_read_X3 hown hK hP 0 rfl rfl 3 (by decide) (hts (.fieldLink RX3 28 "ZHeads" "isRead" "Z") (by decide +kernel)) (fun _ h9 => h9) rfl dX3_read_59 ?_
                              refine zr_if_ne (tgt := 80) hx hb dX3_read_62 (by decide) (by omega) (fun c => absurd c (by decide)) (fun c_77 => ?_)
                              refine zr_bipush hx hb dX3_read_65 (by decide) ?_
                              refine lv_aload_n hx hb dX3_read_67 rfl (lv_at hl 1 rfl) ?_
                              refine va_get (D := D) (ci := 4) (v := .ref hh) (C := RX3) (T := TX3) (N := 5) hx hb hts in_X3_read_X3 hown hK hP 0 rfl rfl 2 (by decide) (hts (.fieldLink RX3 24 "ZHeads" "head" "LZHeads$Head;") (by decide +kernel)) (fun _ h9 => h9) rfl dX3_read_68 ?_
                              refine lv_aload_n hx hb dX3_read_71 rfl (lv_at hl 1 rfl) ?_
                              refine va_get (D := D) (ci := 4) (v := .int (zi_n 14)) (C := RX3) (T := TX3) (N := 5) hx hb hts in_X3_read_X3 hown hK hP 0 rfl rfl 4 (by decide) (hts (.fieldLink RX3 32 "ZHeads" "brokenRule" "I") (by decide +kernel)) (fun _ h9 => h9) rfl dX3_read_72 ?_
                              refine zc_V (As := [.int (zi_n 14)]) (rest := [.int (zi_n (-20))]) ⟨hx, hb, hml, hown, hts⟩ (c_Hd_placeOf14 l D hh q a cA F n hF (by omega)) (cwV 1 hts gX3_read_X0_placeOf rfl rfl rfl (by decide +kernel) ⟨(Nat.le_of_ble_eq_true rfl), (Nat.le_of_ble_eq_true rfl)⟩) hP hK [3, 1, 4] [0] rfl rfl (ci := 2) rfl rfl rfl rfl hl.1 rfl (Nat.le_of_ble_eq_true rfl) dX3_read_75 ⟨Nat.zero_le _, Nat.zero_le _⟩ (fun r hr1 => ?_)
                              obtain ⟨rfl, b_78⟩ := hr1
                              refine zr_isub hx hb dX3_read_78 ?_
                              have e_n_79_0 : zh_rdR 14 = 0 := by rfl
                              have e_n_79_1 : zh_rdB 14 = 14 := by rfl
                              have e_n_79_2 : zh_rdK n k 14 = k := by rfl
                              have e_n_79_3 : zh_rdG F G 14 = G := by rfl
                              have hP9 : va_P D vwCl [(x, .inr (4, [.ref q, .ref q2, .ref hh, .int (zi_n (zh_rdR 14)), .int (zi_n (zh_rdB 14))])), (q, .inr (3, [.ref a, .int (zi_n n)])), (q2, .inr (3, [.ref a2, .int (zi_n (zh_rdK n k 14))])), (hh, .inr (2, [.ref q])), (a, .inl (cA, 600, .inl (zi_F F))), (a2, .inl (cB, 600, .inl (zi_F (zh_rdG F G 14))))] H := by rw [e_n_79_0, e_n_79_1, e_n_79_2, e_n_79_3]; exact hP
                              have hD9 : va_D A [(x, .inr (4, [.ref q, .ref q2, .ref hh, .int (zi_n (zh_rdR 14)), .int (zi_n (zh_rdB 14))])), (q, .inr (3, [.ref a, .int (zi_n n)])), (q2, .inr (3, [.ref a2, .int (zi_n (zh_rdK n k 14))])), (hh, .inr (2, [.ref q])), (a, .inl (cA, 600, .inl (zi_F F))), (a2, .inl (cB, 600, .inl (zi_F (zh_rdG F G 14))))] := by rw [e_n_79_0, e_n_79_1, e_n_79_2, e_n_79_3]; exact hD
                              exact W.iret (v := zi_n ((-20) - 54)) hx hb hr (fun t ht hW => ⟨⟨zi_n ((-20) - 54), 14, rfl, ⟨zh_first_b 13 (by decide) (zh_all_s (zh_all_s (zh_all_s (zh_all_s (zh_all_s (zh_all_s (zh_all_s (zh_all_s (zh_all_s (zh_all_s (zh_all_s (zh_all_s (zh_all_s zh_all_0 c_3) c_7) c_11) c_15) c_19) c_23) c_27) c_31) c_35) c_39) c_43) c_47) c_51) c_55, rfl⟩, by rw [ht]; exact hP9, va_K.moved hW.alike hK, hD9⟩, hS.F ht⟩) hS.2.2 dX3_read_79
                          · refine zr_if_ne (tgt := 36) hx hb dX3_read_28 (by decide) (by omega) (fun c => absurd c (by decide)) (fun c_80 => ?_)
                            refine lv_aload_n hx hb dX3_read_31 rfl (lv_at hl 1 rfl) ?_
                            refine lv_iload_n hx hb dX3_read_32 rfl (lv_at hl 0 rfl) ?_
                            refine va_put (D := D) (ci := 4) (v := .int (zi_n 13)) (ty := .int) (C := RX3) (T := TX3) (N := 5) hx hb hts in_X3_read_X3 tyX3 tyX3_ok nmX3 hown hK hP hD hS 0 rfl rfl 4 (by decide) (hts (.fieldLink RX3 32 "ZHeads" "brokenRule" "I") (by decide +kernel)) (fun _ h9 => h9) rfl (by decide +kernel) rfl rfl (Nat.le_of_ble_eq_true rfl) dX3_read_33 (fun H locs hP hD hS => ?_)
                            have hP : va_P D vwCl [(x, .inr (4, [.ref q, .ref q2, .ref hh, .int (zi_n rd), .int (zi_n 13)])), (q, .inr (3, [.ref a, .int (zi_n n)])), (q2, .inr (3, [.ref a2, .int (zi_n k)])), (hh, .inr (2, [.ref q])), (a, .inl (cA, 600, .inl (zi_F F))), (a2, .inl (cB, 600, .inl (zi_F G)))] H := hP
                            have hD : va_D A [(x, .inr (4, [.ref q, .ref q2, .ref hh, .int (zi_n rd), .int (zi_n 13)])), (q, .inr (3, [.ref a, .int (zi_n n)])), (q2, .inr (3, [.ref a2, .int (zi_n k)])), (hh, .inr (2, [.ref q])), (a, .inl (cA, 600, .inl (zi_F F))), (a2, .inl (cB, 600, .inl (zi_F G)))] := hD
                            refine zr_iinc (lv' := [(1, .int (zi_n 14)), (0, .ref x)]) hx hb dX3_read_36 hl (k := 0) rfl (by decide) rfl (fun ls hl => ?_)
                            refine lv_goto (tgt := 7) hx hb dX3_read_39 (by decide) ?_
                            refine lv_iload_n hx hb dX3_read_7 rfl (lv_at hl 0 rfl) ?_
                            refine zr_bipush hx hb dX3_read_8 (by decide) ?_
                            refine zr_icmp_gt (tgt := 42) hx hb dX3_read_10 (by decide) (by omega) (by omega) (fun c => absurd c (by decide)) (fun c_81 => ?_)
                            refine lv_aload_n hx hb dX3_read_13 rfl (lv_at hl 1 rfl) ?_
                            refine va_get (D := D) (ci := 4) (v := .int (zi_n 13)) (C := RX3) (T := TX3) (N := 5) hx hb hts in_X3_read_X3 hown hK hP 0 rfl rfl 4 (by decide) (hts (.fieldLink RX3 32 "ZHeads" "brokenRule" "I") (by decide +kernel)) (fun _ h9 => h9) rfl dX3_read_14 ?_
                            refine zr_if_ne (tgt := 42) hx hb dX3_read_17 (by decide) (by omega) (fun c_82 => ?_) (fun c => absurd c (by decide))
                            refine lv_aload_n hx hb dX3_read_42 rfl (lv_at hl 1 rfl) ?_
                            refine lv_aload_n hx hb dX3_read_43 rfl (lv_at hl 1 rfl) ?_
                            refine va_get (D := D) (ci := 4) (v := .int (zi_n 13)) (C := RX3) (T := TX3) (N := 5) hx hb hts in_X3_read_X3 hown hK hP 0 rfl rfl 4 (by decide) (hts (.fieldLink RX3 32 "ZHeads" "brokenRule" "I") (by decide +kernel)) (fun _ h9 => h9) rfl dX3_read_44 ?_
                            refine zr_if_ne (tgt := 54) hx hb dX3_read_47 (by decide) (by omega) (fun c_83 => ?_) (fun c => absurd c (by decide))
                            refine zr_iconst hx hb dX3_read_54 ?_
                            refine va_put (D := D) (ci := 4) (v := .int (zi_n 0)) (ty := .boolean) (C := RX3) (T := TX3) (N := 5) hx hb hts in_X3_read_X3 tyX3 tyX3_ok nmX3 hown hK hP hD hS 0 rfl rfl 3 (by decide) (hts (.fieldLink RX3 28 "ZHeads" "isRead" "Z") (by decide +kernel)) (fun _ h9 => h9) rfl (by decide +kernel) (by decide) rfl (Nat.le_of_ble_eq_true rfl) dX3_read_55 (fun H locs hP hD hS => ?_)
                            have hP : va_P D vwCl [(x, .inr (4, [.ref q, .ref q2, .ref hh, .int (zi_n 0), .int (zi_n 13)])), (q, .inr (3, [.ref a, .int (zi_n n)])), (q2, .inr (3, [.ref a2, .int (zi_n k)])), (hh, .inr (2, [.ref q])), (a, .inl (cA, 600, .inl (zi_F F))), (a2, .inl (cB, 600, .inl (zi_F G)))] H := hP
                            have hD : va_D A [(x, .inr (4, [.ref q, .ref q2, .ref hh, .int (zi_n 0), .int (zi_n 13)])), (q, .inr (3, [.ref a, .int (zi_n n)])), (q2, .inr (3, [.ref a2, .int (zi_n k)])), (hh, .inr (2, [.ref q])), (a, .inl (cA, 600, .inl (zi_F F))), (a2, .inl (cB, 600, .inl (zi_F G)))] := hD
                            refine lv_aload_n hx hb dX3_read_58 rfl (lv_at hl 1 rfl) ?_
                            refine va_get (D := D) (ci := 4) (v := .int (zi_n 0)) (C := RX3) (T := TX3) (N := 5) hx hb hts in_X3_read_X3 hown hK hP 0 rfl rfl 3 (by decide) (hts (.fieldLink RX3 28 "ZHeads" "isRead" "Z") (by decide +kernel)) (fun _ h9 => h9) rfl dX3_read_59 ?_
                            refine zr_if_ne (tgt := 80) hx hb dX3_read_62 (by decide) (by omega) (fun c => absurd c (by decide)) (fun c_84 => ?_)
                            refine zr_bipush hx hb dX3_read_65 (by decide) ?_
                            refine lv_aload_n hx hb dX3_read_67 rfl (lv_at hl 1 rfl) ?_
                            refine va_get (D := D) (ci := 4) (v := .ref hh) (C := RX3) (T := TX3) (N := 5) hx hb hts in_X3_read_X3 hown hK hP 0 rfl rfl 2 (by decide) (hts (.fieldLink RX3 24 "ZHeads" "head" "LZHeads$Head;") (by decide +kernel)) (fun _ h9 => h9) rfl dX3_read_68 ?_
                            refine lv_aload_n hx hb dX3_read_71 rfl (lv_at hl 1 rfl) ?_
                            refine va_get (D := D) (ci := 4) (v := .int (zi_n 13)) (C := RX3) (T := TX3) (N := 5) hx hb hts in_X3_read_X3 hown hK hP 0 rfl rfl 4 (by decide) (hts (.fieldLink RX3 32 "ZHeads" "brokenRule" "I") (by decide +kernel)) (fun _ h9 => h9) rfl dX3_read_72 ?_
                            refine zc_V (As := [.int (zi_n 13)]) (rest := [.int (zi_n (-20))]) ⟨hx, hb, hml, hown, hts⟩ (c_Hd_placeOf13 l D hh q a cA F n hF (by omega)) (cwV 1 hts gX3_read_X0_placeOf rfl rfl rfl (by decide +kernel) ⟨(Nat.le_of_ble_eq_true rfl), (Nat.le_of_ble_eq_true rfl)⟩) hP hK [3, 1, 4] [0] rfl rfl (ci := 2) rfl rfl rfl rfl hl.1 rfl (Nat.le_of_ble_eq_true rfl) dX3_read_75 ⟨Nat.zero_le _, Nat.zero_le _⟩ (fun r hr1 => ?_)
                            obtain ⟨rfl, b_85⟩ := hr1
                            refine zr_isub hx hb dX3_read_78 ?_
                            have e_n_86_0 : zh_rdR 13 = 0 := by rfl
                            have e_n_86_1 : zh_rdB 13 = 13 := by rfl
                            have e_n_86_2 : zh_rdK n k 13 = k := by rfl
                            have e_n_86_3 : zh_rdG F G 13 = G := by rfl
                            have hP9 : va_P D vwCl [(x, .inr (4, [.ref q, .ref q2, .ref hh, .int (zi_n (zh_rdR 13)), .int (zi_n (zh_rdB 13))])), (q, .inr (3, [.ref a, .int (zi_n n)])), (q2, .inr (3, [.ref a2, .int (zi_n (zh_rdK n k 13))])), (hh, .inr (2, [.ref q])), (a, .inl (cA, 600, .inl (zi_F F))), (a2, .inl (cB, 600, .inl (zi_F (zh_rdG F G 13))))] H := by rw [e_n_86_0, e_n_86_1, e_n_86_2, e_n_86_3]; exact hP
                            have hD9 : va_D A [(x, .inr (4, [.ref q, .ref q2, .ref hh, .int (zi_n (zh_rdR 13)), .int (zi_n (zh_rdB 13))])), (q, .inr (3, [.ref a, .int (zi_n n)])), (q2, .inr (3, [.ref a2, .int (zi_n (zh_rdK n k 13))])), (hh, .inr (2, [.ref q])), (a, .inl (cA, 600, .inl (zi_F F))), (a2, .inl (cB, 600, .inl (zi_F (zh_rdG F G 13))))] := by rw [e_n_86_0, e_n_86_1, e_n_86_2, e_n_86_3]; exact hD
                            exact W.iret (v := zi_n ((-20) - 46)) hx hb hr (fun t ht hW => ⟨⟨zi_n ((-20) - 46), 13, rfl, ⟨zh_first_b 12 (by decide) (zh_all_s (zh_all_s (zh_all_s (zh_all_s (zh_all_s (zh_all_s (zh_all_s (zh_all_s (zh_all_s (zh_all_s (zh_all_s (zh_all_s zh_all_0 c_3) c_7) c_11) c_15) c_19) c_23) c_27) c_31) c_35) c_39) c_43) c_47) c_51, rfl⟩, by rw [ht]; exact hP9, va_K.moved hW.alike hK, hD9⟩, hS.F ht⟩) hS.2.2 dX3_read_79
                        · refine zr_if_ne (tgt := 36) hx hb dX3_read_28 (by decide) (by omega) (fun c => absurd c (by decide)) (fun c_87 => ?_)
                          refine lv_aload_n hx hb dX3_read_31 rfl (lv_at hl 1 rfl) ?_
                          refine lv_iload_n hx hb dX3_read_32 rfl (lv_at hl 0 rfl) ?_
                          refine va_put (D := D) (ci := 4) (v := .int (zi_n 12)) (ty := .int) (C := RX3) (T := TX3) (N := 5) hx hb hts in_X3_read_X3 tyX3 tyX3_ok nmX3 hown hK hP hD hS 0 rfl rfl 4 (by decide) (hts (.fieldLink RX3 32 "ZHeads" "brokenRule" "I") (by decide +kernel)) (fun _ h9 => h9) rfl (by decide +kernel) rfl rfl (Nat.le_of_ble_eq_true rfl) dX3_read_33 (fun H locs hP hD hS => ?_)
                          have hP : va_P D vwCl [(x, .inr (4, [.ref q, .ref q2, .ref hh, .int (zi_n rd), .int (zi_n 12)])), (q, .inr (3, [.ref a, .int (zi_n n)])), (q2, .inr (3, [.ref a2, .int (zi_n k)])), (hh, .inr (2, [.ref q])), (a, .inl (cA, 600, .inl (zi_F F))), (a2, .inl (cB, 600, .inl (zi_F G)))] H := hP
                          have hD : va_D A [(x, .inr (4, [.ref q, .ref q2, .ref hh, .int (zi_n rd), .int (zi_n 12)])), (q, .inr (3, [.ref a, .int (zi_n n)])), (q2, .inr (3, [.ref a2, .int (zi_n k)])), (hh, .inr (2, [.ref q])), (a, .inl (cA, 600, .inl (zi_F F))), (a2, .inl (cB, 600, .inl (zi_F G)))] := hD
                          refine zr_iinc (lv' := [(1, .int (zi_n 13)), (0, .ref x)]) hx hb dX3_read_36 hl (k := 0) rfl (by decide) rfl (fun ls hl => ?_)
                          refine lv_goto (tgt := 7) hx hb dX3_read_39 (by decide) ?_
                          refine lv_iload_n hx hb dX3_read_7 rfl (lv_at hl 0 rfl) ?_
                          refine zr_bipush hx hb dX3_read_8 (by decide) ?_
                          refine zr_icmp_gt (tgt := 42) hx hb dX3_read_10 (by decide) (by omega) (by omega) (fun c => absurd c (by decide)) (fun c_88 => ?_)
                          refine lv_aload_n hx hb dX3_read_13 rfl (lv_at hl 1 rfl) ?_
                          refine va_get (D := D) (ci := 4) (v := .int (zi_n 12)) (C := RX3) (T := TX3) (N := 5) hx hb hts in_X3_read_X3 hown hK hP 0 rfl rfl 4 (by decide) (hts (.fieldLink RX3 32 "ZHeads" "brokenRule" "I") (by decide +kernel)) (fun _ h9 => h9) rfl dX3_read_14 ?_
                          refine zr_if_ne (tgt := 42) hx hb dX3_read_17 (by decide) (by omega) (fun c_89 => ?_) (fun c => absurd c (by decide))
                          refine lv_aload_n hx hb dX3_read_42 rfl (lv_at hl 1 rfl) ?_
                          refine lv_aload_n hx hb dX3_read_43 rfl (lv_at hl 1 rfl) ?_
                          refine va_get (D := D) (ci := 4) (v := .int (zi_n 12)) (C := RX3) (T := TX3) (N := 5) hx hb hts in_X3_read_X3 hown hK hP 0 rfl rfl 4 (by decide) (hts (.fieldLink RX3 32 "ZHeads" "brokenRule" "I") (by decide +kernel)) (fun _ h9 => h9) rfl dX3_read_44 ?_
                          refine zr_if_ne (tgt := 54) hx hb dX3_read_47 (by decide) (by omega) (fun c_90 => ?_) (fun c => absurd c (by decide))
                          refine zr_iconst hx hb dX3_read_54 ?_
                          refine va_put (D := D) (ci := 4) (v := .int (zi_n 0)) (ty := .boolean) (C := RX3) (T := TX3) (N := 5) hx hb hts in_X3_read_X3 tyX3 tyX3_ok nmX3 hown hK hP hD hS 0 rfl rfl 3 (by decide) (hts (.fieldLink RX3 28 "ZHeads" "isRead" "Z") (by decide +kernel)) (fun _ h9 => h9) rfl (by decide +kernel) (by decide) rfl (Nat.le_of_ble_eq_true rfl) dX3_read_55 (fun H locs hP hD hS => ?_)
                          have hP : va_P D vwCl [(x, .inr (4, [.ref q, .ref q2, .ref hh, .int (zi_n 0), .int (zi_n 12)])), (q, .inr (3, [.ref a, .int (zi_n n)])), (q2, .inr (3, [.ref a2, .int (zi_n k)])), (hh, .inr (2, [.ref q])), (a, .inl (cA, 600, .inl (zi_F F))), (a2, .inl (cB, 600, .inl (zi_F G)))] H := hP
                          have hD : va_D A [(x, .inr (4, [.ref q, .ref q2, .ref hh, .int (zi_n 0), .int (zi_n 12)])), (q, .inr (3, [.ref a, .int (zi_n n)])), (q2, .inr (3, [.ref a2, .int (zi_n k)])), (hh, .inr (2, [.ref q])), (a, .inl (cA, 600, .inl (zi_F F))), (a2, .inl (cB, 600, .inl (zi_F G)))] := hD
                          refine lv_aload_n hx hb dX3_read_58 rfl (lv_at hl 1 rfl) ?_
                          refine va_get (D := D) (ci := 4) (v := .int (zi_n 0)) (C := RX3) (T := TX3) (N := 5) hx hb hts in_X3_read_X3 hown hK hP 0 rfl rfl 3 (by decide) (hts (.fieldLink RX3 28 "ZHeads" "isRead" "Z") (by decide +kernel)) (fun _ h9 => h9) rfl dX3_read_59 ?_
                          refine zr_if_ne (tgt := 80) hx hb dX3_read_62 (by decide) (by omega) (fun c => absurd c (by decide)) (fun c_91 => ?_)
                          refine zr_bipush hx hb dX3_read_65 (by decide) ?_
                          refine lv_aload_n hx hb dX3_read_67 rfl (lv_at hl 1 rfl) ?_
                          refine va_get (D := D) (ci := 4) (v := .ref hh) (C := RX3) (T := TX3) (N := 5) hx hb hts in_X3_read_X3 hown hK hP 0 rfl rfl 2 (by decide) (hts (.fieldLink RX3 24 "ZHeads" "head" "LZHeads$Head;") (by decide +kernel)) (fun _ h9 => h9) rfl dX3_read_68 ?_
                          refine lv_aload_n hx hb dX3_read_71 rfl (lv_at hl 1 rfl) ?_
                          refine va_get (D := D) (ci := 4) (v := .int (zi_n 12)) (C := RX3) (T := TX3) (N := 5) hx hb hts in_X3_read_X3 hown hK hP 0 rfl rfl 4 (by decide) (hts (.fieldLink RX3 32 "ZHeads" "brokenRule" "I") (by decide +kernel)) (fun _ h9 => h9) rfl dX3_read_72 ?_
                          refine zc_V (As := [.int (zi_n 12)]) (rest := [.int (zi_n (-20))]) ⟨hx, hb, hml, hown, hts⟩ (c_Hd_placeOf12 l D hh q a cA F n hF (by omega)) (cwV 1 hts gX3_read_X0_placeOf rfl rfl rfl (by decide +kernel) ⟨(Nat.le_of_ble_eq_true rfl), (Nat.le_of_ble_eq_true rfl)⟩) hP hK [3, 1, 4] [0] rfl rfl (ci := 2) rfl rfl rfl rfl hl.1 rfl (Nat.le_of_ble_eq_true rfl) dX3_read_75 ⟨Nat.zero_le _, Nat.zero_le _⟩ (fun r hr1 => ?_)
                          obtain ⟨rfl, b_92⟩ := hr1
                          refine zr_isub hx hb dX3_read_78 ?_
                          have e_n_93_0 : zh_rdR 12 = 0 := by rfl
                          have e_n_93_1 : zh_rdB 12 = 12 := by rfl
                          have e_n_93_2 : zh_rdK n k 12 = k := by rfl
                          have e_n_93_3 : zh_rdG F G 12 = G := by rfl
                          have hP9 : va_P D vwCl [(x, .inr (4, [.ref q, .ref q2, .ref hh, .int (zi_n (zh_rdR 12)), .int (zi_n (zh_rdB 12))])), (q, .inr (3, [.ref a, .int (zi_n n)])), (q2, .inr (3, [.ref a2, .int (zi_n (zh_rdK n k 12))])), (hh, .inr (2, [.ref q])), (a, .inl (cA, 600, .inl (zi_F F))), (a2, .inl (cB, 600, .inl (zi_F (zh_rdG F G 12))))] H := by rw [e_n_93_0, e_n_93_1, e_n_93_2, e_n_93_3]; exact hP
                          have hD9 : va_D A [(x, .inr (4, [.ref q, .ref q2, .ref hh, .int (zi_n (zh_rdR 12)), .int (zi_n (zh_rdB 12))])), (q, .inr (3, [.ref a, .int (zi_n n)])), (q2, .inr (3, [.ref a2, .int (zi_n (zh_rdK n k 12))])), (hh, .inr (2, [.ref q])), (a, .inl (cA, 600, .inl (zi_F F))), (a2, .inl (cB, 600, .inl (zi_F (zh_rdG F G 12))))] := by rw [e_n_93_0, e_n_93_1, e_n_93_2, e_n_93_3]; exact hD
                          exact W.iret (v := zi_n ((-20) - 52)) hx hb hr (fun t ht hW => ⟨⟨zi_n ((-20) - 52), 12, rfl, ⟨zh_first_b 11 (by decide) (zh_all_s (zh_all_s (zh_all_s (zh_all_s (zh_all_s (zh_all_s (zh_all_s (zh_all_s (zh_all_s (zh_all_s (zh_all_s zh_all_0 c_3) c_7) c_11) c_15) c_19) c_23) c_27) c_31) c_35) c_39) c_43) c_47, rfl⟩, by rw [ht]; exact hP9, va_K.moved hW.alike hK, hD9⟩, hS.F ht⟩) hS.2.2 dX3_read_79
                      · refine zr_if_ne (tgt := 36) hx hb dX3_read_28 (by decide) (by omega) (fun c => absurd c (by decide)) (fun c_94 => ?_)
                        refine lv_aload_n hx hb dX3_read_31 rfl (lv_at hl 1 rfl) ?_
                        refine lv_iload_n hx hb dX3_read_32 rfl (lv_at hl 0 rfl) ?_
                        refine va_put (D := D) (ci := 4) (v := .int (zi_n 11)) (ty := .int) (C := RX3) (T := TX3) (N := 5) hx hb hts in_X3_read_X3 tyX3 tyX3_ok nmX3 hown hK hP hD hS 0 rfl rfl 4 (by decide) (hts (.fieldLink RX3 32 "ZHeads" "brokenRule" "I") (by decide +kernel)) (fun _ h9 => h9) rfl (by decide +kernel) rfl rfl (Nat.le_of_ble_eq_true rfl) dX3_read_33 (fun H locs hP hD hS => ?_)
                        have hP : va_P D vwCl [(x, .inr (4, [.ref q, .ref q2, .ref hh, .int (zi_n rd), .int (zi_n 11)])), (q, .inr (3, [.ref a, .int (zi_n n)])), (q2, .inr (3, [.ref a2, .int (zi_n k)])), (hh, .inr (2, [.ref q])), (a, .inl (cA, 600, .inl (zi_F F))), (a2, .inl (cB, 600, .inl (zi_F G)))] H := hP
                        have hD : va_D A [(x, .inr (4, [.ref q, .ref q2, .ref hh, .int (zi_n rd), .int (zi_n 11)])), (q, .inr (3, [.ref a, .int (zi_n n)])), (q2, .inr (3, [.ref a2, .int (zi_n k)])), (hh, .inr (2, [.ref q])), (a, .inl (cA, 600, .inl (zi_F F))), (a2, .inl (cB, 600, .inl (zi_F G)))] := hD
                        refine zr_iinc (lv' := [(1, .int (zi_n 12)), (0, .ref x)]) hx hb dX3_read_36 hl (k := 0) rfl (by decide) rfl (fun ls hl => ?_)
                        refine lv_goto (tgt := 7) hx hb dX3_read_39 (by decide) ?_
                        refine lv_iload_n hx hb dX3_read_7 rfl (lv_at hl 0 rfl) ?_
                        refine zr_bipush hx hb dX3_read_8 (by decide) ?_
                        refine zr_icmp_gt (tgt := 42) hx hb dX3_read_10 (by decide) (by omega) (by omega) (fun c => absurd c (by decide)) (fun c_95 => ?_)
                        refine lv_aload_n hx hb dX3_read_13 rfl (lv_at hl 1 rfl) ?_
                        refine va_get (D := D) (ci := 4) (v := .int (zi_n 11)) (C := RX3) (T := TX3) (N := 5) hx hb hts in_X3_read_X3 hown hK hP 0 rfl rfl 4 (by decide) (hts (.fieldLink RX3 32 "ZHeads" "brokenRule" "I") (by decide +kernel)) (fun _ h9 => h9) rfl dX3_read_14 ?_
                        refine zr_if_ne (tgt := 42) hx hb dX3_read_17 (by decide) (by omega) (fun c_96 => ?_) (fun c => absurd c (by decide))
                        refine lv_aload_n hx hb dX3_read_42 rfl (lv_at hl 1 rfl) ?_
                        refine lv_aload_n hx hb dX3_read_43 rfl (lv_at hl 1 rfl) ?_
                        refine va_get (D := D) (ci := 4) (v := .int (zi_n 11)) (C := RX3) (T := TX3) (N := 5) hx hb hts in_X3_read_X3 hown hK hP 0 rfl rfl 4 (by decide) (hts (.fieldLink RX3 32 "ZHeads" "brokenRule" "I") (by decide +kernel)) (fun _ h9 => h9) rfl dX3_read_44 ?_
                        refine zr_if_ne (tgt := 54) hx hb dX3_read_47 (by decide) (by omega) (fun c_97 => ?_) (fun c => absurd c (by decide))
                        refine zr_iconst hx hb dX3_read_54 ?_
                        refine va_put (D := D) (ci := 4) (v := .int (zi_n 0)) (ty := .boolean) (C := RX3) (T := TX3) (N := 5) hx hb hts in_X3_read_X3 tyX3 tyX3_ok nmX3 hown hK hP hD hS 0 rfl rfl 3 (by decide) (hts (.fieldLink RX3 28 "ZHeads" "isRead" "Z") (by decide +kernel)) (fun _ h9 => h9) rfl (by decide +kernel) (by decide) rfl (Nat.le_of_ble_eq_true rfl) dX3_read_55 (fun H locs hP hD hS => ?_)
                        have hP : va_P D vwCl [(x, .inr (4, [.ref q, .ref q2, .ref hh, .int (zi_n 0), .int (zi_n 11)])), (q, .inr (3, [.ref a, .int (zi_n n)])), (q2, .inr (3, [.ref a2, .int (zi_n k)])), (hh, .inr (2, [.ref q])), (a, .inl (cA, 600, .inl (zi_F F))), (a2, .inl (cB, 600, .inl (zi_F G)))] H := hP
                        have hD : va_D A [(x, .inr (4, [.ref q, .ref q2, .ref hh, .int (zi_n 0), .int (zi_n 11)])), (q, .inr (3, [.ref a, .int (zi_n n)])), (q2, .inr (3, [.ref a2, .int (zi_n k)])), (hh, .inr (2, [.ref q])), (a, .inl (cA, 600, .inl (zi_F F))), (a2, .inl (cB, 600, .inl (zi_F G)))] := hD
                        refine lv_aload_n hx hb dX3_read_58 rfl (lv_at hl 1 rfl) ?_
                        refine va_get (D := D) (ci := 4) (v := .int (zi_n 0)) (C := RX3) (T := TX3) (N := 5) hx hb hts in_X3_read_X3 hown hK hP 0 rfl rfl 3 (by decide) (hts (.fieldLink RX3 28 "ZHeads" "isRead" "Z") (by decide +kernel)) (fun _ h9 => h9) rfl dX3_read_59 ?_
                        refine zr_if_ne (tgt := 80) hx hb dX3_read_62 (by decide) (by omega) (fun c => absurd c (by decide)) (fun c_98 => ?_)
                        refine zr_bipush hx hb dX3_read_65 (by decide) ?_
                        refine lv_aload_n hx hb dX3_read_67 rfl (lv_at hl 1 rfl) ?_
                        refine va_get (D := D) (ci := 4) (v := .ref hh) (C := RX3) (T := TX3) (N := 5) hx hb hts in_X3_read_X3 hown hK hP 0 rfl rfl 2 (by decide) (hts (.fieldLink RX3 24 "ZHeads" "head" "LZHeads$Head;") (by decide +kernel)) (fun _ h9 => h9) rfl dX3_read_68 ?_
                        refine lv_aload_n hx hb dX3_read_71 rfl (lv_at hl 1 rfl) ?_
                        refine va_get (D := D) (ci := 4) (v := .int (zi_n 11)) (C := RX3) (T := TX3) (N := 5) hx hb hts in_X3_read_X3 hown hK hP 0 rfl rfl 4 (by decide) (hts (.fieldLink RX3 32 "ZHeads" "brokenRule" "I") (by decide +kernel)) (fun _ h9 => h9) rfl dX3_read_72 ?_
                        refine zc_V (As := [.int (zi_n 11)]) (rest := [.int (zi_n (-20))]) ⟨hx, hb, hml, hown, hts⟩ (c_Hd_placeOf11 l D hh q a cA F n hF (by omega)) (cwV 1 hts gX3_read_X0_placeOf rfl rfl rfl (by decide +kernel) ⟨(Nat.le_of_ble_eq_true rfl), (Nat.le_of_ble_eq_true rfl)⟩) hP hK [3, 1, 4] [0] rfl rfl (ci := 2) rfl rfl rfl rfl hl.1 rfl (Nat.le_of_ble_eq_true rfl) dX3_read_75 ⟨Nat.zero_le _, Nat.zero_le _⟩ (fun r hr1 => ?_)
                        obtain ⟨rfl, b_99⟩ := hr1
                        refine zr_isub hx hb dX3_read_78 ?_
                        have e_n_100_0 : zh_rdR 11 = 0 := by rfl
                        have e_n_100_1 : zh_rdB 11 = 11 := by rfl
                        have e_n_100_2 : zh_rdK n k 11 = k := by rfl
                        have e_n_100_3 : zh_rdG F G 11 = G := by rfl
                        have hP9 : va_P D vwCl [(x, .inr (4, [.ref q, .ref q2, .ref hh, .int (zi_n (zh_rdR 11)), .int (zi_n (zh_rdB 11))])), (q, .inr (3, [.ref a, .int (zi_n n)])), (q2, .inr (3, [.ref a2, .int (zi_n (zh_rdK n k 11))])), (hh, .inr (2, [.ref q])), (a, .inl (cA, 600, .inl (zi_F F))), (a2, .inl (cB, 600, .inl (zi_F (zh_rdG F G 11))))] H := by rw [e_n_100_0, e_n_100_1, e_n_100_2, e_n_100_3]; exact hP
                        have hD9 : va_D A [(x, .inr (4, [.ref q, .ref q2, .ref hh, .int (zi_n (zh_rdR 11)), .int (zi_n (zh_rdB 11))])), (q, .inr (3, [.ref a, .int (zi_n n)])), (q2, .inr (3, [.ref a2, .int (zi_n (zh_rdK n k 11))])), (hh, .inr (2, [.ref q])), (a, .inl (cA, 600, .inl (zi_F F))), (a2, .inl (cB, 600, .inl (zi_F (zh_rdG F G 11))))] := by rw [e_n_100_0, e_n_100_1, e_n_100_2, e_n_100_3]; exact hD
                        exact W.iret (v := zi_n ((-20) - 6)) hx hb hr (fun t ht hW => ⟨⟨zi_n ((-20) - 6), 11, rfl, ⟨zh_first_b 10 (by decide) (zh_all_s (zh_all_s (zh_all_s (zh_all_s (zh_all_s (zh_all_s (zh_all_s (zh_all_s (zh_all_s (zh_all_s zh_all_0 c_3) c_7) c_11) c_15) c_19) c_23) c_27) c_31) c_35) c_39) c_43, rfl⟩, by rw [ht]; exact hP9, va_K.moved hW.alike hK, hD9⟩, hS.F ht⟩) hS.2.2 dX3_read_79
                    · refine zr_if_ne (tgt := 36) hx hb dX3_read_28 (by decide) (by omega) (fun c => absurd c (by decide)) (fun c_101 => ?_)
                      refine lv_aload_n hx hb dX3_read_31 rfl (lv_at hl 1 rfl) ?_
                      refine lv_iload_n hx hb dX3_read_32 rfl (lv_at hl 0 rfl) ?_
                      refine va_put (D := D) (ci := 4) (v := .int (zi_n 10)) (ty := .int) (C := RX3) (T := TX3) (N := 5) hx hb hts in_X3_read_X3 tyX3 tyX3_ok nmX3 hown hK hP hD hS 0 rfl rfl 4 (by decide) (hts (.fieldLink RX3 32 "ZHeads" "brokenRule" "I") (by decide +kernel)) (fun _ h9 => h9) rfl (by decide +kernel) rfl rfl (Nat.le_of_ble_eq_true rfl) dX3_read_33 (fun H locs hP hD hS => ?_)
                      have hP : va_P D vwCl [(x, .inr (4, [.ref q, .ref q2, .ref hh, .int (zi_n rd), .int (zi_n 10)])), (q, .inr (3, [.ref a, .int (zi_n n)])), (q2, .inr (3, [.ref a2, .int (zi_n k)])), (hh, .inr (2, [.ref q])), (a, .inl (cA, 600, .inl (zi_F F))), (a2, .inl (cB, 600, .inl (zi_F G)))] H := hP
                      have hD : va_D A [(x, .inr (4, [.ref q, .ref q2, .ref hh, .int (zi_n rd), .int (zi_n 10)])), (q, .inr (3, [.ref a, .int (zi_n n)])), (q2, .inr (3, [.ref a2, .int (zi_n k)])), (hh, .inr (2, [.ref q])), (a, .inl (cA, 600, .inl (zi_F F))), (a2, .inl (cB, 600, .inl (zi_F G)))] := hD
                      refine zr_iinc (lv' := [(1, .int (zi_n 11)), (0, .ref x)]) hx hb dX3_read_36 hl (k := 0) rfl (by decide) rfl (fun ls hl => ?_)
                      refine lv_goto (tgt := 7) hx hb dX3_read_39 (by decide) ?_
                      refine lv_iload_n hx hb dX3_read_7 rfl (lv_at hl 0 rfl) ?_
                      refine zr_bipush hx hb dX3_read_8 (by decide) ?_
                      refine zr_icmp_gt (tgt := 42) hx hb dX3_read_10 (by decide) (by omega) (by omega) (fun c => absurd c (by decide)) (fun c_102 => ?_)
                      refine lv_aload_n hx hb dX3_read_13 rfl (lv_at hl 1 rfl) ?_
                      refine va_get (D := D) (ci := 4) (v := .int (zi_n 10)) (C := RX3) (T := TX3) (N := 5) hx hb hts in_X3_read_X3 hown hK hP 0 rfl rfl 4 (by decide) (hts (.fieldLink RX3 32 "ZHeads" "brokenRule" "I") (by decide +kernel)) (fun _ h9 => h9) rfl dX3_read_14 ?_
                      refine zr_if_ne (tgt := 42) hx hb dX3_read_17 (by decide) (by omega) (fun c_103 => ?_) (fun c => absurd c (by decide))
                      refine lv_aload_n hx hb dX3_read_42 rfl (lv_at hl 1 rfl) ?_
                      refine lv_aload_n hx hb dX3_read_43 rfl (lv_at hl 1 rfl) ?_
                      refine va_get (D := D) (ci := 4) (v := .int (zi_n 10)) (C := RX3) (T := TX3) (N := 5) hx hb hts in_X3_read_X3 hown hK hP 0 rfl rfl 4 (by decide) (hts (.fieldLink RX3 32 "ZHeads" "brokenRule" "I") (by decide +kernel)) (fun _ h9 => h9) rfl dX3_read_44 ?_
                      refine zr_if_ne (tgt := 54) hx hb dX3_read_47 (by decide) (by omega) (fun c_104 => ?_) (fun c => absurd c (by decide))
                      refine zr_iconst hx hb dX3_read_54 ?_
                      refine va_put (D := D) (ci := 4) (v := .int (zi_n 0)) (ty := .boolean) (C := RX3) (T := TX3) (N := 5) hx hb hts in_X3_read_X3 tyX3 tyX3_ok nmX3 hown hK hP hD hS 0 rfl rfl 3 (by decide) (hts (.fieldLink RX3 28 "ZHeads" "isRead" "Z") (by decide +kernel)) (fun _ h9 => h9) rfl (by decide +kernel) (by decide) rfl (Nat.le_of_ble_eq_true rfl) dX3_read_55 (fun H locs hP hD hS => ?_)
                      have hP : va_P D vwCl [(x, .inr (4, [.ref q, .ref q2, .ref hh, .int (zi_n 0), .int (zi_n 10)])), (q, .inr (3, [.ref a, .int (zi_n n)])), (q2, .inr (3, [.ref a2, .int (zi_n k)])), (hh, .inr (2, [.ref q])), (a, .inl (cA, 600, .inl (zi_F F))), (a2, .inl (cB, 600, .inl (zi_F G)))] H := hP
                      have hD : va_D A [(x, .inr (4, [.ref q, .ref q2, .ref hh, .int (zi_n 0), .int (zi_n 10)])), (q, .inr (3, [.ref a, .int (zi_n n)])), (q2, .inr (3, [.ref a2, .int (zi_n k)])), (hh, .inr (2, [.ref q])), (a, .inl (cA, 600, .inl (zi_F F))), (a2, .inl (cB, 600, .inl (zi_F G)))] := hD
                      refine lv_aload_n hx hb dX3_read_58 rfl (lv_at hl 1 rfl) ?_
                      refine va_get (D := D) (ci := 4) (v := .int (zi_n 0)) (C := RX3) (T := TX3) (N := 5) hx hb hts in_X3_read_X3 hown hK hP 0 rfl rfl 3 (by decide) (hts (.fieldLink RX3 28 "ZHeads" "isRead" "Z") (by decide +kernel)) (fun _ h9 => h9) rfl dX3_read_59 ?_
                      refine zr_if_ne (tgt := 80) hx hb dX3_read_62 (by decide) (by omega) (fun c => absurd c (by decide)) (fun c_105 => ?_)
                      refine zr_bipush hx hb dX3_read_65 (by decide) ?_
                      refine lv_aload_n hx hb dX3_read_67 rfl (lv_at hl 1 rfl) ?_
                      refine va_get (D := D) (ci := 4) (v := .ref hh) (C := RX3) (T := TX3) (N := 5) hx hb hts in_X3_read_X3 hown hK hP 0 rfl rfl 2 (by decide) (hts (.fieldLink RX3 24 "ZHeads" "head" "LZHeads$Head;") (by decide +kernel)) (fun _ h9 => h9) rfl dX3_read_68 ?_
                      refine lv_aload_n hx hb dX3_read_71 rfl (lv_at hl 1 rfl) ?_
                      refine va_get (D := D) (ci := 4) (v := .int (zi_n 10)) (C := RX3) (T := TX3) (N := 5) hx hb hts in_X3_read_X3 hown hK hP 0 rfl rfl 4 (by decide) (hts (.fieldLink RX3 32 "ZHeads" "brokenRule" "I") (by decide +kernel)) (fun _ h9 => h9) rfl dX3_read_72 ?_
                      refine zc_V (As := [.int (zi_n 10)]) (rest := [.int (zi_n (-20))]) ⟨hx, hb, hml, hown, hts⟩ (c_Hd_placeOf10 l D hh q a cA F n hF (by omega)) (cwV 1 hts gX3_read_X0_placeOf rfl rfl rfl (by decide +kernel) ⟨(Nat.le_of_ble_eq_true rfl), (Nat.le_of_ble_eq_true rfl)⟩) hP hK [3, 1, 4] [0] rfl rfl (ci := 2) rfl rfl rfl rfl hl.1 rfl (Nat.le_of_ble_eq_true rfl) dX3_read_75 ⟨Nat.zero_le _, Nat.zero_le _⟩ (fun r hr1 => ?_)
                      obtain ⟨rfl, b_106⟩ := hr1
                      refine zr_isub hx hb dX3_read_78 ?_
                      have e_n_107_0 : zh_rdR 10 = 0 := by rfl
                      have e_n_107_1 : zh_rdB 10 = 10 := by rfl
                      have e_n_107_2 : zh_rdK n k 10 = k := by rfl
                      have e_n_107_3 : zh_rdG F G 10 = G := by rfl
                      have hP9 : va_P D vwCl [(x, .inr (4, [.ref q, .ref q2, .ref hh, .int (zi_n (zh_rdR 10)), .int (zi_n (zh_rdB 10))])), (q, .inr (3, [.ref a, .int (zi_n n)])), (q2, .inr (3, [.ref a2, .int (zi_n (zh_rdK n k 10))])), (hh, .inr (2, [.ref q])), (a, .inl (cA, 600, .inl (zi_F F))), (a2, .inl (cB, 600, .inl (zi_F (zh_rdG F G 10))))] H := by rw [e_n_107_0, e_n_107_1, e_n_107_2, e_n_107_3]; exact hP
                      have hD9 : va_D A [(x, .inr (4, [.ref q, .ref q2, .ref hh, .int (zi_n (zh_rdR 10)), .int (zi_n (zh_rdB 10))])), (q, .inr (3, [.ref a, .int (zi_n n)])), (q2, .inr (3, [.ref a2, .int (zi_n (zh_rdK n k 10))])), (hh, .inr (2, [.ref q])), (a, .inl (cA, 600, .inl (zi_F F))), (a2, .inl (cB, 600, .inl (zi_F (zh_rdG F G 10))))] := by rw [e_n_107_0, e_n_107_1, e_n_107_2, e_n_107_3]; exact hD
                      exact W.iret (v := zi_n ((-20) - 24)) hx hb hr (fun t ht hW => ⟨⟨zi_n ((-20) - 24), 10, rfl, ⟨zh_first_b 9 (by decide) (zh_all_s (zh_all_s (zh_all_s (zh_all_s (zh_all_s (zh_all_s (zh_all_s (zh_all_s (zh_all_s zh_all_0 c_3) c_7) c_11) c_15) c_19) c_23) c_27) c_31) c_35) c_39, rfl⟩, by rw [ht]; exact hP9, va_K.moved hW.alike hK, hD9⟩, hS.F ht⟩) hS.2.2 dX3_read_79
                  · refine zr_if_ne (tgt := 36) hx hb dX3_read_28 (by decide) (by omega) (fun c => absurd c (by decide)) (fun c_108 => ?_)
                    refine lv_aload_n hx hb dX3_read_31 rfl (lv_at hl 1 rfl) ?_
                    refine lv_iload_n hx hb dX3_read_32 rfl (lv_at hl 0 rfl) ?_
                    refine va_put (D := D) (ci := 4) (v := .int (zi_n 9)) (ty := .int) (C := RX3) (T := TX3) (N := 5) hx hb hts in_X3_read_X3 tyX3 tyX3_ok nmX3 hown hK hP hD hS 0 rfl rfl 4 (by decide) (hts (.fieldLink RX3 32 "ZHeads" "brokenRule" "I") (by decide +kernel)) (fun _ h9 => h9) rfl (by decide +kernel) rfl rfl (Nat.le_of_ble_eq_true rfl) dX3_read_33 (fun H locs hP hD hS => ?_)
                    have hP : va_P D vwCl [(x, .inr (4, [.ref q, .ref q2, .ref hh, .int (zi_n rd), .int (zi_n 9)])), (q, .inr (3, [.ref a, .int (zi_n n)])), (q2, .inr (3, [.ref a2, .int (zi_n k)])), (hh, .inr (2, [.ref q])), (a, .inl (cA, 600, .inl (zi_F F))), (a2, .inl (cB, 600, .inl (zi_F G)))] H := hP
                    have hD : va_D A [(x, .inr (4, [.ref q, .ref q2, .ref hh, .int (zi_n rd), .int (zi_n 9)])), (q, .inr (3, [.ref a, .int (zi_n n)])), (q2, .inr (3, [.ref a2, .int (zi_n k)])), (hh, .inr (2, [.ref q])), (a, .inl (cA, 600, .inl (zi_F F))), (a2, .inl (cB, 600, .inl (zi_F G)))] := hD
                    refine zr_iinc (lv' := [(1, .int (zi_n 10)), (0, .ref x)]) hx hb dX3_read_36 hl (k := 0) rfl (by decide) rfl (fun ls hl => ?_)
                    refine lv_goto (tgt := 7) hx hb dX3_read_39 (by decide) ?_
                    refine lv_iload_n hx hb dX3_read_7 rfl (lv_at hl 0 rfl) ?_
                    refine zr_bipush hx hb dX3_read_8 (by decide) ?_
                    refine zr_icmp_gt (tgt := 42) hx hb dX3_read_10 (by decide) (by omega) (by omega) (fun c => absurd c (by decide)) (fun c_109 => ?_)
                    refine lv_aload_n hx hb dX3_read_13 rfl (lv_at hl 1 rfl) ?_
                    refine va_get (D := D) (ci := 4) (v := .int (zi_n 9)) (C := RX3) (T := TX3) (N := 5) hx hb hts in_X3_read_X3 hown hK hP 0 rfl rfl 4 (by decide) (hts (.fieldLink RX3 32 "ZHeads" "brokenRule" "I") (by decide +kernel)) (fun _ h9 => h9) rfl dX3_read_14 ?_
                    refine zr_if_ne (tgt := 42) hx hb dX3_read_17 (by decide) (by omega) (fun c_110 => ?_) (fun c => absurd c (by decide))
                    refine lv_aload_n hx hb dX3_read_42 rfl (lv_at hl 1 rfl) ?_
                    refine lv_aload_n hx hb dX3_read_43 rfl (lv_at hl 1 rfl) ?_
                    refine va_get (D := D) (ci := 4) (v := .int (zi_n 9)) (C := RX3) (T := TX3) (N := 5) hx hb hts in_X3_read_X3 hown hK hP 0 rfl rfl 4 (by decide) (hts (.fieldLink RX3 32 "ZHeads" "brokenRule" "I") (by decide +kernel)) (fun _ h9 => h9) rfl dX3_read_44 ?_
                    refine zr_if_ne (tgt := 54) hx hb dX3_read_47 (by decide) (by omega) (fun c_111 => ?_) (fun c => absurd c (by decide))
                    refine zr_iconst hx hb dX3_read_54 ?_
                    refine va_put (D := D) (ci := 4) (v := .int (zi_n 0)) (ty := .boolean) (C := RX3) (T := TX3) (N := 5) hx hb hts in_X3_read_X3 tyX3 tyX3_ok nmX3 hown hK hP hD hS 0 rfl rfl 3 (by decide) (hts (.fieldLink RX3 28 "ZHeads" "isRead" "Z") (by decide +kernel)) (fun _ h9 => h9) rfl (by decide +kernel) (by decide) rfl (Nat.le_of_ble_eq_true rfl) dX3_read_55 (fun H locs hP hD hS => ?_)
                    have hP : va_P D vwCl [(x, .inr (4, [.ref q, .ref q2, .ref hh, .int (zi_n 0), .int (zi_n 9)])), (q, .inr (3, [.ref a, .int (zi_n n)])), (q2, .inr (3, [.ref a2, .int (zi_n k)])), (hh, .inr (2, [.ref q])), (a, .inl (cA, 600, .inl (zi_F F))), (a2, .inl (cB, 600, .inl (zi_F G)))] H := hP
                    have hD : va_D A [(x, .inr (4, [.ref q, .ref q2, .ref hh, .int (zi_n 0), .int (zi_n 9)])), (q, .inr (3, [.ref a, .int (zi_n n)])), (q2, .inr (3, [.ref a2, .int (zi_n k)])), (hh, .inr (2, [.ref q])), (a, .inl (cA, 600, .inl (zi_F F))), (a2, .inl (cB, 600, .inl (zi_F G)))] := hD
                    refine lv_aload_n hx hb dX3_read_58 rfl (lv_at hl 1 rfl) ?_
                    refine va_get (D := D) (ci := 4) (v := .int (zi_n 0)) (C := RX3) (T := TX3) (N := 5) hx hb hts in_X3_read_X3 hown hK hP 0 rfl rfl 3 (by decide) (hts (.fieldLink RX3 28 "ZHeads" "isRead" "Z") (by decide +kernel)) (fun _ h9 => h9) rfl dX3_read_59 ?_
                    refine zr_if_ne (tgt := 80) hx hb dX3_read_62 (by decide) (by omega) (fun c => absurd c (by decide)) (fun c_112 => ?_)
                    refine zr_bipush hx hb dX3_read_65 (by decide) ?_
                    refine lv_aload_n hx hb dX3_read_67 rfl (lv_at hl 1 rfl) ?_
                    refine va_get (D := D) (ci := 4) (v := .ref hh) (C := RX3) (T := TX3) (N := 5) hx hb hts in_X3_read_X3 hown hK hP 0 rfl rfl 2 (by decide) (hts (.fieldLink RX3 24 "ZHeads" "head" "LZHeads$Head;") (by decide +kernel)) (fun _ h9 => h9) rfl dX3_read_68 ?_
                    refine lv_aload_n hx hb dX3_read_71 rfl (lv_at hl 1 rfl) ?_
                    refine va_get (D := D) (ci := 4) (v := .int (zi_n 9)) (C := RX3) (T := TX3) (N := 5) hx hb hts in_X3_read_X3 hown hK hP 0 rfl rfl 4 (by decide) (hts (.fieldLink RX3 32 "ZHeads" "brokenRule" "I") (by decide +kernel)) (fun _ h9 => h9) rfl dX3_read_72 ?_
                    refine zc_V (As := [.int (zi_n 9)]) (rest := [.int (zi_n (-20))]) ⟨hx, hb, hml, hown, hts⟩ (c_Hd_placeOf9 l D hh q a cA F n hF (by omega)) (cwV 1 hts gX3_read_X0_placeOf rfl rfl rfl (by decide +kernel) ⟨(Nat.le_of_ble_eq_true rfl), (Nat.le_of_ble_eq_true rfl)⟩) hP hK [3, 1, 4] [0] rfl rfl (ci := 2) rfl rfl rfl rfl hl.1 rfl (Nat.le_of_ble_eq_true rfl) dX3_read_75 ⟨Nat.zero_le _, Nat.zero_le _⟩ (fun r hr1 => ?_)
                    obtain ⟨rfl, b_113⟩ := hr1
                    refine zr_isub hx hb dX3_read_78 ?_
                    have e_n_114_0 : zh_rdR 9 = 0 := by rfl
                    have e_n_114_1 : zh_rdB 9 = 9 := by rfl
                    have e_n_114_2 : zh_rdK n k 9 = k := by rfl
                    have e_n_114_3 : zh_rdG F G 9 = G := by rfl
                    have hP9 : va_P D vwCl [(x, .inr (4, [.ref q, .ref q2, .ref hh, .int (zi_n (zh_rdR 9)), .int (zi_n (zh_rdB 9))])), (q, .inr (3, [.ref a, .int (zi_n n)])), (q2, .inr (3, [.ref a2, .int (zi_n (zh_rdK n k 9))])), (hh, .inr (2, [.ref q])), (a, .inl (cA, 600, .inl (zi_F F))), (a2, .inl (cB, 600, .inl (zi_F (zh_rdG F G 9))))] H := by rw [e_n_114_0, e_n_114_1, e_n_114_2, e_n_114_3]; exact hP
                    have hD9 : va_D A [(x, .inr (4, [.ref q, .ref q2, .ref hh, .int (zi_n (zh_rdR 9)), .int (zi_n (zh_rdB 9))])), (q, .inr (3, [.ref a, .int (zi_n n)])), (q2, .inr (3, [.ref a2, .int (zi_n (zh_rdK n k 9))])), (hh, .inr (2, [.ref q])), (a, .inl (cA, 600, .inl (zi_F F))), (a2, .inl (cB, 600, .inl (zi_F (zh_rdG F G 9))))] := by rw [e_n_114_0, e_n_114_1, e_n_114_2, e_n_114_3]; exact hD
                    exact W.iret (v := zi_n ((-20) - 8)) hx hb hr (fun t ht hW => ⟨⟨zi_n ((-20) - 8), 9, rfl, ⟨zh_first_b 8 (by decide) (zh_all_s (zh_all_s (zh_all_s (zh_all_s (zh_all_s (zh_all_s (zh_all_s (zh_all_s zh_all_0 c_3) c_7) c_11) c_15) c_19) c_23) c_27) c_31) c_35, rfl⟩, by rw [ht]; exact hP9, va_K.moved hW.alike hK, hD9⟩, hS.F ht⟩) hS.2.2 dX3_read_79
                · refine zr_if_ne (tgt := 36) hx hb dX3_read_28 (by decide) (by omega) (fun c => absurd c (by decide)) (fun c_115 => ?_)
                  refine lv_aload_n hx hb dX3_read_31 rfl (lv_at hl 1 rfl) ?_
                  refine lv_iload_n hx hb dX3_read_32 rfl (lv_at hl 0 rfl) ?_
                  refine va_put (D := D) (ci := 4) (v := .int (zi_n 8)) (ty := .int) (C := RX3) (T := TX3) (N := 5) hx hb hts in_X3_read_X3 tyX3 tyX3_ok nmX3 hown hK hP hD hS 0 rfl rfl 4 (by decide) (hts (.fieldLink RX3 32 "ZHeads" "brokenRule" "I") (by decide +kernel)) (fun _ h9 => h9) rfl (by decide +kernel) rfl rfl (Nat.le_of_ble_eq_true rfl) dX3_read_33 (fun H locs hP hD hS => ?_)
                  have hP : va_P D vwCl [(x, .inr (4, [.ref q, .ref q2, .ref hh, .int (zi_n rd), .int (zi_n 8)])), (q, .inr (3, [.ref a, .int (zi_n n)])), (q2, .inr (3, [.ref a2, .int (zi_n k)])), (hh, .inr (2, [.ref q])), (a, .inl (cA, 600, .inl (zi_F F))), (a2, .inl (cB, 600, .inl (zi_F G)))] H := hP
                  have hD : va_D A [(x, .inr (4, [.ref q, .ref q2, .ref hh, .int (zi_n rd), .int (zi_n 8)])), (q, .inr (3, [.ref a, .int (zi_n n)])), (q2, .inr (3, [.ref a2, .int (zi_n k)])), (hh, .inr (2, [.ref q])), (a, .inl (cA, 600, .inl (zi_F F))), (a2, .inl (cB, 600, .inl (zi_F G)))] := hD
                  refine zr_iinc (lv' := [(1, .int (zi_n 9)), (0, .ref x)]) hx hb dX3_read_36 hl (k := 0) rfl (by decide) rfl (fun ls hl => ?_)
                  refine lv_goto (tgt := 7) hx hb dX3_read_39 (by decide) ?_
                  refine lv_iload_n hx hb dX3_read_7 rfl (lv_at hl 0 rfl) ?_
                  refine zr_bipush hx hb dX3_read_8 (by decide) ?_
                  refine zr_icmp_gt (tgt := 42) hx hb dX3_read_10 (by decide) (by omega) (by omega) (fun c => absurd c (by decide)) (fun c_116 => ?_)
                  refine lv_aload_n hx hb dX3_read_13 rfl (lv_at hl 1 rfl) ?_
                  refine va_get (D := D) (ci := 4) (v := .int (zi_n 8)) (C := RX3) (T := TX3) (N := 5) hx hb hts in_X3_read_X3 hown hK hP 0 rfl rfl 4 (by decide) (hts (.fieldLink RX3 32 "ZHeads" "brokenRule" "I") (by decide +kernel)) (fun _ h9 => h9) rfl dX3_read_14 ?_
                  refine zr_if_ne (tgt := 42) hx hb dX3_read_17 (by decide) (by omega) (fun c_117 => ?_) (fun c => absurd c (by decide))
                  refine lv_aload_n hx hb dX3_read_42 rfl (lv_at hl 1 rfl) ?_
                  refine lv_aload_n hx hb dX3_read_43 rfl (lv_at hl 1 rfl) ?_
                  refine va_get (D := D) (ci := 4) (v := .int (zi_n 8)) (C := RX3) (T := TX3) (N := 5) hx hb hts in_X3_read_X3 hown hK hP 0 rfl rfl 4 (by decide) (hts (.fieldLink RX3 32 "ZHeads" "brokenRule" "I") (by decide +kernel)) (fun _ h9 => h9) rfl dX3_read_44 ?_
                  refine zr_if_ne (tgt := 54) hx hb dX3_read_47 (by decide) (by omega) (fun c_118 => ?_) (fun c => absurd c (by decide))
                  refine zr_iconst hx hb dX3_read_54 ?_
                  refine va_put (D := D) (ci := 4) (v := .int (zi_n 0)) (ty := .boolean) (C := RX3) (T := TX3) (N := 5) hx hb hts in_X3_read_X3 tyX3 tyX3_ok nmX3 hown hK hP hD hS 0 rfl rfl 3 (by decide) (hts (.fieldLink RX3 28 "ZHeads" "isRead" "Z") (by decide +kernel)) (fun _ h9 => h9) rfl (by decide +kernel) (by decide) rfl (Nat.le_of_ble_eq_true rfl) dX3_read_55 (fun H locs hP hD hS => ?_)
                  have hP : va_P D vwCl [(x, .inr (4, [.ref q, .ref q2, .ref hh, .int (zi_n 0), .int (zi_n 8)])), (q, .inr (3, [.ref a, .int (zi_n n)])), (q2, .inr (3, [.ref a2, .int (zi_n k)])), (hh, .inr (2, [.ref q])), (a, .inl (cA, 600, .inl (zi_F F))), (a2, .inl (cB, 600, .inl (zi_F G)))] H := hP
                  have hD : va_D A [(x, .inr (4, [.ref q, .ref q2, .ref hh, .int (zi_n 0), .int (zi_n 8)])), (q, .inr (3, [.ref a, .int (zi_n n)])), (q2, .inr (3, [.ref a2, .int (zi_n k)])), (hh, .inr (2, [.ref q])), (a, .inl (cA, 600, .inl (zi_F F))), (a2, .inl (cB, 600, .inl (zi_F G)))] := hD
                  refine lv_aload_n hx hb dX3_read_58 rfl (lv_at hl 1 rfl) ?_
                  refine va_get (D := D) (ci := 4) (v := .int (zi_n 0)) (C := RX3) (T := TX3) (N := 5) hx hb hts in_X3_read_X3 hown hK hP 0 rfl rfl 3 (by decide) (hts (.fieldLink RX3 28 "ZHeads" "isRead" "Z") (by decide +kernel)) (fun _ h9 => h9) rfl dX3_read_59 ?_
                  refine zr_if_ne (tgt := 80) hx hb dX3_read_62 (by decide) (by omega) (fun c => absurd c (by decide)) (fun c_119 => ?_)
                  refine zr_bipush hx hb dX3_read_65 (by decide) ?_
                  refine lv_aload_n hx hb dX3_read_67 rfl (lv_at hl 1 rfl) ?_
                  refine va_get (D := D) (ci := 4) (v := .ref hh) (C := RX3) (T := TX3) (N := 5) hx hb hts in_X3_read_X3 hown hK hP 0 rfl rfl 2 (by decide) (hts (.fieldLink RX3 24 "ZHeads" "head" "LZHeads$Head;") (by decide +kernel)) (fun _ h9 => h9) rfl dX3_read_68 ?_
                  refine lv_aload_n hx hb dX3_read_71 rfl (lv_at hl 1 rfl) ?_
                  refine va_get (D := D) (ci := 4) (v := .int (zi_n 8)) (C := RX3) (T := TX3) (N := 5) hx hb hts in_X3_read_X3 hown hK hP 0 rfl rfl 4 (by decide) (hts (.fieldLink RX3 32 "ZHeads" "brokenRule" "I") (by decide +kernel)) (fun _ h9 => h9) rfl dX3_read_72 ?_
                  refine zc_V (As := [.int (zi_n 8)]) (rest := [.int (zi_n (-20))]) ⟨hx, hb, hml, hown, hts⟩ (c_Hd_placeOf8 l D hh q a cA F n hF (by omega)) (cwV 1 hts gX3_read_X0_placeOf rfl rfl rfl (by decide +kernel) ⟨(Nat.le_of_ble_eq_true rfl), (Nat.le_of_ble_eq_true rfl)⟩) hP hK [3, 1, 4] [0] rfl rfl (ci := 2) rfl rfl rfl rfl hl.1 rfl (Nat.le_of_ble_eq_true rfl) dX3_read_75 ⟨Nat.zero_le _, Nat.zero_le _⟩ (fun r hr1 => ?_)
                  obtain ⟨rfl, b_120⟩ := hr1
                  refine zr_isub hx hb dX3_read_78 ?_
                  have e_n_121_0 : zh_rdR 8 = 0 := by rfl
                  have e_n_121_1 : zh_rdB 8 = 8 := by rfl
                  have e_n_121_2 : zh_rdK n k 8 = k := by rfl
                  have e_n_121_3 : zh_rdG F G 8 = G := by rfl
                  have hP9 : va_P D vwCl [(x, .inr (4, [.ref q, .ref q2, .ref hh, .int (zi_n (zh_rdR 8)), .int (zi_n (zh_rdB 8))])), (q, .inr (3, [.ref a, .int (zi_n n)])), (q2, .inr (3, [.ref a2, .int (zi_n (zh_rdK n k 8))])), (hh, .inr (2, [.ref q])), (a, .inl (cA, 600, .inl (zi_F F))), (a2, .inl (cB, 600, .inl (zi_F (zh_rdG F G 8))))] H := by rw [e_n_121_0, e_n_121_1, e_n_121_2, e_n_121_3]; exact hP
                  have hD9 : va_D A [(x, .inr (4, [.ref q, .ref q2, .ref hh, .int (zi_n (zh_rdR 8)), .int (zi_n (zh_rdB 8))])), (q, .inr (3, [.ref a, .int (zi_n n)])), (q2, .inr (3, [.ref a2, .int (zi_n (zh_rdK n k 8))])), (hh, .inr (2, [.ref q])), (a, .inl (cA, 600, .inl (zi_F F))), (a2, .inl (cB, 600, .inl (zi_F (zh_rdG F G 8))))] := by rw [e_n_121_0, e_n_121_1, e_n_121_2, e_n_121_3]; exact hD
                  exact W.iret (v := zi_n ((-20) - 10)) hx hb hr (fun t ht hW => ⟨⟨zi_n ((-20) - 10), 8, rfl, ⟨zh_first_b 7 (by decide) (zh_all_s (zh_all_s (zh_all_s (zh_all_s (zh_all_s (zh_all_s (zh_all_s zh_all_0 c_3) c_7) c_11) c_15) c_19) c_23) c_27) c_31, rfl⟩, by rw [ht]; exact hP9, va_K.moved hW.alike hK, hD9⟩, hS.F ht⟩) hS.2.2 dX3_read_79
              · refine zr_if_ne (tgt := 36) hx hb dX3_read_28 (by decide) (by omega) (fun c => absurd c (by decide)) (fun c_122 => ?_)
                refine lv_aload_n hx hb dX3_read_31 rfl (lv_at hl 1 rfl) ?_
                refine lv_iload_n hx hb dX3_read_32 rfl (lv_at hl 0 rfl) ?_
                refine va_put (D := D) (ci := 4) (v := .int (zi_n 7)) (ty := .int) (C := RX3) (T := TX3) (N := 5) hx hb hts in_X3_read_X3 tyX3 tyX3_ok nmX3 hown hK hP hD hS 0 rfl rfl 4 (by decide) (hts (.fieldLink RX3 32 "ZHeads" "brokenRule" "I") (by decide +kernel)) (fun _ h9 => h9) rfl (by decide +kernel) rfl rfl (Nat.le_of_ble_eq_true rfl) dX3_read_33 (fun H locs hP hD hS => ?_)
                have hP : va_P D vwCl [(x, .inr (4, [.ref q, .ref q2, .ref hh, .int (zi_n rd), .int (zi_n 7)])), (q, .inr (3, [.ref a, .int (zi_n n)])), (q2, .inr (3, [.ref a2, .int (zi_n k)])), (hh, .inr (2, [.ref q])), (a, .inl (cA, 600, .inl (zi_F F))), (a2, .inl (cB, 600, .inl (zi_F G)))] H := hP
                have hD : va_D A [(x, .inr (4, [.ref q, .ref q2, .ref hh, .int (zi_n rd), .int (zi_n 7)])), (q, .inr (3, [.ref a, .int (zi_n n)])), (q2, .inr (3, [.ref a2, .int (zi_n k)])), (hh, .inr (2, [.ref q])), (a, .inl (cA, 600, .inl (zi_F F))), (a2, .inl (cB, 600, .inl (zi_F G)))] := hD
                refine zr_iinc (lv' := [(1, .int (zi_n 8)), (0, .ref x)]) hx hb dX3_read_36 hl (k := 0) rfl (by decide) rfl (fun ls hl => ?_)
                refine lv_goto (tgt := 7) hx hb dX3_read_39 (by decide) ?_
                refine lv_iload_n hx hb dX3_read_7 rfl (lv_at hl 0 rfl) ?_
                refine zr_bipush hx hb dX3_read_8 (by decide) ?_
                refine zr_icmp_gt (tgt := 42) hx hb dX3_read_10 (by decide) (by omega) (by omega) (fun c => absurd c (by decide)) (fun c_123 => ?_)
                refine lv_aload_n hx hb dX3_read_13 rfl (lv_at hl 1 rfl) ?_
                refine va_get (D := D) (ci := 4) (v := .int (zi_n 7)) (C := RX3) (T := TX3) (N := 5) hx hb hts in_X3_read_X3 hown hK hP 0 rfl rfl 4 (by decide) (hts (.fieldLink RX3 32 "ZHeads" "brokenRule" "I") (by decide +kernel)) (fun _ h9 => h9) rfl dX3_read_14 ?_
                refine zr_if_ne (tgt := 42) hx hb dX3_read_17 (by decide) (by omega) (fun c_124 => ?_) (fun c => absurd c (by decide))
                refine lv_aload_n hx hb dX3_read_42 rfl (lv_at hl 1 rfl) ?_
                refine lv_aload_n hx hb dX3_read_43 rfl (lv_at hl 1 rfl) ?_
                refine va_get (D := D) (ci := 4) (v := .int (zi_n 7)) (C := RX3) (T := TX3) (N := 5) hx hb hts in_X3_read_X3 hown hK hP 0 rfl rfl 4 (by decide) (hts (.fieldLink RX3 32 "ZHeads" "brokenRule" "I") (by decide +kernel)) (fun _ h9 => h9) rfl dX3_read_44 ?_
                refine zr_if_ne (tgt := 54) hx hb dX3_read_47 (by decide) (by omega) (fun c_125 => ?_) (fun c => absurd c (by decide))
                refine zr_iconst hx hb dX3_read_54 ?_
                refine va_put (D := D) (ci := 4) (v := .int (zi_n 0)) (ty := .boolean) (C := RX3) (T := TX3) (N := 5) hx hb hts in_X3_read_X3 tyX3 tyX3_ok nmX3 hown hK hP hD hS 0 rfl rfl 3 (by decide) (hts (.fieldLink RX3 28 "ZHeads" "isRead" "Z") (by decide +kernel)) (fun _ h9 => h9) rfl (by decide +kernel) (by decide) rfl (Nat.le_of_ble_eq_true rfl) dX3_read_55 (fun H locs hP hD hS => ?_)
                have hP : va_P D vwCl [(x, .inr (4, [.ref q, .ref q2, .ref hh, .int (zi_n 0), .int (zi_n 7)])), (q, .inr (3, [.ref a, .int (zi_n n)])), (q2, .inr (3, [.ref a2, .int (zi_n k)])), (hh, .inr (2, [.ref q])), (a, .inl (cA, 600, .inl (zi_F F))), (a2, .inl (cB, 600, .inl (zi_F G)))] H := hP
                have hD : va_D A [(x, .inr (4, [.ref q, .ref q2, .ref hh, .int (zi_n 0), .int (zi_n 7)])), (q, .inr (3, [.ref a, .int (zi_n n)])), (q2, .inr (3, [.ref a2, .int (zi_n k)])), (hh, .inr (2, [.ref q])), (a, .inl (cA, 600, .inl (zi_F F))), (a2, .inl (cB, 600, .inl (zi_F G)))] := hD
                refine lv_aload_n hx hb dX3_read_58 rfl (lv_at hl 1 rfl) ?_
                refine va_get (D := D) (ci := 4) (v := .int (zi_n 0)) (C := RX3) (T := TX3) (N := 5) hx hb hts in_X3_read_X3 hown hK hP 0 rfl rfl 3 (by decide) (hts (.fieldLink RX3 28 "ZHeads" "isRead" "Z") (by decide +kernel)) (fun _ h9 => h9) rfl dX3_read_59 ?_
                refine zr_if_ne (tgt := 80) hx hb dX3_read_62 (by decide) (by omega) (fun c => absurd c (by decide)) (fun c_126 => ?_)
                refine zr_bipush hx hb dX3_read_65 (by decide) ?_
                refine lv_aload_n hx hb dX3_read_67 rfl (lv_at hl 1 rfl) ?_
                refine va_get (D := D) (ci := 4) (v := .ref hh) (C := RX3) (T := TX3) (N := 5) hx hb hts in_X3_read_X3 hown hK hP 0 rfl rfl 2 (by decide) (hts (.fieldLink RX3 24 "ZHeads" "head" "LZHeads$Head;") (by decide +kernel)) (fun _ h9 => h9) rfl dX3_read_68 ?_
                refine lv_aload_n hx hb dX3_read_71 rfl (lv_at hl 1 rfl) ?_
                refine va_get (D := D) (ci := 4) (v := .int (zi_n 7)) (C := RX3) (T := TX3) (N := 5) hx hb hts in_X3_read_X3 hown hK hP 0 rfl rfl 4 (by decide) (hts (.fieldLink RX3 32 "ZHeads" "brokenRule" "I") (by decide +kernel)) (fun _ h9 => h9) rfl dX3_read_72 ?_
                refine zc_V (As := [.int (zi_n 7)]) (rest := [.int (zi_n (-20))]) ⟨hx, hb, hml, hown, hts⟩ (c_Hd_placeOf7 l D hh q a cA F n hF (by omega)) (cwV 1 hts gX3_read_X0_placeOf rfl rfl rfl (by decide +kernel) ⟨(Nat.le_of_ble_eq_true rfl), (Nat.le_of_ble_eq_true rfl)⟩) hP hK [3, 1, 4] [0] rfl rfl (ci := 2) rfl rfl rfl rfl hl.1 rfl (Nat.le_of_ble_eq_true rfl) dX3_read_75 ⟨Nat.zero_le _, Nat.zero_le _⟩ (fun r hr1 => ?_)
                obtain ⟨rfl, b_127⟩ := hr1
                refine zr_isub hx hb dX3_read_78 ?_
                have e_n_128_0 : zh_rdR 7 = 0 := by rfl
                have e_n_128_1 : zh_rdB 7 = 7 := by rfl
                have e_n_128_2 : zh_rdK n k 7 = k := by rfl
                have e_n_128_3 : zh_rdG F G 7 = G := by rfl
                have hP9 : va_P D vwCl [(x, .inr (4, [.ref q, .ref q2, .ref hh, .int (zi_n (zh_rdR 7)), .int (zi_n (zh_rdB 7))])), (q, .inr (3, [.ref a, .int (zi_n n)])), (q2, .inr (3, [.ref a2, .int (zi_n (zh_rdK n k 7))])), (hh, .inr (2, [.ref q])), (a, .inl (cA, 600, .inl (zi_F F))), (a2, .inl (cB, 600, .inl (zi_F (zh_rdG F G 7))))] H := by rw [e_n_128_0, e_n_128_1, e_n_128_2, e_n_128_3]; exact hP
                have hD9 : va_D A [(x, .inr (4, [.ref q, .ref q2, .ref hh, .int (zi_n (zh_rdR 7)), .int (zi_n (zh_rdB 7))])), (q, .inr (3, [.ref a, .int (zi_n n)])), (q2, .inr (3, [.ref a2, .int (zi_n (zh_rdK n k 7))])), (hh, .inr (2, [.ref q])), (a, .inl (cA, 600, .inl (zi_F F))), (a2, .inl (cB, 600, .inl (zi_F (zh_rdG F G 7))))] := by rw [e_n_128_0, e_n_128_1, e_n_128_2, e_n_128_3]; exact hD
                exact W.iret (v := zi_n ((-20) - 12)) hx hb hr (fun t ht hW => ⟨⟨zi_n ((-20) - 12), 7, rfl, ⟨zh_first_b 6 (by decide) (zh_all_s (zh_all_s (zh_all_s (zh_all_s (zh_all_s (zh_all_s zh_all_0 c_3) c_7) c_11) c_15) c_19) c_23) c_27, rfl⟩, by rw [ht]; exact hP9, va_K.moved hW.alike hK, hD9⟩, hS.F ht⟩) hS.2.2 dX3_read_79
            · refine zr_if_ne (tgt := 36) hx hb dX3_read_28 (by decide) (by omega) (fun c => absurd c (by decide)) (fun c_129 => ?_)
              refine lv_aload_n hx hb dX3_read_31 rfl (lv_at hl 1 rfl) ?_
              refine lv_iload_n hx hb dX3_read_32 rfl (lv_at hl 0 rfl) ?_
              refine va_put (D := D) (ci := 4) (v := .int (zi_n 6)) (ty := .int) (C := RX3) (T := TX3) (N := 5) hx hb hts in_X3_read_X3 tyX3 tyX3_ok nmX3 hown hK hP hD hS 0 rfl rfl 4 (by decide) (hts (.fieldLink RX3 32 "ZHeads" "brokenRule" "I") (by decide +kernel)) (fun _ h9 => h9) rfl (by decide +kernel) rfl rfl (Nat.le_of_ble_eq_true rfl) dX3_read_33 (fun H locs hP hD hS => ?_)
              have hP : va_P D vwCl [(x, .inr (4, [.ref q, .ref q2, .ref hh, .int (zi_n rd), .int (zi_n 6)])), (q, .inr (3, [.ref a, .int (zi_n n)])), (q2, .inr (3, [.ref a2, .int (zi_n k)])), (hh, .inr (2, [.ref q])), (a, .inl (cA, 600, .inl (zi_F F))), (a2, .inl (cB, 600, .inl (zi_F G)))] H := hP
              have hD : va_D A [(x, .inr (4, [.ref q, .ref q2, .ref hh, .int (zi_n rd), .int (zi_n 6)])), (q, .inr (3, [.ref a, .int (zi_n n)])), (q2, .inr (3, [.ref a2, .int (zi_n k)])), (hh, .inr (2, [.ref q])), (a, .inl (cA, 600, .inl (zi_F F))), (a2, .inl (cB, 600, .inl (zi_F G)))] := hD
              refine zr_iinc (lv' := [(1, .int (zi_n 7)), (0, .ref x)]) hx hb dX3_read_36 hl (k := 0) rfl (by decide) rfl (fun ls hl => ?_)
              refine lv_goto (tgt := 7) hx hb dX3_read_39 (by decide) ?_
              refine lv_iload_n hx hb dX3_read_7 rfl (lv_at hl 0 rfl) ?_
              refine zr_bipush hx hb dX3_read_8 (by decide) ?_
              refine zr_icmp_gt (tgt := 42) hx hb dX3_read_10 (by decide) (by omega) (by omega) (fun c => absurd c (by decide)) (fun c_130 => ?_)
              refine lv_aload_n hx hb dX3_read_13 rfl (lv_at hl 1 rfl) ?_
              refine va_get (D := D) (ci := 4) (v := .int (zi_n 6)) (C := RX3) (T := TX3) (N := 5) hx hb hts in_X3_read_X3 hown hK hP 0 rfl rfl 4 (by decide) (hts (.fieldLink RX3 32 "ZHeads" "brokenRule" "I") (by decide +kernel)) (fun _ h9 => h9) rfl dX3_read_14 ?_
              refine zr_if_ne (tgt := 42) hx hb dX3_read_17 (by decide) (by omega) (fun c_131 => ?_) (fun c => absurd c (by decide))
              refine lv_aload_n hx hb dX3_read_42 rfl (lv_at hl 1 rfl) ?_
              refine lv_aload_n hx hb dX3_read_43 rfl (lv_at hl 1 rfl) ?_
              refine va_get (D := D) (ci := 4) (v := .int (zi_n 6)) (C := RX3) (T := TX3) (N := 5) hx hb hts in_X3_read_X3 hown hK hP 0 rfl rfl 4 (by decide) (hts (.fieldLink RX3 32 "ZHeads" "brokenRule" "I") (by decide +kernel)) (fun _ h9 => h9) rfl dX3_read_44 ?_
              refine zr_if_ne (tgt := 54) hx hb dX3_read_47 (by decide) (by omega) (fun c_132 => ?_) (fun c => absurd c (by decide))
              refine zr_iconst hx hb dX3_read_54 ?_
              refine va_put (D := D) (ci := 4) (v := .int (zi_n 0)) (ty := .boolean) (C := RX3) (T := TX3) (N := 5) hx hb hts in_X3_read_X3 tyX3 tyX3_ok nmX3 hown hK hP hD hS 0 rfl rfl 3 (by decide) (hts (.fieldLink RX3 28 "ZHeads" "isRead" "Z") (by decide +kernel)) (fun _ h9 => h9) rfl (by decide +kernel) (by decide) rfl (Nat.le_of_ble_eq_true rfl) dX3_read_55 (fun H locs hP hD hS => ?_)
              have hP : va_P D vwCl [(x, .inr (4, [.ref q, .ref q2, .ref hh, .int (zi_n 0), .int (zi_n 6)])), (q, .inr (3, [.ref a, .int (zi_n n)])), (q2, .inr (3, [.ref a2, .int (zi_n k)])), (hh, .inr (2, [.ref q])), (a, .inl (cA, 600, .inl (zi_F F))), (a2, .inl (cB, 600, .inl (zi_F G)))] H := hP
              have hD : va_D A [(x, .inr (4, [.ref q, .ref q2, .ref hh, .int (zi_n 0), .int (zi_n 6)])), (q, .inr (3, [.ref a, .int (zi_n n)])), (q2, .inr (3, [.ref a2, .int (zi_n k)])), (hh, .inr (2, [.ref q])), (a, .inl (cA, 600, .inl (zi_F F))), (a2, .inl (cB, 600, .inl (zi_F G)))] := hD
              refine lv_aload_n hx hb dX3_read_58 rfl (lv_at hl 1 rfl) ?_
              refine va_get (D := D) (ci := 4) (v := .int (zi_n 0)) (C := RX3) (T := TX3) (N := 5) hx hb hts in_X3_read_X3 hown hK hP 0 rfl rfl 3 (by decide) (hts (.fieldLink RX3 28 "ZHeads" "isRead" "Z") (by decide +kernel)) (fun _ h9 => h9) rfl dX3_read_59 ?_
              refine zr_if_ne (tgt := 80) hx hb dX3_read_62 (by decide) (by omega) (fun c => absurd c (by decide)) (fun c_133 => ?_)
              refine zr_bipush hx hb dX3_read_65 (by decide) ?_
              refine lv_aload_n hx hb dX3_read_67 rfl (lv_at hl 1 rfl) ?_
              refine va_get (D := D) (ci := 4) (v := .ref hh) (C := RX3) (T := TX3) (N := 5) hx hb hts in_X3_read_X3 hown hK hP 0 rfl rfl 2 (by decide) (hts (.fieldLink RX3 24 "ZHeads" "head" "LZHeads$Head;") (by decide +kernel)) (fun _ h9 => h9) rfl dX3_read_68 ?_
              refine lv_aload_n hx hb dX3_read_71 rfl (lv_at hl 1 rfl) ?_
              refine va_get (D := D) (ci := 4) (v := .int (zi_n 6)) (C := RX3) (T := TX3) (N := 5) hx hb hts in_X3_read_X3 hown hK hP 0 rfl rfl 4 (by decide) (hts (.fieldLink RX3 32 "ZHeads" "brokenRule" "I") (by decide +kernel)) (fun _ h9 => h9) rfl dX3_read_72 ?_
              refine zc_V (As := [.int (zi_n 6)]) (rest := [.int (zi_n (-20))]) ⟨hx, hb, hml, hown, hts⟩ (c_Hd_placeOf6 l D hh q a cA F n hF (by omega)) (cwV 1 hts gX3_read_X0_placeOf rfl rfl rfl (by decide +kernel) ⟨(Nat.le_of_ble_eq_true rfl), (Nat.le_of_ble_eq_true rfl)⟩) hP hK [3, 1, 4] [0] rfl rfl (ci := 2) rfl rfl rfl rfl hl.1 rfl (Nat.le_of_ble_eq_true rfl) dX3_read_75 ⟨Nat.zero_le _, Nat.zero_le _⟩ (fun r hr1 => ?_)
              obtain ⟨rfl, b_134⟩ := hr1
              refine zr_isub hx hb dX3_read_78 ?_
              have e_n_135_0 : zh_rdR 6 = 0 := by rfl
              have e_n_135_1 : zh_rdB 6 = 6 := by rfl
              have e_n_135_2 : zh_rdK n k 6 = k := by rfl
              have e_n_135_3 : zh_rdG F G 6 = G := by rfl
              have hP9 : va_P D vwCl [(x, .inr (4, [.ref q, .ref q2, .ref hh, .int (zi_n (zh_rdR 6)), .int (zi_n (zh_rdB 6))])), (q, .inr (3, [.ref a, .int (zi_n n)])), (q2, .inr (3, [.ref a2, .int (zi_n (zh_rdK n k 6))])), (hh, .inr (2, [.ref q])), (a, .inl (cA, 600, .inl (zi_F F))), (a2, .inl (cB, 600, .inl (zi_F (zh_rdG F G 6))))] H := by rw [e_n_135_0, e_n_135_1, e_n_135_2, e_n_135_3]; exact hP
              have hD9 : va_D A [(x, .inr (4, [.ref q, .ref q2, .ref hh, .int (zi_n (zh_rdR 6)), .int (zi_n (zh_rdB 6))])), (q, .inr (3, [.ref a, .int (zi_n n)])), (q2, .inr (3, [.ref a2, .int (zi_n (zh_rdK n k 6))])), (hh, .inr (2, [.ref q])), (a, .inl (cA, 600, .inl (zi_F F))), (a2, .inl (cB, 600, .inl (zi_F (zh_rdG F G 6))))] := by rw [e_n_135_0, e_n_135_1, e_n_135_2, e_n_135_3]; exact hD
              exact W.iret (v := zi_n ((-20) - 4)) hx hb hr (fun t ht hW => ⟨⟨zi_n ((-20) - 4), 6, rfl, ⟨zh_first_b 5 (by decide) (zh_all_s (zh_all_s (zh_all_s (zh_all_s (zh_all_s zh_all_0 c_3) c_7) c_11) c_15) c_19) c_23, rfl⟩, by rw [ht]; exact hP9, va_K.moved hW.alike hK, hD9⟩, hS.F ht⟩) hS.2.2 dX3_read_79
          · refine zr_if_ne (tgt := 36) hx hb dX3_read_28 (by decide) (by omega) (fun c => absurd c (by decide)) (fun c_136 => ?_)
            refine lv_aload_n hx hb dX3_read_31 rfl (lv_at hl 1 rfl) ?_
            refine lv_iload_n hx hb dX3_read_32 rfl (lv_at hl 0 rfl) ?_
            refine va_put (D := D) (ci := 4) (v := .int (zi_n 5)) (ty := .int) (C := RX3) (T := TX3) (N := 5) hx hb hts in_X3_read_X3 tyX3 tyX3_ok nmX3 hown hK hP hD hS 0 rfl rfl 4 (by decide) (hts (.fieldLink RX3 32 "ZHeads" "brokenRule" "I") (by decide +kernel)) (fun _ h9 => h9) rfl (by decide +kernel) rfl rfl (Nat.le_of_ble_eq_true rfl) dX3_read_33 (fun H locs hP hD hS => ?_)
            have hP : va_P D vwCl [(x, .inr (4, [.ref q, .ref q2, .ref hh, .int (zi_n rd), .int (zi_n 5)])), (q, .inr (3, [.ref a, .int (zi_n n)])), (q2, .inr (3, [.ref a2, .int (zi_n k)])), (hh, .inr (2, [.ref q])), (a, .inl (cA, 600, .inl (zi_F F))), (a2, .inl (cB, 600, .inl (zi_F G)))] H := hP
            have hD : va_D A [(x, .inr (4, [.ref q, .ref q2, .ref hh, .int (zi_n rd), .int (zi_n 5)])), (q, .inr (3, [.ref a, .int (zi_n n)])), (q2, .inr (3, [.ref a2, .int (zi_n k)])), (hh, .inr (2, [.ref q])), (a, .inl (cA, 600, .inl (zi_F F))), (a2, .inl (cB, 600, .inl (zi_F G)))] := hD
            refine zr_iinc (lv' := [(1, .int (zi_n 6)), (0, .ref x)]) hx hb dX3_read_36 hl (k := 0) rfl (by decide) rfl (fun ls hl => ?_)
            refine lv_goto (tgt := 7) hx hb dX3_read_39 (by decide) ?_
            refine lv_iload_n hx hb dX3_read_7 rfl (lv_at hl 0 rfl) ?_
            refine zr_bipush hx hb dX3_read_8 (by decide) ?_
            refine zr_icmp_gt (tgt := 42) hx hb dX3_read_10 (by decide) (by omega) (by omega) (fun c => absurd c (by decide)) (fun c_137 => ?_)
            refine lv_aload_n hx hb dX3_read_13 rfl (lv_at hl 1 rfl) ?_
            refine va_get (D := D) (ci := 4) (v := .int (zi_n 5)) (C := RX3) (T := TX3) (N := 5) hx hb hts in_X3_read_X3 hown hK hP 0 rfl rfl 4 (by decide) (hts (.fieldLink RX3 32 "ZHeads" "brokenRule" "I") (by decide +kernel)) (fun _ h9 => h9) rfl dX3_read_14 ?_
            refine zr_if_ne (tgt := 42) hx hb dX3_read_17 (by decide) (by omega) (fun c_138 => ?_) (fun c => absurd c (by decide))
            refine lv_aload_n hx hb dX3_read_42 rfl (lv_at hl 1 rfl) ?_
            refine lv_aload_n hx hb dX3_read_43 rfl (lv_at hl 1 rfl) ?_
            refine va_get (D := D) (ci := 4) (v := .int (zi_n 5)) (C := RX3) (T := TX3) (N := 5) hx hb hts in_X3_read_X3 hown hK hP 0 rfl rfl 4 (by decide) (hts (.fieldLink RX3 32 "ZHeads" "brokenRule" "I") (by decide +kernel)) (fun _ h9 => h9) rfl dX3_read_44 ?_
            refine zr_if_ne (tgt := 54) hx hb dX3_read_47 (by decide) (by omega) (fun c_139 => ?_) (fun c => absurd c (by decide))
            refine zr_iconst hx hb dX3_read_54 ?_
            refine va_put (D := D) (ci := 4) (v := .int (zi_n 0)) (ty := .boolean) (C := RX3) (T := TX3) (N := 5) hx hb hts in_X3_read_X3 tyX3 tyX3_ok nmX3 hown hK hP hD hS 0 rfl rfl 3 (by decide) (hts (.fieldLink RX3 28 "ZHeads" "isRead" "Z") (by decide +kernel)) (fun _ h9 => h9) rfl (by decide +kernel) (by decide) rfl (Nat.le_of_ble_eq_true rfl) dX3_read_55 (fun H locs hP hD hS => ?_)
            have hP : va_P D vwCl [(x, .inr (4, [.ref q, .ref q2, .ref hh, .int (zi_n 0), .int (zi_n 5)])), (q, .inr (3, [.ref a, .int (zi_n n)])), (q2, .inr (3, [.ref a2, .int (zi_n k)])), (hh, .inr (2, [.ref q])), (a, .inl (cA, 600, .inl (zi_F F))), (a2, .inl (cB, 600, .inl (zi_F G)))] H := hP
            have hD : va_D A [(x, .inr (4, [.ref q, .ref q2, .ref hh, .int (zi_n 0), .int (zi_n 5)])), (q, .inr (3, [.ref a, .int (zi_n n)])), (q2, .inr (3, [.ref a2, .int (zi_n k)])), (hh, .inr (2, [.ref q])), (a, .inl (cA, 600, .inl (zi_F F))), (a2, .inl (cB, 600, .inl (zi_F G)))] := hD
            refine lv_aload_n hx hb dX3_read_58 rfl (lv_at hl 1 rfl) ?_
            refine va_get (D := D) (ci := 4) (v := .int (zi_n 0)) (C := RX3) (T := TX3) (N := 5) hx hb hts in_X3_read_X3 hown hK hP 0 rfl rfl 3 (by decide) (hts (.fieldLink RX3 28 "ZHeads" "isRead" "Z") (by decide +kernel)) (fun _ h9 => h9) rfl dX3_read_59 ?_
            refine zr_if_ne (tgt := 80) hx hb dX3_read_62 (by decide) (by omega) (fun c => absurd c (by decide)) (fun c_140 => ?_)
            refine zr_bipush hx hb dX3_read_65 (by decide) ?_
            refine lv_aload_n hx hb dX3_read_67 rfl (lv_at hl 1 rfl) ?_
            refine va_get (D := D) (ci := 4) (v := .ref hh) (C := RX3) (T := TX3) (N := 5) hx hb hts in_X3_read_X3 hown hK hP 0 rfl rfl 2 (by decide) (hts (.fieldLink RX3 24 "ZHeads" "head" "LZHeads$Head;") (by decide +kernel)) (fun _ h9 => h9) rfl dX3_read_68 ?_
            refine lv_aload_n hx hb dX3_read_71 rfl (lv_at hl 1 rfl) ?_
            refine va_get (D := D) (ci := 4) (v := .int (zi_n 5)) (C := RX3) (T := TX3) (N := 5) hx hb hts in_X3_read_X3 hown hK hP 0 rfl rfl 4 (by decide) (hts (.fieldLink RX3 32 "ZHeads" "brokenRule" "I") (by decide +kernel)) (fun _ h9 => h9) rfl dX3_read_72 ?_
            refine zc_V (As := [.int (zi_n 5)]) (rest := [.int (zi_n (-20))]) ⟨hx, hb, hml, hown, hts⟩ (c_Hd_placeOf5 l D hh q a cA F n hF (by omega)) (cwV 1 hts gX3_read_X0_placeOf rfl rfl rfl (by decide +kernel) ⟨(Nat.le_of_ble_eq_true rfl), (Nat.le_of_ble_eq_true rfl)⟩) hP hK [3, 1, 4] [0] rfl rfl (ci := 2) rfl rfl rfl rfl hl.1 rfl (Nat.le_of_ble_eq_true rfl) dX3_read_75 ⟨Nat.zero_le _, Nat.zero_le _⟩ (fun r hr1 => ?_)
            obtain ⟨rfl, b_141⟩ := hr1
            refine zr_isub hx hb dX3_read_78 ?_
            have e_n_142_0 : zh_rdR 5 = 0 := by rfl
            have e_n_142_1 : zh_rdB 5 = 5 := by rfl
            have e_n_142_2 : zh_rdK n k 5 = k := by rfl
            have e_n_142_3 : zh_rdG F G 5 = G := by rfl
            have hP9 : va_P D vwCl [(x, .inr (4, [.ref q, .ref q2, .ref hh, .int (zi_n (zh_rdR 5)), .int (zi_n (zh_rdB 5))])), (q, .inr (3, [.ref a, .int (zi_n n)])), (q2, .inr (3, [.ref a2, .int (zi_n (zh_rdK n k 5))])), (hh, .inr (2, [.ref q])), (a, .inl (cA, 600, .inl (zi_F F))), (a2, .inl (cB, 600, .inl (zi_F (zh_rdG F G 5))))] H := by rw [e_n_142_0, e_n_142_1, e_n_142_2, e_n_142_3]; exact hP
            have hD9 : va_D A [(x, .inr (4, [.ref q, .ref q2, .ref hh, .int (zi_n (zh_rdR 5)), .int (zi_n (zh_rdB 5))])), (q, .inr (3, [.ref a, .int (zi_n n)])), (q2, .inr (3, [.ref a2, .int (zi_n (zh_rdK n k 5))])), (hh, .inr (2, [.ref q])), (a, .inl (cA, 600, .inl (zi_F F))), (a2, .inl (cB, 600, .inl (zi_F (zh_rdG F G 5))))] := by rw [e_n_142_0, e_n_142_1, e_n_142_2, e_n_142_3]; exact hD
            exact W.iret (v := zi_n ((-20) - 14)) hx hb hr (fun t ht hW => ⟨⟨zi_n ((-20) - 14), 5, rfl, ⟨zh_first_b 4 (by decide) (zh_all_s (zh_all_s (zh_all_s (zh_all_s zh_all_0 c_3) c_7) c_11) c_15) c_19, rfl⟩, by rw [ht]; exact hP9, va_K.moved hW.alike hK, hD9⟩, hS.F ht⟩) hS.2.2 dX3_read_79
        · unfold zh_ok4 at c_15
          refine zr_if_ne (tgt := 36) hx hb dX3_read_28 (by decide) (by omega) (fun c => absurd c (by decide)) (fun c_143 => ?_)
          refine lv_aload_n hx hb dX3_read_31 rfl (lv_at hl 1 rfl) ?_
          refine lv_iload_n hx hb dX3_read_32 rfl (lv_at hl 0 rfl) ?_
          refine va_put (D := D) (ci := 4) (v := .int (zi_n 4)) (ty := .int) (C := RX3) (T := TX3) (N := 5) hx hb hts in_X3_read_X3 tyX3 tyX3_ok nmX3 hown hK hP hD hS 0 rfl rfl 4 (by decide) (hts (.fieldLink RX3 32 "ZHeads" "brokenRule" "I") (by decide +kernel)) (fun _ h9 => h9) rfl (by decide +kernel) rfl rfl (Nat.le_of_ble_eq_true rfl) dX3_read_33 (fun H locs hP hD hS => ?_)
          have hP : va_P D vwCl [(x, .inr (4, [.ref q, .ref q2, .ref hh, .int (zi_n rd), .int (zi_n 4)])), (q, .inr (3, [.ref a, .int (zi_n n)])), (q2, .inr (3, [.ref a2, .int (zi_n k)])), (hh, .inr (2, [.ref q])), (a, .inl (cA, 600, .inl (zi_F F))), (a2, .inl (cB, 600, .inl (zi_F G)))] H := hP
          have hD : va_D A [(x, .inr (4, [.ref q, .ref q2, .ref hh, .int (zi_n rd), .int (zi_n 4)])), (q, .inr (3, [.ref a, .int (zi_n n)])), (q2, .inr (3, [.ref a2, .int (zi_n k)])), (hh, .inr (2, [.ref q])), (a, .inl (cA, 600, .inl (zi_F F))), (a2, .inl (cB, 600, .inl (zi_F G)))] := hD
          refine zr_iinc (lv' := [(1, .int (zi_n 5)), (0, .ref x)]) hx hb dX3_read_36 hl (k := 0) rfl (by decide) rfl (fun ls hl => ?_)
          refine lv_goto (tgt := 7) hx hb dX3_read_39 (by decide) ?_
          refine lv_iload_n hx hb dX3_read_7 rfl (lv_at hl 0 rfl) ?_
          refine zr_bipush hx hb dX3_read_8 (by decide) ?_
          refine zr_icmp_gt (tgt := 42) hx hb dX3_read_10 (by decide) (by omega) (by omega) (fun c => absurd c (by decide)) (fun c_144 => ?_)
          refine lv_aload_n hx hb dX3_read_13 rfl (lv_at hl 1 rfl) ?_
          refine va_get (D := D) (ci := 4) (v := .int (zi_n 4)) (C := RX3) (T := TX3) (N := 5) hx hb hts in_X3_read_X3 hown hK hP 0 rfl rfl 4 (by decide) (hts (.fieldLink RX3 32 "ZHeads" "brokenRule" "I") (by decide +kernel)) (fun _ h9 => h9) rfl dX3_read_14 ?_
          refine zr_if_ne (tgt := 42) hx hb dX3_read_17 (by decide) (by omega) (fun c_145 => ?_) (fun c => absurd c (by decide))
          refine lv_aload_n hx hb dX3_read_42 rfl (lv_at hl 1 rfl) ?_
          refine lv_aload_n hx hb dX3_read_43 rfl (lv_at hl 1 rfl) ?_
          refine va_get (D := D) (ci := 4) (v := .int (zi_n 4)) (C := RX3) (T := TX3) (N := 5) hx hb hts in_X3_read_X3 hown hK hP 0 rfl rfl 4 (by decide) (hts (.fieldLink RX3 32 "ZHeads" "brokenRule" "I") (by decide +kernel)) (fun _ h9 => h9) rfl dX3_read_44 ?_
          refine zr_if_ne (tgt := 54) hx hb dX3_read_47 (by decide) (by omega) (fun c_146 => ?_) (fun c => absurd c (by decide))
          refine zr_iconst hx hb dX3_read_54 ?_
          refine va_put (D := D) (ci := 4) (v := .int (zi_n 0)) (ty := .boolean) (C := RX3) (T := TX3) (N := 5) hx hb hts in_X3_read_X3 tyX3 tyX3_ok nmX3 hown hK hP hD hS 0 rfl rfl 3 (by decide) (hts (.fieldLink RX3 28 "ZHeads" "isRead" "Z") (by decide +kernel)) (fun _ h9 => h9) rfl (by decide +kernel) (by decide) rfl (Nat.le_of_ble_eq_true rfl) dX3_read_55 (fun H locs hP hD hS => ?_)
          have hP : va_P D vwCl [(x, .inr (4, [.ref q, .ref q2, .ref hh, .int (zi_n 0), .int (zi_n 4)])), (q, .inr (3, [.ref a, .int (zi_n n)])), (q2, .inr (3, [.ref a2, .int (zi_n k)])), (hh, .inr (2, [.ref q])), (a, .inl (cA, 600, .inl (zi_F F))), (a2, .inl (cB, 600, .inl (zi_F G)))] H := hP
          have hD : va_D A [(x, .inr (4, [.ref q, .ref q2, .ref hh, .int (zi_n 0), .int (zi_n 4)])), (q, .inr (3, [.ref a, .int (zi_n n)])), (q2, .inr (3, [.ref a2, .int (zi_n k)])), (hh, .inr (2, [.ref q])), (a, .inl (cA, 600, .inl (zi_F F))), (a2, .inl (cB, 600, .inl (zi_F G)))] := hD
          refine lv_aload_n hx hb dX3_read_58 rfl (lv_at hl 1 rfl) ?_
          refine va_get (D := D) (ci := 4) (v := .int (zi_n 0)) (C := RX3) (T := TX3) (N := 5) hx hb hts in_X3_read_X3 hown hK hP 0 rfl rfl 3 (by decide) (hts (.fieldLink RX3 28 "ZHeads" "isRead" "Z") (by decide +kernel)) (fun _ h9 => h9) rfl dX3_read_59 ?_
          refine zr_if_ne (tgt := 80) hx hb dX3_read_62 (by decide) (by omega) (fun c => absurd c (by decide)) (fun c_147 => ?_)
          refine zr_bipush hx hb dX3_read_65 (by decide) ?_
          refine lv_aload_n hx hb dX3_read_67 rfl (lv_at hl 1 rfl) ?_
          refine va_get (D := D) (ci := 4) (v := .ref hh) (C := RX3) (T := TX3) (N := 5) hx hb hts in_X3_read_X3 hown hK hP 0 rfl rfl 2 (by decide) (hts (.fieldLink RX3 24 "ZHeads" "head" "LZHeads$Head;") (by decide +kernel)) (fun _ h9 => h9) rfl dX3_read_68 ?_
          refine lv_aload_n hx hb dX3_read_71 rfl (lv_at hl 1 rfl) ?_
          refine va_get (D := D) (ci := 4) (v := .int (zi_n 4)) (C := RX3) (T := TX3) (N := 5) hx hb hts in_X3_read_X3 hown hK hP 0 rfl rfl 4 (by decide) (hts (.fieldLink RX3 32 "ZHeads" "brokenRule" "I") (by decide +kernel)) (fun _ h9 => h9) rfl dX3_read_72 ?_
          refine zc_V (As := [.int (zi_n 4)]) (rest := [.int (zi_n (-20))]) ⟨hx, hb, hml, hown, hts⟩ (c_Hd_placeOf4 l D hh q a cA F n hF (by omega)) (cwV 1 hts gX3_read_X0_placeOf rfl rfl rfl (by decide +kernel) ⟨(Nat.le_of_ble_eq_true rfl), (Nat.le_of_ble_eq_true rfl)⟩) hP hK [3, 1, 4] [0] rfl rfl (ci := 2) rfl rfl rfl rfl hl.1 rfl (Nat.le_of_ble_eq_true rfl) dX3_read_75 ⟨Nat.zero_le _, Nat.zero_le _⟩ (fun r hr1 => ?_)
          obtain ⟨rfl, b_148⟩ := hr1
          refine zr_isub hx hb dX3_read_78 ?_
          have e_n_149_0 : zh_rdR 4 = 0 := by rfl
          have e_n_149_1 : zh_rdB 4 = 4 := by rfl
          have e_n_149_2 : zh_rdK n k 4 = k := by rfl
          have e_n_149_3 : zh_rdG F G 4 = G := by rfl
          have hP9 : va_P D vwCl [(x, .inr (4, [.ref q, .ref q2, .ref hh, .int (zi_n (zh_rdR 4)), .int (zi_n (zh_rdB 4))])), (q, .inr (3, [.ref a, .int (zi_n n)])), (q2, .inr (3, [.ref a2, .int (zi_n (zh_rdK n k 4))])), (hh, .inr (2, [.ref q])), (a, .inl (cA, 600, .inl (zi_F F))), (a2, .inl (cB, 600, .inl (zi_F (zh_rdG F G 4))))] H := by rw [e_n_149_0, e_n_149_1, e_n_149_2, e_n_149_3]; exact hP
          have hD9 : va_D A [(x, .inr (4, [.ref q, .ref q2, .ref hh, .int (zi_n (zh_rdR 4)), .int (zi_n (zh_rdB 4))])), (q, .inr (3, [.ref a, .int (zi_n n)])), (q2, .inr (3, [.ref a2, .int (zi_n (zh_rdK n k 4))])), (hh, .inr (2, [.ref q])), (a, .inl (cA, 600, .inl (zi_F F))), (a2, .inl (cB, 600, .inl (zi_F (zh_rdG F G 4))))] := by rw [e_n_149_0, e_n_149_1, e_n_149_2, e_n_149_3]; exact hD
          exact W.iret (v := zi_n ((-20) - 26)) hx hb hr (fun t ht hW => ⟨⟨zi_n ((-20) - 26), 4, rfl, ⟨zh_first_b 3 (by decide) (zh_all_s (zh_all_s (zh_all_s zh_all_0 c_3) c_7) c_11) c_15, rfl⟩, by rw [ht]; exact hP9, va_K.moved hW.alike hK, hD9⟩, hS.F ht⟩) hS.2.2 dX3_read_79
      · unfold zh_ok3 at c_11
        refine zr_if_ne (tgt := 36) hx hb dX3_read_28 (by decide) (by omega) (fun c => absurd c (by decide)) (fun c_150 => ?_)
        refine lv_aload_n hx hb dX3_read_31 rfl (lv_at hl 1 rfl) ?_
        refine lv_iload_n hx hb dX3_read_32 rfl (lv_at hl 0 rfl) ?_
        refine va_put (D := D) (ci := 4) (v := .int (zi_n 3)) (ty := .int) (C := RX3) (T := TX3) (N := 5) hx hb hts in_X3_read_X3 tyX3 tyX3_ok nmX3 hown hK hP hD hS 0 rfl rfl 4 (by decide) (hts (.fieldLink RX3 32 "ZHeads" "brokenRule" "I") (by decide +kernel)) (fun _ h9 => h9) rfl (by decide +kernel) rfl rfl (Nat.le_of_ble_eq_true rfl) dX3_read_33 (fun H locs hP hD hS => ?_)
        have hP : va_P D vwCl [(x, .inr (4, [.ref q, .ref q2, .ref hh, .int (zi_n rd), .int (zi_n 3)])), (q, .inr (3, [.ref a, .int (zi_n n)])), (q2, .inr (3, [.ref a2, .int (zi_n k)])), (hh, .inr (2, [.ref q])), (a, .inl (cA, 600, .inl (zi_F F))), (a2, .inl (cB, 600, .inl (zi_F G)))] H := hP
        have hD : va_D A [(x, .inr (4, [.ref q, .ref q2, .ref hh, .int (zi_n rd), .int (zi_n 3)])), (q, .inr (3, [.ref a, .int (zi_n n)])), (q2, .inr (3, [.ref a2, .int (zi_n k)])), (hh, .inr (2, [.ref q])), (a, .inl (cA, 600, .inl (zi_F F))), (a2, .inl (cB, 600, .inl (zi_F G)))] := hD
        refine zr_iinc (lv' := [(1, .int (zi_n 4)), (0, .ref x)]) hx hb dX3_read_36 hl (k := 0) rfl (by decide) rfl (fun ls hl => ?_)
        refine lv_goto (tgt := 7) hx hb dX3_read_39 (by decide) ?_
        refine lv_iload_n hx hb dX3_read_7 rfl (lv_at hl 0 rfl) ?_
        refine zr_bipush hx hb dX3_read_8 (by decide) ?_
        refine zr_icmp_gt (tgt := 42) hx hb dX3_read_10 (by decide) (by omega) (by omega) (fun c => absurd c (by decide)) (fun c_151 => ?_)
        refine lv_aload_n hx hb dX3_read_13 rfl (lv_at hl 1 rfl) ?_
        refine va_get (D := D) (ci := 4) (v := .int (zi_n 3)) (C := RX3) (T := TX3) (N := 5) hx hb hts in_X3_read_X3 hown hK hP 0 rfl rfl 4 (by decide) (hts (.fieldLink RX3 32 "ZHeads" "brokenRule" "I") (by decide +kernel)) (fun _ h9 => h9) rfl dX3_read_14 ?_
        refine zr_if_ne (tgt := 42) hx hb dX3_read_17 (by decide) (by omega) (fun c_152 => ?_) (fun c => absurd c (by decide))
        refine lv_aload_n hx hb dX3_read_42 rfl (lv_at hl 1 rfl) ?_
        refine lv_aload_n hx hb dX3_read_43 rfl (lv_at hl 1 rfl) ?_
        refine va_get (D := D) (ci := 4) (v := .int (zi_n 3)) (C := RX3) (T := TX3) (N := 5) hx hb hts in_X3_read_X3 hown hK hP 0 rfl rfl 4 (by decide) (hts (.fieldLink RX3 32 "ZHeads" "brokenRule" "I") (by decide +kernel)) (fun _ h9 => h9) rfl dX3_read_44 ?_
        refine zr_if_ne (tgt := 54) hx hb dX3_read_47 (by decide) (by omega) (fun c_153 => ?_) (fun c => absurd c (by decide))
        refine zr_iconst hx hb dX3_read_54 ?_
        refine va_put (D := D) (ci := 4) (v := .int (zi_n 0)) (ty := .boolean) (C := RX3) (T := TX3) (N := 5) hx hb hts in_X3_read_X3 tyX3 tyX3_ok nmX3 hown hK hP hD hS 0 rfl rfl 3 (by decide) (hts (.fieldLink RX3 28 "ZHeads" "isRead" "Z") (by decide +kernel)) (fun _ h9 => h9) rfl (by decide +kernel) (by decide) rfl (Nat.le_of_ble_eq_true rfl) dX3_read_55 (fun H locs hP hD hS => ?_)
        have hP : va_P D vwCl [(x, .inr (4, [.ref q, .ref q2, .ref hh, .int (zi_n 0), .int (zi_n 3)])), (q, .inr (3, [.ref a, .int (zi_n n)])), (q2, .inr (3, [.ref a2, .int (zi_n k)])), (hh, .inr (2, [.ref q])), (a, .inl (cA, 600, .inl (zi_F F))), (a2, .inl (cB, 600, .inl (zi_F G)))] H := hP
        have hD : va_D A [(x, .inr (4, [.ref q, .ref q2, .ref hh, .int (zi_n 0), .int (zi_n 3)])), (q, .inr (3, [.ref a, .int (zi_n n)])), (q2, .inr (3, [.ref a2, .int (zi_n k)])), (hh, .inr (2, [.ref q])), (a, .inl (cA, 600, .inl (zi_F F))), (a2, .inl (cB, 600, .inl (zi_F G)))] := hD
        refine lv_aload_n hx hb dX3_read_58 rfl (lv_at hl 1 rfl) ?_
        refine va_get (D := D) (ci := 4) (v := .int (zi_n 0)) (C := RX3) (T := TX3) (N := 5) hx hb hts in_X3_read_X3 hown hK hP 0 rfl rfl 3 (by decide) (hts (.fieldLink RX3 28 "ZHeads" "isRead" "Z") (by decide +kernel)) (fun _ h9 => h9) rfl dX3_read_59 ?_
        refine zr_if_ne (tgt := 80) hx hb dX3_read_62 (by decide) (by omega) (fun c => absurd c (by decide)) (fun c_154 => ?_)
        refine zr_bipush hx hb dX3_read_65 (by decide) ?_
        refine lv_aload_n hx hb dX3_read_67 rfl (lv_at hl 1 rfl) ?_
        refine va_get (D := D) (ci := 4) (v := .ref hh) (C := RX3) (T := TX3) (N := 5) hx hb hts in_X3_read_X3 hown hK hP 0 rfl rfl 2 (by decide) (hts (.fieldLink RX3 24 "ZHeads" "head" "LZHeads$Head;") (by decide +kernel)) (fun _ h9 => h9) rfl dX3_read_68 ?_
        refine lv_aload_n hx hb dX3_read_71 rfl (lv_at hl 1 rfl) ?_
        refine va_get (D := D) (ci := 4) (v := .int (zi_n 3)) (C := RX3) (T := TX3) (N := 5) hx hb hts in_X3_read_X3 hown hK hP 0 rfl rfl 4 (by decide) (hts (.fieldLink RX3 32 "ZHeads" "brokenRule" "I") (by decide +kernel)) (fun _ h9 => h9) rfl dX3_read_72 ?_
        refine zc_V (As := [.int (zi_n 3)]) (rest := [.int (zi_n (-20))]) ⟨hx, hb, hml, hown, hts⟩ (c_Hd_placeOf3 l D hh q a cA F n hF (by omega)) (cwV 1 hts gX3_read_X0_placeOf rfl rfl rfl (by decide +kernel) ⟨(Nat.le_of_ble_eq_true rfl), (Nat.le_of_ble_eq_true rfl)⟩) hP hK [3, 1, 4] [0] rfl rfl (ci := 2) rfl rfl rfl rfl hl.1 rfl (Nat.le_of_ble_eq_true rfl) dX3_read_75 ⟨Nat.zero_le _, Nat.zero_le _⟩ (fun r hr1 => ?_)
        obtain ⟨rfl, b_155⟩ := hr1
        refine zr_isub hx hb dX3_read_78 ?_
        have e_n_156_0 : zh_rdR 3 = 0 := by rfl
        have e_n_156_1 : zh_rdB 3 = 3 := by rfl
        have e_n_156_2 : zh_rdK n k 3 = k := by rfl
        have e_n_156_3 : zh_rdG F G 3 = G := by rfl
        have hP9 : va_P D vwCl [(x, .inr (4, [.ref q, .ref q2, .ref hh, .int (zi_n (zh_rdR 3)), .int (zi_n (zh_rdB 3))])), (q, .inr (3, [.ref a, .int (zi_n n)])), (q2, .inr (3, [.ref a2, .int (zi_n (zh_rdK n k 3))])), (hh, .inr (2, [.ref q])), (a, .inl (cA, 600, .inl (zi_F F))), (a2, .inl (cB, 600, .inl (zi_F (zh_rdG F G 3))))] H := by rw [e_n_156_0, e_n_156_1, e_n_156_2, e_n_156_3]; exact hP
        have hD9 : va_D A [(x, .inr (4, [.ref q, .ref q2, .ref hh, .int (zi_n (zh_rdR 3)), .int (zi_n (zh_rdB 3))])), (q, .inr (3, [.ref a, .int (zi_n n)])), (q2, .inr (3, [.ref a2, .int (zi_n (zh_rdK n k 3))])), (hh, .inr (2, [.ref q])), (a, .inl (cA, 600, .inl (zi_F F))), (a2, .inl (cB, 600, .inl (zi_F (zh_rdG F G 3))))] := by rw [e_n_156_0, e_n_156_1, e_n_156_2, e_n_156_3]; exact hD
        exact W.iret (v := zi_n ((-20) - n)) hx hb hr (fun t ht hW => ⟨⟨zi_n ((-20) - n), 3, rfl, ⟨zh_first_b 2 (by decide) (zh_all_s (zh_all_s zh_all_0 c_3) c_7) c_11, rfl⟩, by rw [ht]; exact hP9, va_K.moved hW.alike hK, hD9⟩, hS.F ht⟩) hS.2.2 dX3_read_79
    · unfold zh_ok2 at c_7
      refine zr_if_ne (tgt := 36) hx hb dX3_read_28 (by decide) (by omega) (fun c => absurd c (by decide)) (fun c_157 => ?_)
      refine lv_aload_n hx hb dX3_read_31 rfl (lv_at hl 1 rfl) ?_
      refine lv_iload_n hx hb dX3_read_32 rfl (lv_at hl 0 rfl) ?_
      refine va_put (D := D) (ci := 4) (v := .int (zi_n 2)) (ty := .int) (C := RX3) (T := TX3) (N := 5) hx hb hts in_X3_read_X3 tyX3 tyX3_ok nmX3 hown hK hP hD hS 0 rfl rfl 4 (by decide) (hts (.fieldLink RX3 32 "ZHeads" "brokenRule" "I") (by decide +kernel)) (fun _ h9 => h9) rfl (by decide +kernel) rfl rfl (Nat.le_of_ble_eq_true rfl) dX3_read_33 (fun H locs hP hD hS => ?_)
      have hP : va_P D vwCl [(x, .inr (4, [.ref q, .ref q2, .ref hh, .int (zi_n rd), .int (zi_n 2)])), (q, .inr (3, [.ref a, .int (zi_n n)])), (q2, .inr (3, [.ref a2, .int (zi_n k)])), (hh, .inr (2, [.ref q])), (a, .inl (cA, 600, .inl (zi_F F))), (a2, .inl (cB, 600, .inl (zi_F G)))] H := hP
      have hD : va_D A [(x, .inr (4, [.ref q, .ref q2, .ref hh, .int (zi_n rd), .int (zi_n 2)])), (q, .inr (3, [.ref a, .int (zi_n n)])), (q2, .inr (3, [.ref a2, .int (zi_n k)])), (hh, .inr (2, [.ref q])), (a, .inl (cA, 600, .inl (zi_F F))), (a2, .inl (cB, 600, .inl (zi_F G)))] := hD
      refine zr_iinc (lv' := [(1, .int (zi_n 3)), (0, .ref x)]) hx hb dX3_read_36 hl (k := 0) rfl (by decide) rfl (fun ls hl => ?_)
      refine lv_goto (tgt := 7) hx hb dX3_read_39 (by decide) ?_
      refine lv_iload_n hx hb dX3_read_7 rfl (lv_at hl 0 rfl) ?_
      refine zr_bipush hx hb dX3_read_8 (by decide) ?_
      refine zr_icmp_gt (tgt := 42) hx hb dX3_read_10 (by decide) (by omega) (by omega) (fun c => absurd c (by decide)) (fun c_158 => ?_)
      refine lv_aload_n hx hb dX3_read_13 rfl (lv_at hl 1 rfl) ?_
      refine va_get (D := D) (ci := 4) (v := .int (zi_n 2)) (C := RX3) (T := TX3) (N := 5) hx hb hts in_X3_read_X3 hown hK hP 0 rfl rfl 4 (by decide) (hts (.fieldLink RX3 32 "ZHeads" "brokenRule" "I") (by decide +kernel)) (fun _ h9 => h9) rfl dX3_read_14 ?_
      refine zr_if_ne (tgt := 42) hx hb dX3_read_17 (by decide) (by omega) (fun c_159 => ?_) (fun c => absurd c (by decide))
      refine lv_aload_n hx hb dX3_read_42 rfl (lv_at hl 1 rfl) ?_
      refine lv_aload_n hx hb dX3_read_43 rfl (lv_at hl 1 rfl) ?_
      refine va_get (D := D) (ci := 4) (v := .int (zi_n 2)) (C := RX3) (T := TX3) (N := 5) hx hb hts in_X3_read_X3 hown hK hP 0 rfl rfl 4 (by decide) (hts (.fieldLink RX3 32 "ZHeads" "brokenRule" "I") (by decide +kernel)) (fun _ h9 => h9) rfl dX3_read_44 ?_
      refine zr_if_ne (tgt := 54) hx hb dX3_read_47 (by decide) (by omega) (fun c_160 => ?_) (fun c => absurd c (by decide))
      refine zr_iconst hx hb dX3_read_54 ?_
      refine va_put (D := D) (ci := 4) (v := .int (zi_n 0)) (ty := .boolean) (C := RX3) (T := TX3) (N := 5) hx hb hts in_X3_read_X3 tyX3 tyX3_ok nmX3 hown hK hP hD hS 0 rfl rfl 3 (by decide) (hts (.fieldLink RX3 28 "ZHeads" "isRead" "Z") (by decide +kernel)) (fun _ h9 => h9) rfl (by decide +kernel) (by decide) rfl (Nat.le_of_ble_eq_true rfl) dX3_read_55 (fun H locs hP hD hS => ?_)
      have hP : va_P D vwCl [(x, .inr (4, [.ref q, .ref q2, .ref hh, .int (zi_n 0), .int (zi_n 2)])), (q, .inr (3, [.ref a, .int (zi_n n)])), (q2, .inr (3, [.ref a2, .int (zi_n k)])), (hh, .inr (2, [.ref q])), (a, .inl (cA, 600, .inl (zi_F F))), (a2, .inl (cB, 600, .inl (zi_F G)))] H := hP
      have hD : va_D A [(x, .inr (4, [.ref q, .ref q2, .ref hh, .int (zi_n 0), .int (zi_n 2)])), (q, .inr (3, [.ref a, .int (zi_n n)])), (q2, .inr (3, [.ref a2, .int (zi_n k)])), (hh, .inr (2, [.ref q])), (a, .inl (cA, 600, .inl (zi_F F))), (a2, .inl (cB, 600, .inl (zi_F G)))] := hD
      refine lv_aload_n hx hb dX3_read_58 rfl (lv_at hl 1 rfl) ?_
      refine va_get (D := D) (ci := 4) (v := .int (zi_n 0)) (C := RX3) (T := TX3) (N := 5) hx hb hts in_X3_read_X3 hown hK hP 0 rfl rfl 3 (by decide) (hts (.fieldLink RX3 28 "ZHeads" "isRead" "Z") (by decide +kernel)) (fun _ h9 => h9) rfl dX3_read_59 ?_
      refine zr_if_ne (tgt := 80) hx hb dX3_read_62 (by decide) (by omega) (fun c => absurd c (by decide)) (fun c_161 => ?_)
      refine zr_bipush hx hb dX3_read_65 (by decide) ?_
      refine lv_aload_n hx hb dX3_read_67 rfl (lv_at hl 1 rfl) ?_
      refine va_get (D := D) (ci := 4) (v := .ref hh) (C := RX3) (T := TX3) (N := 5) hx hb hts in_X3_read_X3 hown hK hP 0 rfl rfl 2 (by decide) (hts (.fieldLink RX3 24 "ZHeads" "head" "LZHeads$Head;") (by decide +kernel)) (fun _ h9 => h9) rfl dX3_read_68 ?_
      refine lv_aload_n hx hb dX3_read_71 rfl (lv_at hl 1 rfl) ?_
      refine va_get (D := D) (ci := 4) (v := .int (zi_n 2)) (C := RX3) (T := TX3) (N := 5) hx hb hts in_X3_read_X3 hown hK hP 0 rfl rfl 4 (by decide) (hts (.fieldLink RX3 32 "ZHeads" "brokenRule" "I") (by decide +kernel)) (fun _ h9 => h9) rfl dX3_read_72 ?_
      refine zc_V (As := [.int (zi_n 2)]) (rest := [.int (zi_n (-20))]) ⟨hx, hb, hml, hown, hts⟩ (c_Hd_placeOf2 l D hh q a cA F n hF (by omega)) (cwV 1 hts gX3_read_X0_placeOf rfl rfl rfl (by decide +kernel) ⟨(Nat.le_of_ble_eq_true rfl), (Nat.le_of_ble_eq_true rfl)⟩) hP hK [3, 1, 4] [0] rfl rfl (ci := 2) rfl rfl rfl rfl hl.1 rfl (Nat.le_of_ble_eq_true rfl) dX3_read_75 ⟨Nat.zero_le _, Nat.zero_le _⟩ (fun r hr1 => ?_)
      obtain ⟨rfl, b_162⟩ := hr1
      refine zr_isub hx hb dX3_read_78 ?_
      have e_n_163_0 : zh_rdR 2 = 0 := by rfl
      have e_n_163_1 : zh_rdB 2 = 2 := by rfl
      have e_n_163_2 : zh_rdK n k 2 = k := by rfl
      have e_n_163_3 : zh_rdG F G 2 = G := by rfl
      have hP9 : va_P D vwCl [(x, .inr (4, [.ref q, .ref q2, .ref hh, .int (zi_n (zh_rdR 2)), .int (zi_n (zh_rdB 2))])), (q, .inr (3, [.ref a, .int (zi_n n)])), (q2, .inr (3, [.ref a2, .int (zi_n (zh_rdK n k 2))])), (hh, .inr (2, [.ref q])), (a, .inl (cA, 600, .inl (zi_F F))), (a2, .inl (cB, 600, .inl (zi_F (zh_rdG F G 2))))] H := by rw [e_n_163_0, e_n_163_1, e_n_163_2, e_n_163_3]; exact hP
      have hD9 : va_D A [(x, .inr (4, [.ref q, .ref q2, .ref hh, .int (zi_n (zh_rdR 2)), .int (zi_n (zh_rdB 2))])), (q, .inr (3, [.ref a, .int (zi_n n)])), (q2, .inr (3, [.ref a2, .int (zi_n (zh_rdK n k 2))])), (hh, .inr (2, [.ref q])), (a, .inl (cA, 600, .inl (zi_F F))), (a2, .inl (cB, 600, .inl (zi_F (zh_rdG F G 2))))] := by rw [e_n_163_0, e_n_163_1, e_n_163_2, e_n_163_3]; exact hD
      exact W.iret (v := zi_n ((-20) - 0)) hx hb hr (fun t ht hW => ⟨⟨zi_n ((-20) - 0), 2, rfl, ⟨zh_first_b 1 (by decide) (zh_all_s zh_all_0 c_3) c_7, rfl⟩, by rw [ht]; exact hP9, va_K.moved hW.alike hK, hD9⟩, hS.F ht⟩) hS.2.2 dX3_read_79
  · unfold zh_ok1 at c_3
    refine zr_if_ne (tgt := 36) hx hb dX3_read_28 (by decide) (by omega) (fun c => absurd c (by decide)) (fun c_164 => ?_)
    refine lv_aload_n hx hb dX3_read_31 rfl (lv_at hl 1 rfl) ?_
    refine lv_iload_n hx hb dX3_read_32 rfl (lv_at hl 0 rfl) ?_
    refine va_put (D := D) (ci := 4) (v := .int (zi_n 1)) (ty := .int) (C := RX3) (T := TX3) (N := 5) hx hb hts in_X3_read_X3 tyX3 tyX3_ok nmX3 hown hK hP hD hS 0 rfl rfl 4 (by decide) (hts (.fieldLink RX3 32 "ZHeads" "brokenRule" "I") (by decide +kernel)) (fun _ h9 => h9) rfl (by decide +kernel) rfl rfl (Nat.le_of_ble_eq_true rfl) dX3_read_33 (fun H locs hP hD hS => ?_)
    have hP : va_P D vwCl [(x, .inr (4, [.ref q, .ref q2, .ref hh, .int (zi_n rd), .int (zi_n 1)])), (q, .inr (3, [.ref a, .int (zi_n n)])), (q2, .inr (3, [.ref a2, .int (zi_n k)])), (hh, .inr (2, [.ref q])), (a, .inl (cA, 600, .inl (zi_F F))), (a2, .inl (cB, 600, .inl (zi_F G)))] H := hP
    have hD : va_D A [(x, .inr (4, [.ref q, .ref q2, .ref hh, .int (zi_n rd), .int (zi_n 1)])), (q, .inr (3, [.ref a, .int (zi_n n)])), (q2, .inr (3, [.ref a2, .int (zi_n k)])), (hh, .inr (2, [.ref q])), (a, .inl (cA, 600, .inl (zi_F F))), (a2, .inl (cB, 600, .inl (zi_F G)))] := hD
    refine zr_iinc (lv' := [(1, .int (zi_n 2)), (0, .ref x)]) hx hb dX3_read_36 hl (k := 0) rfl (by decide) rfl (fun ls hl => ?_)
    refine lv_goto (tgt := 7) hx hb dX3_read_39 (by decide) ?_
    refine lv_iload_n hx hb dX3_read_7 rfl (lv_at hl 0 rfl) ?_
    refine zr_bipush hx hb dX3_read_8 (by decide) ?_
    refine zr_icmp_gt (tgt := 42) hx hb dX3_read_10 (by decide) (by omega) (by omega) (fun c => absurd c (by decide)) (fun c_165 => ?_)
    refine lv_aload_n hx hb dX3_read_13 rfl (lv_at hl 1 rfl) ?_
    refine va_get (D := D) (ci := 4) (v := .int (zi_n 1)) (C := RX3) (T := TX3) (N := 5) hx hb hts in_X3_read_X3 hown hK hP 0 rfl rfl 4 (by decide) (hts (.fieldLink RX3 32 "ZHeads" "brokenRule" "I") (by decide +kernel)) (fun _ h9 => h9) rfl dX3_read_14 ?_
    refine zr_if_ne (tgt := 42) hx hb dX3_read_17 (by decide) (by omega) (fun c_166 => ?_) (fun c => absurd c (by decide))
    refine lv_aload_n hx hb dX3_read_42 rfl (lv_at hl 1 rfl) ?_
    refine lv_aload_n hx hb dX3_read_43 rfl (lv_at hl 1 rfl) ?_
    refine va_get (D := D) (ci := 4) (v := .int (zi_n 1)) (C := RX3) (T := TX3) (N := 5) hx hb hts in_X3_read_X3 hown hK hP 0 rfl rfl 4 (by decide) (hts (.fieldLink RX3 32 "ZHeads" "brokenRule" "I") (by decide +kernel)) (fun _ h9 => h9) rfl dX3_read_44 ?_
    refine zr_if_ne (tgt := 54) hx hb dX3_read_47 (by decide) (by omega) (fun c_167 => ?_) (fun c => absurd c (by decide))
    refine zr_iconst hx hb dX3_read_54 ?_
    refine va_put (D := D) (ci := 4) (v := .int (zi_n 0)) (ty := .boolean) (C := RX3) (T := TX3) (N := 5) hx hb hts in_X3_read_X3 tyX3 tyX3_ok nmX3 hown hK hP hD hS 0 rfl rfl 3 (by decide) (hts (.fieldLink RX3 28 "ZHeads" "isRead" "Z") (by decide +kernel)) (fun _ h9 => h9) rfl (by decide +kernel) (by decide) rfl (Nat.le_of_ble_eq_true rfl) dX3_read_55 (fun H locs hP hD hS => ?_)
    have hP : va_P D vwCl [(x, .inr (4, [.ref q, .ref q2, .ref hh, .int (zi_n 0), .int (zi_n 1)])), (q, .inr (3, [.ref a, .int (zi_n n)])), (q2, .inr (3, [.ref a2, .int (zi_n k)])), (hh, .inr (2, [.ref q])), (a, .inl (cA, 600, .inl (zi_F F))), (a2, .inl (cB, 600, .inl (zi_F G)))] H := hP
    have hD : va_D A [(x, .inr (4, [.ref q, .ref q2, .ref hh, .int (zi_n 0), .int (zi_n 1)])), (q, .inr (3, [.ref a, .int (zi_n n)])), (q2, .inr (3, [.ref a2, .int (zi_n k)])), (hh, .inr (2, [.ref q])), (a, .inl (cA, 600, .inl (zi_F F))), (a2, .inl (cB, 600, .inl (zi_F G)))] := hD
    refine lv_aload_n hx hb dX3_read_58 rfl (lv_at hl 1 rfl) ?_
    refine va_get (D := D) (ci := 4) (v := .int (zi_n 0)) (C := RX3) (T := TX3) (N := 5) hx hb hts in_X3_read_X3 hown hK hP 0 rfl rfl 3 (by decide) (hts (.fieldLink RX3 28 "ZHeads" "isRead" "Z") (by decide +kernel)) (fun _ h9 => h9) rfl dX3_read_59 ?_
    refine zr_if_ne (tgt := 80) hx hb dX3_read_62 (by decide) (by omega) (fun c => absurd c (by decide)) (fun c_168 => ?_)
    refine zr_bipush hx hb dX3_read_65 (by decide) ?_
    refine lv_aload_n hx hb dX3_read_67 rfl (lv_at hl 1 rfl) ?_
    refine va_get (D := D) (ci := 4) (v := .ref hh) (C := RX3) (T := TX3) (N := 5) hx hb hts in_X3_read_X3 hown hK hP 0 rfl rfl 2 (by decide) (hts (.fieldLink RX3 24 "ZHeads" "head" "LZHeads$Head;") (by decide +kernel)) (fun _ h9 => h9) rfl dX3_read_68 ?_
    refine lv_aload_n hx hb dX3_read_71 rfl (lv_at hl 1 rfl) ?_
    refine va_get (D := D) (ci := 4) (v := .int (zi_n 1)) (C := RX3) (T := TX3) (N := 5) hx hb hts in_X3_read_X3 hown hK hP 0 rfl rfl 4 (by decide) (hts (.fieldLink RX3 32 "ZHeads" "brokenRule" "I") (by decide +kernel)) (fun _ h9 => h9) rfl dX3_read_72 ?_
    refine zc_V (As := [.int (zi_n 1)]) (rest := [.int (zi_n (-20))]) ⟨hx, hb, hml, hown, hts⟩ (c_Hd_placeOf1 l D hh q a cA F n hF (by omega)) (cwV 1 hts gX3_read_X0_placeOf rfl rfl rfl (by decide +kernel) ⟨(Nat.le_of_ble_eq_true rfl), (Nat.le_of_ble_eq_true rfl)⟩) hP hK [3, 1, 4] [0] rfl rfl (ci := 2) rfl rfl rfl rfl hl.1 rfl (Nat.le_of_ble_eq_true rfl) dX3_read_75 ⟨Nat.zero_le _, Nat.zero_le _⟩ (fun r hr1 => ?_)
    obtain ⟨rfl, b_169⟩ := hr1
    refine zr_isub hx hb dX3_read_78 ?_
    have e_n_170_0 : zh_rdR 1 = 0 := by rfl
    have e_n_170_1 : zh_rdB 1 = 1 := by rfl
    have e_n_170_2 : zh_rdK n k 1 = k := by rfl
    have e_n_170_3 : zh_rdG F G 1 = G := by rfl
    have hP9 : va_P D vwCl [(x, .inr (4, [.ref q, .ref q2, .ref hh, .int (zi_n (zh_rdR 1)), .int (zi_n (zh_rdB 1))])), (q, .inr (3, [.ref a, .int (zi_n n)])), (q2, .inr (3, [.ref a2, .int (zi_n (zh_rdK n k 1))])), (hh, .inr (2, [.ref q])), (a, .inl (cA, 600, .inl (zi_F F))), (a2, .inl (cB, 600, .inl (zi_F (zh_rdG F G 1))))] H := by rw [e_n_170_0, e_n_170_1, e_n_170_2, e_n_170_3]; exact hP
    have hD9 : va_D A [(x, .inr (4, [.ref q, .ref q2, .ref hh, .int (zi_n (zh_rdR 1)), .int (zi_n (zh_rdB 1))])), (q, .inr (3, [.ref a, .int (zi_n n)])), (q2, .inr (3, [.ref a2, .int (zi_n (zh_rdK n k 1))])), (hh, .inr (2, [.ref q])), (a, .inl (cA, 600, .inl (zi_F F))), (a2, .inl (cB, 600, .inl (zi_F (zh_rdG F G 1))))] := by rw [e_n_170_0, e_n_170_1, e_n_170_2, e_n_170_3]; exact hD
    exact W.iret (v := zi_n ((-20) - 0)) hx hb hr (fun t ht hW => ⟨⟨zi_n ((-20) - 0), 1, rfl, ⟨zh_first_b 0 (by decide) zh_all_0 c_3, rfl⟩, by rw [ht]; exact hP9, va_K.moved hW.alike hK, hD9⟩, hS.F ht⟩) hS.2.2 dX3_read_79

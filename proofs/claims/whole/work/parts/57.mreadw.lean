theorem in_X4_read_X4 : ∀ w ∈ u_ws RX4 TX4 9, w ∈ wsX4_read := by decide +kernel
set_option maxHeartbeats 4000000 in
set_option maxRecDepth 100000 in
theorem c_M_read (l : Launch) (D : va_G) (x a a2 a3 : Nat) (cA cB cC : ClassId) (F P G : Nat → Int) (n rd br v ln ft : Int) (hF : zi_By F) (hn : 0 ≤ n ∧ n ≤ 600) (hP0 : zi_By P) (hG : zi_By G) (hrd : rd = 0 ∨ rd = 1) (hbr : 0 ≤ br ∧ br ≤ 15) (hv0 : 0 ≤ v ∧ v ≤ 255) (hln : 0 ≤ ln ∧ ln ≤ 524280) (hft : 0 ≤ ft ∧ ft ≤ 1) (sz : Nat) : Met l yX4_read wsX4_read ({ frames := 4, cells := 0, slots := 0, locals := 85 }) (va_Pc [.ref x] (zp_P D vwCl sz [(x, .inr (5, [.int (zi_n ft), .ref a, .int (zi_n n), .int (zi_n rd), .int (zi_n br), .ref a2, .ref a3, .int (zi_n v), .int (zi_n ln)])), (a, .inl (cA, 600, .inl (zi_F F))), (a2, .inl (cB, 600, .inl (zi_F P))), (a3, .inl (cC, 600, .inl (zi_F G)))] [(cA, .int), (cB, .int), (cC, .int)])) (va_Qi (fun (r : Int32) (u : Nat × Int × Int) => zh_first F n u.1 ∧ r = zi_n (zh_rdE F n u.1) ∧ (u.1 = 0 → u.2.1 = F 0 ∧ u.2.2 = zh_len F n) ∧ (0 ≤ u.2.1 ∧ u.2.1 ≤ 255) ∧ (0 ≤ u.2.2 ∧ u.2.2 ≤ 524280)) (fun (u : Nat × Int × Int) => zp_B D vwCl [(cA, .int), (cB, .int), (cC, .int)] (va_A [(x, .inr (5, [.int (zi_n ft), .ref a, .int (zi_n n), .int (zi_n rd), .int (zi_n br), .ref a2, .ref a3, .int (zi_n v), .int (zi_n ln)])), (a, .inl (cA, 600, .inl (zi_F F))), (a2, .inl (cB, 600, .inl (zi_F P))), (a3, .inl (cC, 600, .inl (zi_F G)))] sz) [(x, .inr (5, [.int (zi_n 0), .ref a, .int (zi_n n), .int (zi_n (zh_rdR u.1)), .int (zi_n (zh_rdB u.1)), .ref a2, .ref a3, .int (zi_n u.2.1), .int (zi_n u.2.2)])), (a, .inl (cA, 600, .inl (zi_F F))), (a2, .inl (cB, 600, .inl (zi_F (zh_rcJ F P n u.1)))), (a3, .inl (cC, 600, .inl (zi_F (zh_rcJ F G n u.1))))]) (va_A [(x, .inr (5, [.int (zi_n ft), .ref a, .int (zi_n n), .int (zi_n rd), .int (zi_n br), .ref a2, .ref a3, .int (zi_n v), .int (zi_n ln)])), (a, .inl (cA, 600, .inl (zi_F F))), (a2, .inl (cB, 600, .inl (zi_F P))), (a3, .inl (cC, 600, .inl (zi_F G)))] sz)) 0 0 (va_A [(x, .inr (5, [.int (zi_n ft), .ref a, .int (zi_n n), .int (zi_n rd), .int (zi_n br), .ref a2, .ref a3, .int (zi_n v), .int (zi_n ln)])), (a, .inl (cA, 600, .inl (zi_F F))), (a2, .inl (cB, 600, .inl (zi_F P))), (a3, .inl (cC, 600, .inl (zi_F G)))] sz) := by
  refine Met.ofW (cc := cX4_read) (maxL := 3) (ret := (some .int)) (by decide) rfl ?_
  intro p e s m args below meth c s₁ B hml hv
  obtain ⟨rfl, hsz, hP, hK, hD0⟩ := hv
  have hx := B.exec
  have hb := B.bytes
  have hr := B.returns
  have hts := atoms_spec (ws := wsX4_read) B.pre
  have hown : s.vm.findClass RX4 = some m.cls := findClass_of_methodNamed B.named
  have hlocks := B.notSynchronized
  subst hsz
  have hD := hD0.self (sz := s.heap.size)
  generalize hAe : va_A [(x, .inr (5, [.int (zi_n ft), .ref a, .int (zi_n n), .int (zi_n rd), .int (zi_n br), .ref a2, .ref a3, .int (zi_n v), .int (zi_n ln)])), (a, .inl (cA, 600, .inl (zi_F F))), (a2, .inl (cB, 600, .inl (zi_F P))), (a3, .inl (cC, 600, .inl (zi_F G)))] s.heap.size = A at hD ⊢
  have hA : ∀ q : Nat, s.heap.size ≤ q → A q := fun q h => by rw [← hAe]; exact Or.inr h
  have hS : va_S A s.heap s.heap [] := va_S.rf
  have hP : va_P D vwCl [(x, .inr (5, [.int (zi_n ft), .ref a, .int (zi_n n), .int (zi_n rd), .int (zi_n br), .ref a2, .ref a3, .int (zi_n v), .int (zi_n ln)])), (a, .inl (cA, 600, .inl (zi_F F))), (a2, .inl (cB, 600, .inl (zi_F P))), (a3, .inl (cC, 600, .inl (zi_F G)))] s.heap := hP
  have hl := lv_entry ([.ref x]) (n := 3) (Nat.le_of_ble_eq_true rfl)
  rw [lg_entry_eq]
  generalize (lg_sl ([.ref x]) ++ List.replicate (3 - (lg_sl ([.ref x])).length) Slot.unset).toArray = ls at hl ⊢
  have hl : lv_has ls 3 [(0, .ref x)] := hl
  refine lv_aload_n hx hb dX4_read_0 rfl (lv_at hl 0 rfl) ?_
  refine zr_iconst hx hb dX4_read_1 ?_
  refine va_put (D := D) (ci := 5) (v := .int (zi_n 0)) (ty := .int) (C := RX4) (T := TX4) (N := 9) hx hb hts in_X4_read_X4 tyX4 tyX4_ok nmX4 hown hK hP hD hS 0 rfl rfl 0 (by decide) (hts (.fieldLink RX4 19 "ZHeadsModel" "fault" "I") (by decide +kernel)) (fun _ h9 => h9) rfl (by decide +kernel) rfl rfl (Nat.le_of_ble_eq_true rfl) dX4_read_2 (fun H locs hP hD hS => ?_)
  have hP : va_P D vwCl [(x, .inr (5, [.int (zi_n 0), .ref a, .int (zi_n n), .int (zi_n rd), .int (zi_n br), .ref a2, .ref a3, .int (zi_n v), .int (zi_n ln)])), (a, .inl (cA, 600, .inl (zi_F F))), (a2, .inl (cB, 600, .inl (zi_F P))), (a3, .inl (cC, 600, .inl (zi_F G)))] H := hP
  have hD : va_D A [(x, .inr (5, [.int (zi_n 0), .ref a, .int (zi_n n), .int (zi_n rd), .int (zi_n br), .ref a2, .ref a3, .int (zi_n v), .int (zi_n ln)])), (a, .inl (cA, 600, .inl (zi_F F))), (a2, .inl (cB, 600, .inl (zi_F P))), (a3, .inl (cC, 600, .inl (zi_F G)))] := hD
  refine lv_aload_n hx hb dX4_read_5 rfl (lv_at hl 0 rfl) ?_
  refine zc_Vi (As := []) (rest := []) (wr := []) (wf := fun (u_1 : Nat × Int × Int) => [(x, .inr (5, [.int (zi_n 0), .ref a, .int (zi_n n), .int (zi_n rd), .int (zi_n (zh_rdB u_1.1)), .ref a2, .ref a3, .int (zi_n u_1.2.1), .int (zi_n u_1.2.2)])), (a, .inl (cA, 600, .inl (zi_F F))), (a2, .inl (cB, 600, .inl (zi_F P))), (a3, .inl (cC, 600, .inl (zi_F G)))]) ⟨hx, hb, hml, hown, hts⟩ (c_M_judge l D x a a2 a3 cA cB cC F P G n rd br v ln 0 hF (by omega) hP0 hG (by omega) (by omega) (by omega) (by omega) (by omega) _) (cwV 0 hts gX4_read_X4_judge rfl rfl rfl (by decide +kernel) ⟨(Nat.le_of_ble_eq_true rfl), (Nat.le_of_ble_eq_true rfl)⟩) hP hD hK hS hA [0, 1, 2, 3] [] [0, 1, 2] [0, 1, 2, 3] rfl rfl (by decide) rfl (by decide) (by decide) rfl (fun _ => rfl) (fun _ => rfl) (by decide) (ci := 5) rfl rfl rfl rfl hl.1 rfl (Nat.le_of_ble_eq_true rfl) dX4_read_6 ⟨Nat.zero_le _, Nat.zero_le _⟩ (fun r u_1 hr1 H locs hP hD hS => ?_)
  have hP : va_P D vwCl [(x, .inr (5, [.int (zi_n 0), .ref a, .int (zi_n n), .int (zi_n rd), .int (zi_n (zh_rdB u_1.1)), .ref a2, .ref a3, .int (zi_n u_1.2.1), .int (zi_n u_1.2.2)])), (a, .inl (cA, 600, .inl (zi_F F))), (a2, .inl (cB, 600, .inl (zi_F P))), (a3, .inl (cC, 600, .inl (zi_F G)))] H := hP
  have hD : va_D A [(x, .inr (5, [.int (zi_n 0), .ref a, .int (zi_n n), .int (zi_n rd), .int (zi_n (zh_rdB u_1.1)), .ref a2, .ref a3, .int (zi_n u_1.2.1), .int (zi_n u_1.2.2)])), (a, .inl (cA, 600, .inl (zi_F F))), (a2, .inl (cB, 600, .inl (zi_F P))), (a3, .inl (cC, 600, .inl (zi_F G)))] := hD
  obtain ⟨hf, rfl, hu0, hvb, hlb⟩ := hr1
  rcases Nat.eq_zero_or_pos u_1.1 with hz | hz
  · have hall := zh_first_p hf hz
    have h2v := zh_all_2 hall
    have her : zh_rdE F n u_1.1 = F 0 := by rw [hz]; rfl
    have hu1 := hu0 hz
    have hj15 := zh_first_15 hf
    have hbr1 : 0 ≤ zh_rdB u_1.1 ∧ zh_rdB u_1.1 ≤ 15 := by unfold zh_rdB; omega
    refine lv_istore_n (lv' := [(1, .int (zi_n (zh_rdE F n u_1.1))), (0, .ref x)]) hx hb dX4_read_9 rfl hl (by decide) rfl (fun ls hl => ?_)
    refine lv_aload_n hx hb dX4_read_10 rfl (lv_at hl 1 rfl) ?_
    refine lv_iload_n hx hb dX4_read_11 rfl (lv_at hl 0 rfl) ?_
    refine zr_if_le (tgt := 19) hx hb dX4_read_12 (by decide) (by omega) (fun c_2 => ?_) (fun c_2 => ?_)
    · refine zr_iconst hx hb dX4_read_19 ?_
      refine va_put (D := D) (ci := 5) (v := .int (zi_n 0)) (ty := .boolean) (C := RX4) (T := TX4) (N := 9) hx hb hts in_X4_read_X4 tyX4 tyX4_ok nmX4 hown hK hP hD hS 0 rfl rfl 3 (by decide) (hts (.fieldLink RX4 36 "ZHeadsModel" "isRead" "Z") (by decide +kernel)) (fun _ h9 => h9) rfl (by decide +kernel) (by decide) rfl (Nat.le_of_ble_eq_true rfl) dX4_read_20 (fun H locs hP hD hS => ?_)
      have hP : va_P D vwCl [(x, .inr (5, [.int (zi_n 0), .ref a, .int (zi_n n), .int (zi_n 0), .int (zi_n (zh_rdB u_1.1)), .ref a2, .ref a3, .int (zi_n u_1.2.1), .int (zi_n u_1.2.2)])), (a, .inl (cA, 600, .inl (zi_F F))), (a2, .inl (cB, 600, .inl (zi_F P))), (a3, .inl (cC, 600, .inl (zi_F G)))] H := hP
      have hD : va_D A [(x, .inr (5, [.int (zi_n 0), .ref a, .int (zi_n n), .int (zi_n 0), .int (zi_n (zh_rdB u_1.1)), .ref a2, .ref a3, .int (zi_n u_1.2.1), .int (zi_n u_1.2.2)])), (a, .inl (cA, 600, .inl (zi_F F))), (a2, .inl (cB, 600, .inl (zi_F P))), (a3, .inl (cC, 600, .inl (zi_F G)))] := hD
      refine zr_iconst hx hb dX4_read_23 ?_
      refine lv_istore_n (lv' := [(2, .int (zi_n 0)), (1, .int (zi_n (zh_rdE F n u_1.1))), (0, .ref x)]) hx hb dX4_read_24 rfl hl (by decide) rfl (fun ls hl => ?_)
      refine lv_iload_n hx hb dX4_read_25 rfl (lv_at hl 0 rfl) ?_
      refine lv_aload_n hx hb dX4_read_26 rfl (lv_at hl 2 rfl) ?_
      refine va_get (D := D) (ci := 5) (v := .int (zi_n n)) (C := RX4) (T := TX4) (N := 9) hx hb hts in_X4_read_X4 hown hK hP 0 rfl rfl 2 (by decide) (hts (.fieldLink RX4 31 "ZHeadsModel" "size" "I") (by decide +kernel)) (fun _ h9 => h9) rfl dX4_read_27 ?_
      refine zr_icmp_ge (tgt := 70) hx hb dX4_read_30 (by decide) (by omega) (by omega) (fun c_3 => ?_) (fun c_3 => ?_)
      · refine lv_iload_n hx hb dX4_read_70 rfl (lv_at hl 1 rfl) ?_
        have e_n_4_0 : zh_rdR u_1.1 = 0 := by unfold zh_rdR; first | (exfalso; omega; done) | exact if_pos hz | exact if_neg (by omega)
        have e_n_4_1 : zh_rcJ F P n u_1.1 = P := by unfold zh_rcJ; first | (exfalso; omega; done) | (rw [if_pos hz, show n = i by omega]; done) | exact if_neg (by omega)
        have e_n_4_2 : zh_rcJ F G n u_1.1 = G := by unfold zh_rcJ; first | (exfalso; omega; done) | (rw [if_pos hz, show n = i by omega]; done) | exact if_neg (by omega)
        have hP9 : va_P D vwCl [(x, .inr (5, [.int (zi_n 0), .ref a, .int (zi_n n), .int (zi_n (zh_rdR u_1.1)), .int (zi_n (zh_rdB u_1.1)), .ref a2, .ref a3, .int (zi_n u_1.2.1), .int (zi_n u_1.2.2)])), (a, .inl (cA, 600, .inl (zi_F F))), (a2, .inl (cB, 600, .inl (zi_F (zh_rcJ F P n u_1.1)))), (a3, .inl (cC, 600, .inl (zi_F (zh_rcJ F G n u_1.1))))] H := by rw [e_n_4_0, e_n_4_1, e_n_4_2]; exact hP
        have hD9 : va_D A [(x, .inr (5, [.int (zi_n 0), .ref a, .int (zi_n n), .int (zi_n (zh_rdR u_1.1)), .int (zi_n (zh_rdB u_1.1)), .ref a2, .ref a3, .int (zi_n u_1.2.1), .int (zi_n u_1.2.2)])), (a, .inl (cA, 600, .inl (zi_F F))), (a2, .inl (cB, 600, .inl (zi_F (zh_rcJ F P n u_1.1)))), (a3, .inl (cC, 600, .inl (zi_F (zh_rcJ F G n u_1.1))))] := by rw [e_n_4_0, e_n_4_1, e_n_4_2]; exact hD
        exact W.iret (v := zi_n (zh_rdE F n u_1.1)) hx hb hr (fun t ht hW => ⟨⟨zi_n (zh_rdE F n u_1.1), u_1, rfl, ⟨hf, rfl, hu0, hvb, hlb⟩, by rw [ht]; exact hP9, va_K.moved hW.alike hK, hD9⟩, hS.F ht⟩) hS.2.2 dX4_read_71
      · refine lv_aload_n hx hb dX4_read_33 rfl (lv_at hl 2 rfl) ?_
        refine va_get (D := D) (ci := 5) (v := .int (zi_n 0)) (C := RX4) (T := TX4) (N := 9) hx hb hts in_X4_read_X4 hown hK hP 0 rfl rfl 3 (by decide) (hts (.fieldLink RX4 36 "ZHeadsModel" "isRead" "Z") (by decide +kernel)) (fun _ h9 => h9) rfl dX4_read_34 ?_
        refine zr_if_eq (tgt := 70) hx hb dX4_read_37 (by decide) (by omega) (fun c_5 => ?_) (fun c => absurd c (by decide))
        refine lv_iload_n hx hb dX4_read_70 rfl (lv_at hl 1 rfl) ?_
        have e_n_6_0 : zh_rdR u_1.1 = 0 := by unfold zh_rdR; first | (exfalso; omega; done) | exact if_pos hz | exact if_neg (by omega)
        have e_n_6_1 : zh_rcJ F P n u_1.1 = P := by unfold zh_rcJ; first | (exfalso; omega; done) | (rw [if_pos hz, show n = i by omega]; done) | exact if_neg (by omega)
        have e_n_6_2 : zh_rcJ F G n u_1.1 = G := by unfold zh_rcJ; first | (exfalso; omega; done) | (rw [if_pos hz, show n = i by omega]; done) | exact if_neg (by omega)
        have hP9 : va_P D vwCl [(x, .inr (5, [.int (zi_n 0), .ref a, .int (zi_n n), .int (zi_n (zh_rdR u_1.1)), .int (zi_n (zh_rdB u_1.1)), .ref a2, .ref a3, .int (zi_n u_1.2.1), .int (zi_n u_1.2.2)])), (a, .inl (cA, 600, .inl (zi_F F))), (a2, .inl (cB, 600, .inl (zi_F (zh_rcJ F P n u_1.1)))), (a3, .inl (cC, 600, .inl (zi_F (zh_rcJ F G n u_1.1))))] H := by rw [e_n_6_0, e_n_6_1, e_n_6_2]; exact hP
        have hD9 : va_D A [(x, .inr (5, [.int (zi_n 0), .ref a, .int (zi_n n), .int (zi_n (zh_rdR u_1.1)), .int (zi_n (zh_rdB u_1.1)), .ref a2, .ref a3, .int (zi_n u_1.2.1), .int (zi_n u_1.2.2)])), (a, .inl (cA, 600, .inl (zi_F F))), (a2, .inl (cB, 600, .inl (zi_F (zh_rcJ F P n u_1.1)))), (a3, .inl (cC, 600, .inl (zi_F (zh_rcJ F G n u_1.1))))] := by rw [e_n_6_0, e_n_6_1, e_n_6_2]; exact hD
        exact W.iret (v := zi_n (zh_rdE F n u_1.1)) hx hb hr (fun t ht hW => ⟨⟨zi_n (zh_rdE F n u_1.1), u_1, rfl, ⟨hf, rfl, hu0, hvb, hlb⟩, by rw [ht]; exact hP9, va_K.moved hW.alike hK, hD9⟩, hS.F ht⟩) hS.2.2 dX4_read_71
    · refine zr_iconst hx hb dX4_read_15 ?_
      refine lv_goto (tgt := 20) hx hb dX4_read_16 (by decide) ?_
      refine va_put (D := D) (ci := 5) (v := .int (zi_n 1)) (ty := .boolean) (C := RX4) (T := TX4) (N := 9) hx hb hts in_X4_read_X4 tyX4 tyX4_ok nmX4 hown hK hP hD hS 0 rfl rfl 3 (by decide) (hts (.fieldLink RX4 36 "ZHeadsModel" "isRead" "Z") (by decide +kernel)) (fun _ h9 => h9) rfl (by decide +kernel) (by decide) rfl (Nat.le_of_ble_eq_true rfl) dX4_read_20 (fun H locs hP hD hS => ?_)
      have hP : va_P D vwCl [(x, .inr (5, [.int (zi_n 0), .ref a, .int (zi_n n), .int (zi_n 1), .int (zi_n (zh_rdB u_1.1)), .ref a2, .ref a3, .int (zi_n u_1.2.1), .int (zi_n u_1.2.2)])), (a, .inl (cA, 600, .inl (zi_F F))), (a2, .inl (cB, 600, .inl (zi_F P))), (a3, .inl (cC, 600, .inl (zi_F G)))] H := hP
      have hD : va_D A [(x, .inr (5, [.int (zi_n 0), .ref a, .int (zi_n n), .int (zi_n 1), .int (zi_n (zh_rdB u_1.1)), .ref a2, .ref a3, .int (zi_n u_1.2.1), .int (zi_n u_1.2.2)])), (a, .inl (cA, 600, .inl (zi_F F))), (a2, .inl (cB, 600, .inl (zi_F P))), (a3, .inl (cC, 600, .inl (zi_F G)))] := hD
      refine zr_iconst hx hb dX4_read_23 ?_
      refine lv_istore_n (lv' := [(2, .int (zi_n 0)), (1, .int (zi_n (zh_rdE F n u_1.1))), (0, .ref x)]) hx hb dX4_read_24 rfl hl (by decide) rfl (fun ls hl => ?_)
      have key : ∀ (N : Nat) (i : Int), (0 ≤ i) → (i ≤ n) → 600 - i < N → ∀ (H : Heap) (locs : List Loc), va_P D vwCl [(x, .inr (5, [.int (zi_n 0), .ref a, .int (zi_n n), .int (zi_n 1), .int (zi_n (zh_rdB u_1.1)), .ref a2, .ref a3, .int (zi_n u_1.2.1), .int (zi_n u_1.2.2)])), (a, .inl (cA, 600, .inl (zi_F F))), (a2, .inl (cB, 600, .inl (zi_F (zh_rc F P i)))), (a3, .inl (cC, 600, .inl (zi_F (zh_rc F G i))))] H → va_D A [(x, .inr (5, [.int (zi_n 0), .ref a, .int (zi_n n), .int (zi_n 1), .int (zi_n (zh_rdB u_1.1)), .ref a2, .ref a3, .int (zi_n u_1.2.1), .int (zi_n u_1.2.2)])), (a, .inl (cA, 600, .inl (zi_F F))), (a2, .inl (cB, 600, .inl (zi_F (zh_rc F P i)))), (a3, .inl (cC, 600, .inl (zi_F (zh_rc F G i))))] → va_S A s.heap H locs → ∀ ls : Array Slot, lv_has ls 3 [(2, .int (zi_n i)), (1, .int (zi_n (zh_rdE F n u_1.1))), (0, .ref x)] → W p l e (headSpec wsX4_read ({ frames := 4, cells := 0, slots := 0, locals := 85 })).room s m ([.ref x] : List Value).toArray below meth c H locs 0 0 (MQ below (va_Qi (fun (r : Int32) (u : Nat × Int × Int) => zh_first F n u.1 ∧ r = zi_n (zh_rdE F n u.1) ∧ (u.1 = 0 → u.2.1 = F 0 ∧ u.2.2 = zh_len F n) ∧ (0 ≤ u.2.1 ∧ u.2.1 ≤ 255) ∧ (0 ≤ u.2.2 ∧ u.2.2 ≤ 524280)) (fun (u : Nat × Int × Int) => zp_B D vwCl [(cA, .int), (cB, .int), (cC, .int)] A [(x, .inr (5, [.int (zi_n 0), .ref a, .int (zi_n n), .int (zi_n (zh_rdR u.1)), .int (zi_n (zh_rdB u.1)), .ref a2, .ref a3, .int (zi_n u.2.1), .int (zi_n u.2.2)])), (a, .inl (cA, 600, .inl (zi_F F))), (a2, .inl (cB, 600, .inl (zi_F (zh_rcJ F P n u.1)))), (a3, .inl (cC, 600, .inl (zi_F (zh_rcJ F G n u.1))))]) A) ([.ref x] : List Value).toArray s 0 0 A) (F0 m 25 ls []) := by
        intro N
        induction N with
        | zero => intro i  h1 h2 hm H locs hP hD hS ls hl; exfalso; omega
        | succ N ih =>
          intro i  h1 h2 hm H locs hP hD hS ls hl
          have hPi : zi_By (zh_rc F P i) := zh_rc_By hF hP0 i
          have hGi : zi_By (zh_rc F G i) := zh_rc_By hF hG i
          refine lv_iload_n hx hb dX4_read_25 rfl (lv_at hl 0 rfl) ?_
          refine lv_aload_n hx hb dX4_read_26 rfl (lv_at hl 2 rfl) ?_
          refine va_get (D := D) (ci := 5) (v := .int (zi_n n)) (C := RX4) (T := TX4) (N := 9) hx hb hts in_X4_read_X4 hown hK hP 0 rfl rfl 2 (by decide) (hts (.fieldLink RX4 31 "ZHeadsModel" "size" "I") (by decide +kernel)) (fun _ h9 => h9) rfl dX4_read_27 ?_
          refine zr_icmp_ge (tgt := 70) hx hb dX4_read_30 (by decide) (by omega) (by omega) (fun c_7 => ?_) (fun c_7 => ?_)
          · refine lv_iload_n hx hb dX4_read_70 rfl (lv_at hl 1 rfl) ?_
            have e_n_8_0 : zh_rdR u_1.1 = 1 := by unfold zh_rdR; first | (exfalso; omega; done) | exact if_pos hz | exact if_neg (by omega)
            have e_n_8_1 : zh_rcJ F P n u_1.1 = zh_rc F P i := by unfold zh_rcJ; first | (exfalso; omega; done) | (rw [if_pos hz, show n = i by omega]; done) | exact if_neg (by omega)
            have e_n_8_2 : zh_rcJ F G n u_1.1 = zh_rc F G i := by unfold zh_rcJ; first | (exfalso; omega; done) | (rw [if_pos hz, show n = i by omega]; done) | exact if_neg (by omega)
            have hP9 : va_P D vwCl [(x, .inr (5, [.int (zi_n 0), .ref a, .int (zi_n n), .int (zi_n (zh_rdR u_1.1)), .int (zi_n (zh_rdB u_1.1)), .ref a2, .ref a3, .int (zi_n u_1.2.1), .int (zi_n u_1.2.2)])), (a, .inl (cA, 600, .inl (zi_F F))), (a2, .inl (cB, 600, .inl (zi_F (zh_rcJ F P n u_1.1)))), (a3, .inl (cC, 600, .inl (zi_F (zh_rcJ F G n u_1.1))))] H := by rw [e_n_8_0, e_n_8_1, e_n_8_2]; exact hP
            have hD9 : va_D A [(x, .inr (5, [.int (zi_n 0), .ref a, .int (zi_n n), .int (zi_n (zh_rdR u_1.1)), .int (zi_n (zh_rdB u_1.1)), .ref a2, .ref a3, .int (zi_n u_1.2.1), .int (zi_n u_1.2.2)])), (a, .inl (cA, 600, .inl (zi_F F))), (a2, .inl (cB, 600, .inl (zi_F (zh_rcJ F P n u_1.1)))), (a3, .inl (cC, 600, .inl (zi_F (zh_rcJ F G n u_1.1))))] := by rw [e_n_8_0, e_n_8_1, e_n_8_2]; exact hD
            exact W.iret (v := zi_n (zh_rdE F n u_1.1)) hx hb hr (fun t ht hW => ⟨⟨zi_n (zh_rdE F n u_1.1), u_1, rfl, ⟨hf, rfl, hu0, hvb, hlb⟩, by rw [ht]; exact hP9, va_K.moved hW.alike hK, hD9⟩, hS.F ht⟩) hS.2.2 dX4_read_71
          · refine lv_aload_n hx hb dX4_read_33 rfl (lv_at hl 2 rfl) ?_
            refine va_get (D := D) (ci := 5) (v := .int (zi_n 1)) (C := RX4) (T := TX4) (N := 9) hx hb hts in_X4_read_X4 hown hK hP 0 rfl rfl 3 (by decide) (hts (.fieldLink RX4 36 "ZHeadsModel" "isRead" "Z") (by decide +kernel)) (fun _ h9 => h9) rfl dX4_read_34 ?_
            refine zr_if_eq (tgt := 70) hx hb dX4_read_37 (by decide) (by omega) (fun c => absurd c (by decide)) (fun c_9 => ?_)
            refine lv_aload_n hx hb dX4_read_40 rfl (lv_at hl 2 rfl) ?_
            refine va_get (D := D) (ci := 5) (v := .ref a2) (C := RX4) (T := TX4) (N := 9) hx hb hts in_X4_read_X4 hown hK hP 0 rfl rfl 5 (by decide) (hts (.fieldLink RX4 13 "ZHeadsModel" "read" "[I") (by decide +kernel)) (fun _ h9 => h9) rfl dX4_read_41 ?_
            refine lv_iload_n hx hb dX4_read_44 rfl (lv_at hl 0 rfl) ?_
            refine lv_aload_n hx hb dX4_read_45 rfl (lv_at hl 2 rfl) ?_
            refine va_get (D := D) (ci := 5) (v := .ref a) (C := RX4) (T := TX4) (N := 9) hx hb hts in_X4_read_X4 hown hK hP 0 rfl rfl 1 (by decide) (hts (.fieldLink RX4 7 "ZHeadsModel" "file" "[I") (by decide +kernel)) (fun _ h9 => h9) rfl dX4_read_46 ?_
            refine lv_iload_n hx hb dX4_read_49 rfl (lv_at hl 0 rfl) ?_
            refine zr_iald hx hb hK hP 1 0 rfl rfl (by decide) (by omega) dX4_read_50 ?_
            have b_10 := hF i.toNat
            refine zr_iast (x := F i.toNat) hx hb hK hP hD hS 2 1 rfl rfl (by decide) (by omega) dX4_read_51 (fun H locs hP hD hS => ?_)
            have hF_11 : zi_By (zi_up (zh_rc F P i) i.toNat (F i.toNat)) := zi_up_By hPi _ (by omega)
            have hP : va_P D vwCl [(x, .inr (5, [.int (zi_n 0), .ref a, .int (zi_n n), .int (zi_n 1), .int (zi_n (zh_rdB u_1.1)), .ref a2, .ref a3, .int (zi_n u_1.2.1), .int (zi_n u_1.2.2)])), (a, .inl (cA, 600, .inl (zi_F F))), (a2, .inl (cB, 600, .inl (zi_F (zi_up (zh_rc F P i) i.toNat (F i.toNat))))), (a3, .inl (cC, 600, .inl (zi_F (zh_rc F G i))))] H := hP
            have hD : va_D A [(x, .inr (5, [.int (zi_n 0), .ref a, .int (zi_n n), .int (zi_n 1), .int (zi_n (zh_rdB u_1.1)), .ref a2, .ref a3, .int (zi_n u_1.2.1), .int (zi_n u_1.2.2)])), (a, .inl (cA, 600, .inl (zi_F F))), (a2, .inl (cB, 600, .inl (zi_F (zi_up (zh_rc F P i) i.toNat (F i.toNat))))), (a3, .inl (cC, 600, .inl (zi_F (zh_rc F G i))))] := hD
            refine lv_aload_n hx hb dX4_read_52 rfl (lv_at hl 2 rfl) ?_
            refine va_get (D := D) (ci := 5) (v := .ref a3) (C := RX4) (T := TX4) (N := 9) hx hb hts in_X4_read_X4 hown hK hP 0 rfl rfl 6 (by decide) (hts (.fieldLink RX4 16 "ZHeadsModel" "memory" "[I") (by decide +kernel)) (fun _ h9 => h9) rfl dX4_read_53 ?_
            refine lv_iload_n hx hb dX4_read_56 rfl (lv_at hl 0 rfl) ?_
            refine lv_aload_n hx hb dX4_read_57 rfl (lv_at hl 2 rfl) ?_
            refine va_get (D := D) (ci := 5) (v := .ref a) (C := RX4) (T := TX4) (N := 9) hx hb hts in_X4_read_X4 hown hK hP 0 rfl rfl 1 (by decide) (hts (.fieldLink RX4 7 "ZHeadsModel" "file" "[I") (by decide +kernel)) (fun _ h9 => h9) rfl dX4_read_58 ?_
            refine lv_iload_n hx hb dX4_read_61 rfl (lv_at hl 0 rfl) ?_
            refine zr_iald hx hb hK hP 1 0 rfl rfl (by decide) (by omega) dX4_read_62 ?_
            have b_12 := hF i.toNat
            refine zr_iast (x := F i.toNat) hx hb hK hP hD hS 3 2 rfl rfl (by decide) (by omega) dX4_read_63 (fun H locs hP hD hS => ?_)
            have hF_13 : zi_By (zi_up (zh_rc F G i) i.toNat (F i.toNat)) := zi_up_By hGi _ (by omega)
            have hP : va_P D vwCl [(x, .inr (5, [.int (zi_n 0), .ref a, .int (zi_n n), .int (zi_n 1), .int (zi_n (zh_rdB u_1.1)), .ref a2, .ref a3, .int (zi_n u_1.2.1), .int (zi_n u_1.2.2)])), (a, .inl (cA, 600, .inl (zi_F F))), (a2, .inl (cB, 600, .inl (zi_F (zi_up (zh_rc F P i) i.toNat (F i.toNat))))), (a3, .inl (cC, 600, .inl (zi_F (zi_up (zh_rc F G i) i.toNat (F i.toNat)))))] H := hP
            have hD : va_D A [(x, .inr (5, [.int (zi_n 0), .ref a, .int (zi_n n), .int (zi_n 1), .int (zi_n (zh_rdB u_1.1)), .ref a2, .ref a3, .int (zi_n u_1.2.1), .int (zi_n u_1.2.2)])), (a, .inl (cA, 600, .inl (zi_F F))), (a2, .inl (cB, 600, .inl (zi_F (zi_up (zh_rc F P i) i.toNat (F i.toNat))))), (a3, .inl (cC, 600, .inl (zi_F (zi_up (zh_rc F G i) i.toNat (F i.toNat)))))] := hD
            refine zr_iinc (lv' := [(2, .int (zi_n (i + 1))), (1, .int (zi_n (zh_rdE F n u_1.1))), (0, .ref x)]) hx hb dX4_read_64 hl (k := 0) rfl (by decide) rfl (fun ls hl => ?_)
            refine lv_goto (tgt := 25) hx hb dX4_read_67 (by decide) ?_
            have e1 : zi_up (zh_rc F P i) i.toNat (F i.toNat) = zh_rc F P (i + 1) := by exact zh_rc_s (by omega)
            have e2 : zi_up (zh_rc F G i) i.toNat (F i.toNat) = zh_rc F G (i + 1) := by exact zh_rc_s (by omega)
            rw [e1] at hP hD; rw [e2] at hP hD
            exact ih (i + 1) (by omega) (by omega) (by omega) H locs hP hD hS _ (lv_sub hl [0, 1, 2] rfl)
      have e0 : zh_rc F P 0 = P := by exact zh_rc_0 F P
      have e00 : zh_rc F G 0 = G := by exact zh_rc_0 F G
      exact key 601 0 (by omega) (by omega) (by omega) _ _ (by rw [e0]; rw [e00]; exact hP) (by rw [e0]; rw [e00]; exact hD) hS _ hl
  · have her := zh_rdE_n hF hn hz
    have hj15 := zh_first_15 hf
    have hbr1 : 0 ≤ zh_rdB u_1.1 ∧ zh_rdB u_1.1 ≤ 15 := by unfold zh_rdB; omega
    refine lv_istore_n (lv' := [(1, .int (zi_n (zh_rdE F n u_1.1))), (0, .ref x)]) hx hb dX4_read_9 rfl hl (by decide) rfl (fun ls hl => ?_)
    refine lv_aload_n hx hb dX4_read_10 rfl (lv_at hl 1 rfl) ?_
    refine lv_iload_n hx hb dX4_read_11 rfl (lv_at hl 0 rfl) ?_
    refine zr_if_le (tgt := 19) hx hb dX4_read_12 (by decide) (by omega) (fun c_14 => ?_) (fun c_14 => ?_)
    · refine zr_iconst hx hb dX4_read_19 ?_
      refine va_put (D := D) (ci := 5) (v := .int (zi_n 0)) (ty := .boolean) (C := RX4) (T := TX4) (N := 9) hx hb hts in_X4_read_X4 tyX4 tyX4_ok nmX4 hown hK hP hD hS 0 rfl rfl 3 (by decide) (hts (.fieldLink RX4 36 "ZHeadsModel" "isRead" "Z") (by decide +kernel)) (fun _ h9 => h9) rfl (by decide +kernel) (by decide) rfl (Nat.le_of_ble_eq_true rfl) dX4_read_20 (fun H locs hP hD hS => ?_)
      have hP : va_P D vwCl [(x, .inr (5, [.int (zi_n 0), .ref a, .int (zi_n n), .int (zi_n 0), .int (zi_n (zh_rdB u_1.1)), .ref a2, .ref a3, .int (zi_n u_1.2.1), .int (zi_n u_1.2.2)])), (a, .inl (cA, 600, .inl (zi_F F))), (a2, .inl (cB, 600, .inl (zi_F P))), (a3, .inl (cC, 600, .inl (zi_F G)))] H := hP
      have hD : va_D A [(x, .inr (5, [.int (zi_n 0), .ref a, .int (zi_n n), .int (zi_n 0), .int (zi_n (zh_rdB u_1.1)), .ref a2, .ref a3, .int (zi_n u_1.2.1), .int (zi_n u_1.2.2)])), (a, .inl (cA, 600, .inl (zi_F F))), (a2, .inl (cB, 600, .inl (zi_F P))), (a3, .inl (cC, 600, .inl (zi_F G)))] := hD
      refine zr_iconst hx hb dX4_read_23 ?_
      refine lv_istore_n (lv' := [(2, .int (zi_n 0)), (1, .int (zi_n (zh_rdE F n u_1.1))), (0, .ref x)]) hx hb dX4_read_24 rfl hl (by decide) rfl (fun ls hl => ?_)
      refine lv_iload_n hx hb dX4_read_25 rfl (lv_at hl 0 rfl) ?_
      refine lv_aload_n hx hb dX4_read_26 rfl (lv_at hl 2 rfl) ?_
      refine va_get (D := D) (ci := 5) (v := .int (zi_n n)) (C := RX4) (T := TX4) (N := 9) hx hb hts in_X4_read_X4 hown hK hP 0 rfl rfl 2 (by decide) (hts (.fieldLink RX4 31 "ZHeadsModel" "size" "I") (by decide +kernel)) (fun _ h9 => h9) rfl dX4_read_27 ?_
      refine zr_icmp_ge (tgt := 70) hx hb dX4_read_30 (by decide) (by omega) (by omega) (fun c_15 => ?_) (fun c_15 => ?_)
      · refine lv_iload_n hx hb dX4_read_70 rfl (lv_at hl 1 rfl) ?_
        have e_n_16_0 : zh_rdR u_1.1 = 0 := by unfold zh_rdR; first | (exfalso; omega; done) | exact if_pos hz | exact if_neg (by omega)
        have e_n_16_1 : zh_rcJ F P n u_1.1 = P := by unfold zh_rcJ; first | (exfalso; omega; done) | (rw [if_pos hz, show n = i by omega]; done) | exact if_neg (by omega)
        have e_n_16_2 : zh_rcJ F G n u_1.1 = G := by unfold zh_rcJ; first | (exfalso; omega; done) | (rw [if_pos hz, show n = i by omega]; done) | exact if_neg (by omega)
        have hP9 : va_P D vwCl [(x, .inr (5, [.int (zi_n 0), .ref a, .int (zi_n n), .int (zi_n (zh_rdR u_1.1)), .int (zi_n (zh_rdB u_1.1)), .ref a2, .ref a3, .int (zi_n u_1.2.1), .int (zi_n u_1.2.2)])), (a, .inl (cA, 600, .inl (zi_F F))), (a2, .inl (cB, 600, .inl (zi_F (zh_rcJ F P n u_1.1)))), (a3, .inl (cC, 600, .inl (zi_F (zh_rcJ F G n u_1.1))))] H := by rw [e_n_16_0, e_n_16_1, e_n_16_2]; exact hP
        have hD9 : va_D A [(x, .inr (5, [.int (zi_n 0), .ref a, .int (zi_n n), .int (zi_n (zh_rdR u_1.1)), .int (zi_n (zh_rdB u_1.1)), .ref a2, .ref a3, .int (zi_n u_1.2.1), .int (zi_n u_1.2.2)])), (a, .inl (cA, 600, .inl (zi_F F))), (a2, .inl (cB, 600, .inl (zi_F (zh_rcJ F P n u_1.1)))), (a3, .inl (cC, 600, .inl (zi_F (zh_rcJ F G n u_1.1))))] := by rw [e_n_16_0, e_n_16_1, e_n_16_2]; exact hD
        exact W.iret (v := zi_n (zh_rdE F n u_1.1)) hx hb hr (fun t ht hW => ⟨⟨zi_n (zh_rdE F n u_1.1), u_1, rfl, ⟨hf, rfl, hu0, hvb, hlb⟩, by rw [ht]; exact hP9, va_K.moved hW.alike hK, hD9⟩, hS.F ht⟩) hS.2.2 dX4_read_71
      · refine lv_aload_n hx hb dX4_read_33 rfl (lv_at hl 2 rfl) ?_
        refine va_get (D := D) (ci := 5) (v := .int (zi_n 0)) (C := RX4) (T := TX4) (N := 9) hx hb hts in_X4_read_X4 hown hK hP 0 rfl rfl 3 (by decide) (hts (.fieldLink RX4 36 "ZHeadsModel" "isRead" "Z") (by decide +kernel)) (fun _ h9 => h9) rfl dX4_read_34 ?_
        refine zr_if_eq (tgt := 70) hx hb dX4_read_37 (by decide) (by omega) (fun c_17 => ?_) (fun c => absurd c (by decide))
        refine lv_iload_n hx hb dX4_read_70 rfl (lv_at hl 1 rfl) ?_
        have e_n_18_0 : zh_rdR u_1.1 = 0 := by unfold zh_rdR; first | (exfalso; omega; done) | exact if_pos hz | exact if_neg (by omega)
        have e_n_18_1 : zh_rcJ F P n u_1.1 = P := by unfold zh_rcJ; first | (exfalso; omega; done) | (rw [if_pos hz, show n = i by omega]; done) | exact if_neg (by omega)
        have e_n_18_2 : zh_rcJ F G n u_1.1 = G := by unfold zh_rcJ; first | (exfalso; omega; done) | (rw [if_pos hz, show n = i by omega]; done) | exact if_neg (by omega)
        have hP9 : va_P D vwCl [(x, .inr (5, [.int (zi_n 0), .ref a, .int (zi_n n), .int (zi_n (zh_rdR u_1.1)), .int (zi_n (zh_rdB u_1.1)), .ref a2, .ref a3, .int (zi_n u_1.2.1), .int (zi_n u_1.2.2)])), (a, .inl (cA, 600, .inl (zi_F F))), (a2, .inl (cB, 600, .inl (zi_F (zh_rcJ F P n u_1.1)))), (a3, .inl (cC, 600, .inl (zi_F (zh_rcJ F G n u_1.1))))] H := by rw [e_n_18_0, e_n_18_1, e_n_18_2]; exact hP
        have hD9 : va_D A [(x, .inr (5, [.int (zi_n 0), .ref a, .int (zi_n n), .int (zi_n (zh_rdR u_1.1)), .int (zi_n (zh_rdB u_1.1)), .ref a2, .ref a3, .int (zi_n u_1.2.1), .int (zi_n u_1.2.2)])), (a, .inl (cA, 600, .inl (zi_F F))), (a2, .inl (cB, 600, .inl (zi_F (zh_rcJ F P n u_1.1)))), (a3, .inl (cC, 600, .inl (zi_F (zh_rcJ F G n u_1.1))))] := by rw [e_n_18_0, e_n_18_1, e_n_18_2]; exact hD
        exact W.iret (v := zi_n (zh_rdE F n u_1.1)) hx hb hr (fun t ht hW => ⟨⟨zi_n (zh_rdE F n u_1.1), u_1, rfl, ⟨hf, rfl, hu0, hvb, hlb⟩, by rw [ht]; exact hP9, va_K.moved hW.alike hK, hD9⟩, hS.F ht⟩) hS.2.2 dX4_read_71
    · refine zr_iconst hx hb dX4_read_15 ?_
      refine lv_goto (tgt := 20) hx hb dX4_read_16 (by decide) ?_
      refine va_put (D := D) (ci := 5) (v := .int (zi_n 1)) (ty := .boolean) (C := RX4) (T := TX4) (N := 9) hx hb hts in_X4_read_X4 tyX4 tyX4_ok nmX4 hown hK hP hD hS 0 rfl rfl 3 (by decide) (hts (.fieldLink RX4 36 "ZHeadsModel" "isRead" "Z") (by decide +kernel)) (fun _ h9 => h9) rfl (by decide +kernel) (by decide) rfl (Nat.le_of_ble_eq_true rfl) dX4_read_20 (fun H locs hP hD hS => ?_)
      have hP : va_P D vwCl [(x, .inr (5, [.int (zi_n 0), .ref a, .int (zi_n n), .int (zi_n 1), .int (zi_n (zh_rdB u_1.1)), .ref a2, .ref a3, .int (zi_n u_1.2.1), .int (zi_n u_1.2.2)])), (a, .inl (cA, 600, .inl (zi_F F))), (a2, .inl (cB, 600, .inl (zi_F P))), (a3, .inl (cC, 600, .inl (zi_F G)))] H := hP
      have hD : va_D A [(x, .inr (5, [.int (zi_n 0), .ref a, .int (zi_n n), .int (zi_n 1), .int (zi_n (zh_rdB u_1.1)), .ref a2, .ref a3, .int (zi_n u_1.2.1), .int (zi_n u_1.2.2)])), (a, .inl (cA, 600, .inl (zi_F F))), (a2, .inl (cB, 600, .inl (zi_F P))), (a3, .inl (cC, 600, .inl (zi_F G)))] := hD
      refine zr_iconst hx hb dX4_read_23 ?_
      refine lv_istore_n (lv' := [(2, .int (zi_n 0)), (1, .int (zi_n (zh_rdE F n u_1.1))), (0, .ref x)]) hx hb dX4_read_24 rfl hl (by decide) rfl (fun ls hl => ?_)
      have key : ∀ (N : Nat) (i : Int), (0 ≤ i) → (i ≤ n) → 600 - i < N → ∀ (H : Heap) (locs : List Loc), va_P D vwCl [(x, .inr (5, [.int (zi_n 0), .ref a, .int (zi_n n), .int (zi_n 1), .int (zi_n (zh_rdB u_1.1)), .ref a2, .ref a3, .int (zi_n u_1.2.1), .int (zi_n u_1.2.2)])), (a, .inl (cA, 600, .inl (zi_F F))), (a2, .inl (cB, 600, .inl (zi_F (zh_rc F P i)))), (a3, .inl (cC, 600, .inl (zi_F (zh_rc F G i))))] H → va_D A [(x, .inr (5, [.int (zi_n 0), .ref a, .int (zi_n n), .int (zi_n 1), .int (zi_n (zh_rdB u_1.1)), .ref a2, .ref a3, .int (zi_n u_1.2.1), .int (zi_n u_1.2.2)])), (a, .inl (cA, 600, .inl (zi_F F))), (a2, .inl (cB, 600, .inl (zi_F (zh_rc F P i)))), (a3, .inl (cC, 600, .inl (zi_F (zh_rc F G i))))] → va_S A s.heap H locs → ∀ ls : Array Slot, lv_has ls 3 [(2, .int (zi_n i)), (1, .int (zi_n (zh_rdE F n u_1.1))), (0, .ref x)] → W p l e (headSpec wsX4_read ({ frames := 4, cells := 0, slots := 0, locals := 85 })).room s m ([.ref x] : List Value).toArray below meth c H locs 0 0 (MQ below (va_Qi (fun (r : Int32) (u : Nat × Int × Int) => zh_first F n u.1 ∧ r = zi_n (zh_rdE F n u.1) ∧ (u.1 = 0 → u.2.1 = F 0 ∧ u.2.2 = zh_len F n) ∧ (0 ≤ u.2.1 ∧ u.2.1 ≤ 255) ∧ (0 ≤ u.2.2 ∧ u.2.2 ≤ 524280)) (fun (u : Nat × Int × Int) => zp_B D vwCl [(cA, .int), (cB, .int), (cC, .int)] A [(x, .inr (5, [.int (zi_n 0), .ref a, .int (zi_n n), .int (zi_n (zh_rdR u.1)), .int (zi_n (zh_rdB u.1)), .ref a2, .ref a3, .int (zi_n u.2.1), .int (zi_n u.2.2)])), (a, .inl (cA, 600, .inl (zi_F F))), (a2, .inl (cB, 600, .inl (zi_F (zh_rcJ F P n u.1)))), (a3, .inl (cC, 600, .inl (zi_F (zh_rcJ F G n u.1))))]) A) ([.ref x] : List Value).toArray s 0 0 A) (F0 m 25 ls []) := by
        intro N
        induction N with
        | zero => intro i  h1 h2 hm H locs hP hD hS ls hl; exfalso; omega
        | succ N ih =>
          intro i  h1 h2 hm H locs hP hD hS ls hl
          have hPi : zi_By (zh_rc F P i) := zh_rc_By hF hP0 i
          have hGi : zi_By (zh_rc F G i) := zh_rc_By hF hG i
          refine lv_iload_n hx hb dX4_read_25 rfl (lv_at hl 0 rfl) ?_
          refine lv_aload_n hx hb dX4_read_26 rfl (lv_at hl 2 rfl) ?_
          refine va_get (D := D) (ci := 5) (v := .int (zi_n n)) (C := RX4) (T := TX4) (N := 9) hx hb hts in_X4_read_X4 hown hK hP 0 rfl rfl 2 (by decide) (hts (.fieldLink RX4 31 "ZHeadsModel" "size" "I") (by decide +kernel)) (fun _ h9 => h9) rfl dX4_read_27 ?_
          refine zr_icmp_ge (tgt := 70) hx hb dX4_read_30 (by decide) (by omega) (by omega) (fun c_19 => ?_) (fun c_19 => ?_)
          · refine lv_iload_n hx hb dX4_read_70 rfl (lv_at hl 1 rfl) ?_
            have e_n_20_0 : zh_rdR u_1.1 = 1 := by unfold zh_rdR; first | (exfalso; omega; done) | exact if_pos hz | exact if_neg (by omega)
            have e_n_20_1 : zh_rcJ F P n u_1.1 = zh_rc F P i := by unfold zh_rcJ; first | (exfalso; omega; done) | (rw [if_pos hz, show n = i by omega]; done) | exact if_neg (by omega)
            have e_n_20_2 : zh_rcJ F G n u_1.1 = zh_rc F G i := by unfold zh_rcJ; first | (exfalso; omega; done) | (rw [if_pos hz, show n = i by omega]; done) | exact if_neg (by omega)
            have hP9 : va_P D vwCl [(x, .inr (5, [.int (zi_n 0), .ref a, .int (zi_n n), .int (zi_n (zh_rdR u_1.1)), .int (zi_n (zh_rdB u_1.1)), .ref a2, .ref a3, .int (zi_n u_1.2.1), .int (zi_n u_1.2.2)])), (a, .inl (cA, 600, .inl (zi_F F))), (a2, .inl (cB, 600, .inl (zi_F (zh_rcJ F P n u_1.1)))), (a3, .inl (cC, 600, .inl (zi_F (zh_rcJ F G n u_1.1))))] H := by rw [e_n_20_0, e_n_20_1, e_n_20_2]; exact hP
            have hD9 : va_D A [(x, .inr (5, [.int (zi_n 0), .ref a, .int (zi_n n), .int (zi_n (zh_rdR u_1.1)), .int (zi_n (zh_rdB u_1.1)), .ref a2, .ref a3, .int (zi_n u_1.2.1), .int (zi_n u_1.2.2)])), (a, .inl (cA, 600, .inl (zi_F F))), (a2, .inl (cB, 600, .inl (zi_F (zh_rcJ F P n u_1.1)))), (a3, .inl (cC, 600, .inl (zi_F (zh_rcJ F G n u_1.1))))] := by rw [e_n_20_0, e_n_20_1, e_n_20_2]; exact hD
            exact W.iret (v := zi_n (zh_rdE F n u_1.1)) hx hb hr (fun t ht hW => ⟨⟨zi_n (zh_rdE F n u_1.1), u_1, rfl, ⟨hf, rfl, hu0, hvb, hlb⟩, by rw [ht]; exact hP9, va_K.moved hW.alike hK, hD9⟩, hS.F ht⟩) hS.2.2 dX4_read_71
          · refine lv_aload_n hx hb dX4_read_33 rfl (lv_at hl 2 rfl) ?_
            refine va_get (D := D) (ci := 5) (v := .int (zi_n 1)) (C := RX4) (T := TX4) (N := 9) hx hb hts in_X4_read_X4 hown hK hP 0 rfl rfl 3 (by decide) (hts (.fieldLink RX4 36 "ZHeadsModel" "isRead" "Z") (by decide +kernel)) (fun _ h9 => h9) rfl dX4_read_34 ?_
            refine zr_if_eq (tgt := 70) hx hb dX4_read_37 (by decide) (by omega) (fun c => absurd c (by decide)) (fun c_21 => ?_)
            refine lv_aload_n hx hb dX4_read_40 rfl (lv_at hl 2 rfl) ?_
            refine va_get (D := D) (ci := 5) (v := .ref a2) (C := RX4) (T := TX4) (N := 9) hx hb hts in_X4_read_X4 hown hK hP 0 rfl rfl 5 (by decide) (hts (.fieldLink RX4 13 "ZHeadsModel" "read" "[I") (by decide +kernel)) (fun _ h9 => h9) rfl dX4_read_41 ?_
            refine lv_iload_n hx hb dX4_read_44 rfl (lv_at hl 0 rfl) ?_
            refine lv_aload_n hx hb dX4_read_45 rfl (lv_at hl 2 rfl) ?_
            refine va_get (D := D) (ci := 5) (v := .ref a) (C := RX4) (T := TX4) (N := 9) hx hb hts in_X4_read_X4 hown hK hP 0 rfl rfl 1 (by decide) (hts (.fieldLink RX4 7 "ZHeadsModel" "file" "[I") (by decide +kernel)) (fun _ h9 => h9) rfl dX4_read_46 ?_
            refine lv_iload_n hx hb dX4_read_49 rfl (lv_at hl 0 rfl) ?_
            refine zr_iald hx hb hK hP 1 0 rfl rfl (by decide) (by omega) dX4_read_50 ?_
            have b_22 := hF i.toNat
            refine zr_iast (x := F i.toNat) hx hb hK hP hD hS 2 1 rfl rfl (by decide) (by omega) dX4_read_51 (fun H locs hP hD hS => ?_)
            have hF_23 : zi_By (zi_up (zh_rc F P i) i.toNat (F i.toNat)) := zi_up_By hPi _ (by omega)
            have hP : va_P D vwCl [(x, .inr (5, [.int (zi_n 0), .ref a, .int (zi_n n), .int (zi_n 1), .int (zi_n (zh_rdB u_1.1)), .ref a2, .ref a3, .int (zi_n u_1.2.1), .int (zi_n u_1.2.2)])), (a, .inl (cA, 600, .inl (zi_F F))), (a2, .inl (cB, 600, .inl (zi_F (zi_up (zh_rc F P i) i.toNat (F i.toNat))))), (a3, .inl (cC, 600, .inl (zi_F (zh_rc F G i))))] H := hP
            have hD : va_D A [(x, .inr (5, [.int (zi_n 0), .ref a, .int (zi_n n), .int (zi_n 1), .int (zi_n (zh_rdB u_1.1)), .ref a2, .ref a3, .int (zi_n u_1.2.1), .int (zi_n u_1.2.2)])), (a, .inl (cA, 600, .inl (zi_F F))), (a2, .inl (cB, 600, .inl (zi_F (zi_up (zh_rc F P i) i.toNat (F i.toNat))))), (a3, .inl (cC, 600, .inl (zi_F (zh_rc F G i))))] := hD
            refine lv_aload_n hx hb dX4_read_52 rfl (lv_at hl 2 rfl) ?_
            refine va_get (D := D) (ci := 5) (v := .ref a3) (C := RX4) (T := TX4) (N := 9) hx hb hts in_X4_read_X4 hown hK hP 0 rfl rfl 6 (by decide) (hts (.fieldLink RX4 16 "ZHeadsModel" "memory" "[I") (by decide +kernel)) (fun _ h9 => h9) rfl dX4_read_53 ?_
            refine lv_iload_n hx hb dX4_read_56 rfl (lv_at hl 0 rfl) ?_
            refine lv_aload_n hx hb dX4_read_57 rfl (lv_at hl 2 rfl) ?_
            refine va_get (D := D) (ci := 5) (v := .ref a) (C := RX4) (T := TX4) (N := 9) hx hb hts in_X4_read_X4 hown hK hP 0 rfl rfl 1 (by decide) (hts (.fieldLink RX4 7 "ZHeadsModel" "file" "[I") (by decide +kernel)) (fun _ h9 => h9) rfl dX4_read_58 ?_
            refine lv_iload_n hx hb dX4_read_61 rfl (lv_at hl 0 rfl) ?_
            refine zr_iald hx hb hK hP 1 0 rfl rfl (by decide) (by omega) dX4_read_62 ?_
            have b_24 := hF i.toNat
            refine zr_iast (x := F i.toNat) hx hb hK hP hD hS 3 2 rfl rfl (by decide) (by omega) dX4_read_63 (fun H locs hP hD hS => ?_)
            have hF_25 : zi_By (zi_up (zh_rc F G i) i.toNat (F i.toNat)) := zi_up_By hGi _ (by omega)
            have hP : va_P D vwCl [(x, .inr (5, [.int (zi_n 0), .ref a, .int (zi_n n), .int (zi_n 1), .int (zi_n (zh_rdB u_1.1)), .ref a2, .ref a3, .int (zi_n u_1.2.1), .int (zi_n u_1.2.2)])), (a, .inl (cA, 600, .inl (zi_F F))), (a2, .inl (cB, 600, .inl (zi_F (zi_up (zh_rc F P i) i.toNat (F i.toNat))))), (a3, .inl (cC, 600, .inl (zi_F (zi_up (zh_rc F G i) i.toNat (F i.toNat)))))] H := hP
            have hD : va_D A [(x, .inr (5, [.int (zi_n 0), .ref a, .int (zi_n n), .int (zi_n 1), .int (zi_n (zh_rdB u_1.1)), .ref a2, .ref a3, .int (zi_n u_1.2.1), .int (zi_n u_1.2.2)])), (a, .inl (cA, 600, .inl (zi_F F))), (a2, .inl (cB, 600, .inl (zi_F (zi_up (zh_rc F P i) i.toNat (F i.toNat))))), (a3, .inl (cC, 600, .inl (zi_F (zi_up (zh_rc F G i) i.toNat (F i.toNat)))))] := hD
            refine zr_iinc (lv' := [(2, .int (zi_n (i + 1))), (1, .int (zi_n (zh_rdE F n u_1.1))), (0, .ref x)]) hx hb dX4_read_64 hl (k := 0) rfl (by decide) rfl (fun ls hl => ?_)
            refine lv_goto (tgt := 25) hx hb dX4_read_67 (by decide) ?_
            have e1 : zi_up (zh_rc F P i) i.toNat (F i.toNat) = zh_rc F P (i + 1) := by exact zh_rc_s (by omega)
            have e2 : zi_up (zh_rc F G i) i.toNat (F i.toNat) = zh_rc F G (i + 1) := by exact zh_rc_s (by omega)
            rw [e1] at hP hD; rw [e2] at hP hD
            exact ih (i + 1) (by omega) (by omega) (by omega) H locs hP hD hS _ (lv_sub hl [0, 1, 2] rfl)
      have e0 : zh_rc F P 0 = P := by exact zh_rc_0 F P
      have e00 : zh_rc F G 0 = G := by exact zh_rc_0 F G
      exact key 601 0 (by omega) (by omega) (by omega) _ _ (by rw [e0]; rw [e00]; exact hP) (by rw [e0]; rw [e00]; exact hD) hS _ hl

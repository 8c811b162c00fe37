theorem in_X4_fill_X4 : ∀ w ∈ u_ws RX4 TX4 9, w ∈ wsX4_fill := by decide +kernel
set_option maxHeartbeats 4000000 in
set_option maxRecDepth 100000 in
theorem c_M_fill (l : Launch) (D : va_G) (x a a2 a3 : Nat) (cA cB cC : ClassId) (F P G : Nat → Int) (n rd br v ln ft : Int) (hF : zi_By F) (hn : 0 ≤ n ∧ n ≤ 600) (hP0 : zi_By P) (hG : zi_By G) (hrd : rd = 0 ∨ rd = 1) (hbr : 0 ≤ br ∧ br ≤ 15) (hv0 : 0 ≤ v ∧ v ≤ 255) (hln : 0 ≤ ln ∧ ln ≤ 524280) (hft : 0 ≤ ft ∧ ft ≤ 1) (sz : Nat) (p0 : Int) (p1 : Int) (rp0 : zi_R p0) (rp1 : zi_R p1) : Met l yX4_fill wsX4_fill ({ frames := 1, cells := 0, slots := 0, locals := 22 }) (va_Pc [.ref x, .int (zi_n p0), .int (zi_n p1)] (zp_P D vwCl sz [(x, .inr (5, [.int (zi_n ft), .ref a, .int (zi_n n), .int (zi_n rd), .int (zi_n br), .ref a2, .ref a3, .int (zi_n v), .int (zi_n ln)])), (a, .inl (cA, 600, .inl (zi_F F))), (a2, .inl (cB, 600, .inl (zi_F P))), (a3, .inl (cC, 600, .inl (zi_F G)))] [(cA, .int), (cB, .int), (cC, .int)])) (va_Qi (fun (r : Int32) (_ : Unit) => r = zi_n (zh_fiE n p0 p1) ∧ -14 ≤ (zh_fiE n p0 p1) ∧ (zh_fiE n p0 p1) ≤ 600) (fun (_ : Unit) => zp_B D vwCl [(cA, .int), (cB, .int), (cC, .int)] (va_A [(x, .inr (5, [.int (zi_n ft), .ref a, .int (zi_n n), .int (zi_n rd), .int (zi_n br), .ref a2, .ref a3, .int (zi_n v), .int (zi_n ln)])), (a, .inl (cA, 600, .inl (zi_F F))), (a2, .inl (cB, 600, .inl (zi_F P))), (a3, .inl (cC, 600, .inl (zi_F G)))] sz) [(x, .inr (5, [.int (zi_n 0), .ref a, .int (zi_n (zh_fiN n p0 p1)), .int (zi_n (zh_fiR n rd p0 p1)), .int (zi_n br), .ref a2, .ref a3, .int (zi_n v), .int (zi_n ln)])), (a, .inl (cA, 600, .inl (zi_F (zh_fiF F n p0 p1)))), (a2, .inl (cB, 600, .inl (zi_F P))), (a3, .inl (cC, 600, .inl (zi_F G)))]) (va_A [(x, .inr (5, [.int (zi_n ft), .ref a, .int (zi_n n), .int (zi_n rd), .int (zi_n br), .ref a2, .ref a3, .int (zi_n v), .int (zi_n ln)])), (a, .inl (cA, 600, .inl (zi_F F))), (a2, .inl (cB, 600, .inl (zi_F P))), (a3, .inl (cC, 600, .inl (zi_F G)))] sz)) 0 0 (va_A [(x, .inr (5, [.int (zi_n ft), .ref a, .int (zi_n n), .int (zi_n rd), .int (zi_n br), .ref a2, .ref a3, .int (zi_n v), .int (zi_n ln)])), (a, .inl (cA, 600, .inl (zi_F F))), (a2, .inl (cB, 600, .inl (zi_F P))), (a3, .inl (cC, 600, .inl (zi_F G)))] sz) := by
  refine Met.ofW (cc := cX4_fill) (maxL := 4) (ret := (some .int)) (by decide) rfl ?_
  intro p e s m args below meth c s₁ B hml hv
  obtain ⟨rfl, hsz, hP, hK, hD0⟩ := hv
  have hx := B.exec
  have hb := B.bytes
  have hr := B.returns
  have hts := atoms_spec (ws := wsX4_fill) B.pre
  have hown : s.vm.findClass RX4 = some m.cls := findClass_of_methodNamed B.named
  have hlocks := B.notSynchronized
  subst hsz
  have hD := hD0.self (sz := s.heap.size)
  generalize hAe : va_A [(x, .inr (5, [.int (zi_n ft), .ref a, .int (zi_n n), .int (zi_n rd), .int (zi_n br), .ref a2, .ref a3, .int (zi_n v), .int (zi_n ln)])), (a, .inl (cA, 600, .inl (zi_F F))), (a2, .inl (cB, 600, .inl (zi_F P))), (a3, .inl (cC, 600, .inl (zi_F G)))] s.heap.size = A at hD ⊢
  have hA : ∀ q : Nat, s.heap.size ≤ q → A q := fun q h => by rw [← hAe]; exact Or.inr h
  have hS : va_S A s.heap s.heap [] := va_S.rf
  have hP : va_P D vwCl [(x, .inr (5, [.int (zi_n ft), .ref a, .int (zi_n n), .int (zi_n rd), .int (zi_n br), .ref a2, .ref a3, .int (zi_n v), .int (zi_n ln)])), (a, .inl (cA, 600, .inl (zi_F F))), (a2, .inl (cB, 600, .inl (zi_F P))), (a3, .inl (cC, 600, .inl (zi_F G)))] s.heap := hP
  have hl := lv_entry ([.ref x, .int (zi_n p0), .int (zi_n p1)]) (n := 4) (Nat.le_of_ble_eq_true rfl)
  rw [lg_entry_eq]
  generalize (lg_sl ([.ref x, .int (zi_n p0), .int (zi_n p1)]) ++ List.replicate (4 - (lg_sl ([.ref x, .int (zi_n p0), .int (zi_n p1)])).length) Slot.unset).toArray = ls at hl ⊢
  have hl : lv_has ls 4 [(0, .ref x), (1, .int (zi_n p0)), (2, .int (zi_n p1))] := hl
  refine lv_aload_n hx hb dX4_fill_0 rfl (lv_at hl 0 rfl) ?_
  refine zr_iconst hx hb dX4_fill_1 ?_
  refine va_put (D := D) (ci := 5) (v := .int (zi_n 0)) (ty := .int) (C := RX4) (T := TX4) (N := 9) hx hb hts in_X4_fill_X4 tyX4 tyX4_ok nmX4 hown hK hP hD hS 0 rfl rfl 0 (by decide) (hts (.fieldLink RX4 19 "ZHeadsModel" "fault" "I") (by decide +kernel)) (fun _ h9 => h9) rfl (by decide +kernel) rfl rfl (Nat.le_of_ble_eq_true rfl) dX4_fill_2 (fun H locs hP hD hS => ?_)
  have hP : va_P D vwCl [(x, .inr (5, [.int (zi_n 0), .ref a, .int (zi_n n), .int (zi_n rd), .int (zi_n br), .ref a2, .ref a3, .int (zi_n v), .int (zi_n ln)])), (a, .inl (cA, 600, .inl (zi_F F))), (a2, .inl (cB, 600, .inl (zi_F P))), (a3, .inl (cC, 600, .inl (zi_F G)))] H := hP
  have hD : va_D A [(x, .inr (5, [.int (zi_n 0), .ref a, .int (zi_n n), .int (zi_n rd), .int (zi_n br), .ref a2, .ref a3, .int (zi_n v), .int (zi_n ln)])), (a, .inl (cA, 600, .inl (zi_F F))), (a2, .inl (cB, 600, .inl (zi_F P))), (a3, .inl (cC, 600, .inl (zi_F G)))] := hD
  refine lv_iload_n hx hb dX4_fill_5 rfl (lv_at hl 1 rfl) ?_
  refine zr_iconst hx hb dX4_fill_6 ?_
  refine zr_sipush hx hb dX4_fill_7 (by decide) ?_
  refine zc_S (As := [.int (zi_n p0), .int (zi_n 1), .int (zi_n 600)]) (rest := []) ⟨hx, hb, hml, hown, hts⟩ (c_M_in l p0 1 600 (by omega) (by omega) (by omega)) (va_cwS 3 hts gX4_fill_X4_in rfl rfl rfl (by decide +kernel) ⟨(Nat.le_of_ble_eq_true rfl), (Nat.le_of_ble_eq_true rfl)⟩) rfl hl.1 rfl (Nat.le_of_ble_eq_true rfl) dX4_fill_10 ⟨Nat.zero_le _, Nat.zero_le _⟩ (fun r hr1 => ?_)
  rcases hr1 with ⟨rfl, c_1⟩ | ⟨rfl, c_1⟩
  · refine zr_if_eq (tgt := 27) hx hb dX4_fill_13 (by decide) (by omega) (fun c => absurd c (by decide)) (fun c_2 => ?_)
    refine lv_iload_n hx hb dX4_fill_16 rfl (lv_at hl 2 rfl) ?_
    refine zr_iconst hx hb dX4_fill_17 ?_
    refine zr_sipush hx hb dX4_fill_18 (by decide) ?_
    refine zc_S (As := [.int (zi_n p1), .int (zi_n 0), .int (zi_n 255)]) (rest := []) ⟨hx, hb, hml, hown, hts⟩ (c_M_in l p1 0 255 (by omega) (by omega) (by omega)) (va_cwS 3 hts gX4_fill_X4_in rfl rfl rfl (by decide +kernel) ⟨(Nat.le_of_ble_eq_true rfl), (Nat.le_of_ble_eq_true rfl)⟩) rfl hl.1 rfl (Nat.le_of_ble_eq_true rfl) dX4_fill_21 ⟨Nat.zero_le _, Nat.zero_le _⟩ (fun r hr1 => ?_)
    rcases hr1 with ⟨rfl, c_3⟩ | ⟨rfl, c_3⟩
    · refine zr_if_ne (tgt := 30) hx hb dX4_fill_24 (by decide) (by omega) (fun c_4 => ?_) (fun c => absurd c (by decide))
      refine lv_aload_n hx hb dX4_fill_30 rfl (lv_at hl 0 rfl) ?_
      refine va_get (D := D) (ci := 5) (v := .int (zi_n n)) (C := RX4) (T := TX4) (N := 9) hx hb hts in_X4_fill_X4 hown hK hP 0 rfl rfl 2 (by decide) (hts (.fieldLink RX4 31 "ZHeadsModel" "size" "I") (by decide +kernel)) (fun _ h9 => h9) rfl dX4_fill_31 ?_
      refine lv_iload_n hx hb dX4_fill_34 rfl (lv_at hl 1 rfl) ?_
      refine zr_iadd hx hb dX4_fill_35 ?_
      refine zr_sipush hx hb dX4_fill_36 (by decide) ?_
      refine zr_icmp_le (tgt := 45) hx hb dX4_fill_39 (by decide) (by omega) (by omega) (fun c_5 => ?_) (fun c_5 => ?_)
      · refine zr_iconst hx hb dX4_fill_45 ?_
        refine lv_istore_n (lv' := [(3, .int (zi_n 0)), (0, .ref x), (1, .int (zi_n p0)), (2, .int (zi_n p1))]) hx hb dX4_fill_46 rfl hl (by decide) rfl (fun ls hl => ?_)
        have key : ∀ (N : Nat) (i : Int), (0 ≤ i) → (i ≤ p0) → p0 - i < N → ∀ (H : Heap) (locs : List Loc), va_P D vwCl [(x, .inr (5, [.int (zi_n 0), .ref a, .int (zi_n (n + i)), .int (zi_n rd), .int (zi_n br), .ref a2, .ref a3, .int (zi_n v), .int (zi_n ln)])), (a, .inl (cA, 600, .inl (zi_F (zh_fl F n i p1)))), (a2, .inl (cB, 600, .inl (zi_F P))), (a3, .inl (cC, 600, .inl (zi_F G)))] H → va_D A [(x, .inr (5, [.int (zi_n 0), .ref a, .int (zi_n (n + i)), .int (zi_n rd), .int (zi_n br), .ref a2, .ref a3, .int (zi_n v), .int (zi_n ln)])), (a, .inl (cA, 600, .inl (zi_F (zh_fl F n i p1)))), (a2, .inl (cB, 600, .inl (zi_F P))), (a3, .inl (cC, 600, .inl (zi_F G)))] → va_S A s.heap H locs → ∀ ls : Array Slot, lv_has ls 4 [(3, .int (zi_n i)), (0, .ref x), (1, .int (zi_n p0)), (2, .int (zi_n p1))] → W p l e (headSpec wsX4_fill ({ frames := 1, cells := 0, slots := 0, locals := 22 })).room s m ([.ref x, .int (zi_n p0), .int (zi_n p1)] : List Value).toArray below meth c H locs 0 0 (MQ below (va_Qi (fun (r : Int32) (_ : Unit) => r = zi_n (zh_fiE n p0 p1) ∧ -14 ≤ (zh_fiE n p0 p1) ∧ (zh_fiE n p0 p1) ≤ 600) (fun (_ : Unit) => zp_B D vwCl [(cA, .int), (cB, .int), (cC, .int)] A [(x, .inr (5, [.int (zi_n 0), .ref a, .int (zi_n (zh_fiN n p0 p1)), .int (zi_n (zh_fiR n rd p0 p1)), .int (zi_n br), .ref a2, .ref a3, .int (zi_n v), .int (zi_n ln)])), (a, .inl (cA, 600, .inl (zi_F (zh_fiF F n p0 p1)))), (a2, .inl (cB, 600, .inl (zi_F P))), (a3, .inl (cC, 600, .inl (zi_F G)))]) A) ([.ref x, .int (zi_n p0), .int (zi_n p1)] : List Value).toArray s 0 0 A) (F0 m 47 ls []) := by
          intro N
          induction N with
          | zero => intro i  h1 h2 hm H locs hP hD hS ls hl; exfalso; omega
          | succ N ih =>
            intro i  h1 h2 hm H locs hP hD hS ls hl
            have hFi : zi_By (zh_fl F n i p1) := zh_fl_By hF n i (by omega)
            refine lv_iload_n hx hb dX4_fill_47 rfl (lv_at hl 0 rfl) ?_
            refine lv_iload_n hx hb dX4_fill_48 rfl (lv_at hl 2 rfl) ?_
            refine zr_icmp_ge (tgt := 78) hx hb dX4_fill_49 (by decide) (by omega) (by omega) (fun c_6 => ?_) (fun c_6 => ?_)
            · refine lv_aload_n hx hb dX4_fill_78 rfl (lv_at hl 1 rfl) ?_
              refine zr_iconst hx hb dX4_fill_79 ?_
              refine va_put (D := D) (ci := 5) (v := .int (zi_n 0)) (ty := .boolean) (C := RX4) (T := TX4) (N := 9) hx hb hts in_X4_fill_X4 tyX4 tyX4_ok nmX4 hown hK hP hD hS 0 rfl rfl 3 (by decide) (hts (.fieldLink RX4 36 "ZHeadsModel" "isRead" "Z") (by decide +kernel)) (fun _ h9 => h9) rfl (by decide +kernel) (by decide) rfl (Nat.le_of_ble_eq_true rfl) dX4_fill_80 (fun H locs hP hD hS => ?_)
              have hP : va_P D vwCl [(x, .inr (5, [.int (zi_n 0), .ref a, .int (zi_n (n + i)), .int (zi_n 0), .int (zi_n br), .ref a2, .ref a3, .int (zi_n v), .int (zi_n ln)])), (a, .inl (cA, 600, .inl (zi_F (zh_fl F n i p1)))), (a2, .inl (cB, 600, .inl (zi_F P))), (a3, .inl (cC, 600, .inl (zi_F G)))] H := hP
              have hD : va_D A [(x, .inr (5, [.int (zi_n 0), .ref a, .int (zi_n (n + i)), .int (zi_n 0), .int (zi_n br), .ref a2, .ref a3, .int (zi_n v), .int (zi_n ln)])), (a, .inl (cA, 600, .inl (zi_F (zh_fl F n i p1)))), (a2, .inl (cB, 600, .inl (zi_F P))), (a3, .inl (cC, 600, .inl (zi_F G)))] := hD
              refine lv_aload_n hx hb dX4_fill_83 rfl (lv_at hl 1 rfl) ?_
              refine va_get (D := D) (ci := 5) (v := .int (zi_n (n + i))) (C := RX4) (T := TX4) (N := 9) hx hb hts in_X4_fill_X4 hown hK hP 0 rfl rfl 2 (by decide) (hts (.fieldLink RX4 31 "ZHeadsModel" "size" "I") (by decide +kernel)) (fun _ h9 => h9) rfl dX4_fill_84 ?_
              have e_n_7_0 : zh_fiN n p0 p1 = n + i := by unfold zh_fiN zh_apN; first | (rw [if_neg (by omega)]; done) | (rw [if_pos (by omega), if_pos (by omega)]; done) | (rw [if_pos (by omega), if_neg (by omega)]; rw [show p0 = i by omega]; done)
              have e_n_7_1 : zh_fiR n rd p0 p1 = 0 := by unfold zh_fiR zh_apR; first | (rw [if_neg (by omega)]; done) | (rw [if_pos (by omega), if_pos (by omega)]; done) | (rw [if_pos (by omega), if_neg (by omega)]; done)
              have e_n_7_2 : zh_fiF F n p0 p1 = zh_fl F n i p1 := by unfold zh_fiF zh_apF; first | (rw [if_neg (by omega)]; done) | (rw [if_pos (by omega), if_pos (by omega)]; done) | (rw [if_pos (by omega), if_neg (by omega)]; rw [show p0 = i by omega]; done)
              have hP9 : va_P D vwCl [(x, .inr (5, [.int (zi_n 0), .ref a, .int (zi_n (zh_fiN n p0 p1)), .int (zi_n (zh_fiR n rd p0 p1)), .int (zi_n br), .ref a2, .ref a3, .int (zi_n v), .int (zi_n ln)])), (a, .inl (cA, 600, .inl (zi_F (zh_fiF F n p0 p1)))), (a2, .inl (cB, 600, .inl (zi_F P))), (a3, .inl (cC, 600, .inl (zi_F G)))] H := by rw [e_n_7_0, e_n_7_1, e_n_7_2]; exact hP
              have hD9 : va_D A [(x, .inr (5, [.int (zi_n 0), .ref a, .int (zi_n (zh_fiN n p0 p1)), .int (zi_n (zh_fiR n rd p0 p1)), .int (zi_n br), .ref a2, .ref a3, .int (zi_n v), .int (zi_n ln)])), (a, .inl (cA, 600, .inl (zi_F (zh_fiF F n p0 p1)))), (a2, .inl (cB, 600, .inl (zi_F P))), (a3, .inl (cC, 600, .inl (zi_F G)))] := by rw [e_n_7_0, e_n_7_1, e_n_7_2]; exact hD
              exact W.iret (v := zi_n (n + i)) hx hb hr (fun t ht hW => ⟨⟨zi_n (n + i), (), rfl, zl_r (by unfold zh_fiE zh_apE; (repeat' split) <;> omega) (by omega), by rw [ht]; exact hP9, va_K.moved hW.alike hK, hD9⟩, hS.F ht⟩) hS.2.2 dX4_fill_87
            · refine lv_aload_n hx hb dX4_fill_52 rfl (lv_at hl 1 rfl) ?_
              refine va_get (D := D) (ci := 5) (v := .ref a) (C := RX4) (T := TX4) (N := 9) hx hb hts in_X4_fill_X4 hown hK hP 0 rfl rfl 1 (by decide) (hts (.fieldLink RX4 7 "ZHeadsModel" "file" "[I") (by decide +kernel)) (fun _ h9 => h9) rfl dX4_fill_53 ?_
              refine lv_aload_n hx hb dX4_fill_56 rfl (lv_at hl 1 rfl) ?_
              refine va_get (D := D) (ci := 5) (v := .int (zi_n (n + i))) (C := RX4) (T := TX4) (N := 9) hx hb hts in_X4_fill_X4 hown hK hP 0 rfl rfl 2 (by decide) (hts (.fieldLink RX4 31 "ZHeadsModel" "size" "I") (by decide +kernel)) (fun _ h9 => h9) rfl dX4_fill_57 ?_
              refine lv_iload_n hx hb dX4_fill_60 rfl (lv_at hl 3 rfl) ?_
              refine zr_iast (x := p1) hx hb hK hP hD hS 1 0 rfl rfl (by decide) (by omega) dX4_fill_61 (fun H locs hP hD hS => ?_)
              have hF_8 : zi_By (zi_up (zh_fl F n i p1) (n + i).toNat p1) := zi_up_By hFi _ (by omega)
              have hP : va_P D vwCl [(x, .inr (5, [.int (zi_n 0), .ref a, .int (zi_n (n + i)), .int (zi_n rd), .int (zi_n br), .ref a2, .ref a3, .int (zi_n v), .int (zi_n ln)])), (a, .inl (cA, 600, .inl (zi_F (zi_up (zh_fl F n i p1) (n + i).toNat p1)))), (a2, .inl (cB, 600, .inl (zi_F P))), (a3, .inl (cC, 600, .inl (zi_F G)))] H := hP
              have hD : va_D A [(x, .inr (5, [.int (zi_n 0), .ref a, .int (zi_n (n + i)), .int (zi_n rd), .int (zi_n br), .ref a2, .ref a3, .int (zi_n v), .int (zi_n ln)])), (a, .inl (cA, 600, .inl (zi_F (zi_up (zh_fl F n i p1) (n + i).toNat p1)))), (a2, .inl (cB, 600, .inl (zi_F P))), (a3, .inl (cC, 600, .inl (zi_F G)))] := hD
              refine lv_aload_n hx hb dX4_fill_62 rfl (lv_at hl 1 rfl) ?_
              refine lv_dup hx hb dX4_fill_63 rfl ?_
              refine va_get (D := D) (ci := 5) (v := .int (zi_n (n + i))) (C := RX4) (T := TX4) (N := 9) hx hb hts in_X4_fill_X4 hown hK hP 0 rfl rfl 2 (by decide) (hts (.fieldLink RX4 31 "ZHeadsModel" "size" "I") (by decide +kernel)) (fun _ h9 => h9) rfl dX4_fill_64 ?_
              refine zr_iconst hx hb dX4_fill_67 ?_
              refine zr_iadd hx hb dX4_fill_68 ?_
              refine va_put (D := D) (ci := 5) (v := .int (zi_n ((n + i) + 1))) (ty := .int) (C := RX4) (T := TX4) (N := 9) hx hb hts in_X4_fill_X4 tyX4 tyX4_ok nmX4 hown hK hP hD hS 0 rfl rfl 2 (by decide) (hts (.fieldLink RX4 31 "ZHeadsModel" "size" "I") (by decide +kernel)) (fun _ h9 => h9) rfl (by decide +kernel) rfl rfl (Nat.le_of_ble_eq_true rfl) dX4_fill_69 (fun H locs hP hD hS => ?_)
              have hP : va_P D vwCl [(x, .inr (5, [.int (zi_n 0), .ref a, .int (zi_n ((n + i) + 1)), .int (zi_n rd), .int (zi_n br), .ref a2, .ref a3, .int (zi_n v), .int (zi_n ln)])), (a, .inl (cA, 600, .inl (zi_F (zi_up (zh_fl F n i p1) (n + i).toNat p1)))), (a2, .inl (cB, 600, .inl (zi_F P))), (a3, .inl (cC, 600, .inl (zi_F G)))] H := hP
              have hD : va_D A [(x, .inr (5, [.int (zi_n 0), .ref a, .int (zi_n ((n + i) + 1)), .int (zi_n rd), .int (zi_n br), .ref a2, .ref a3, .int (zi_n v), .int (zi_n ln)])), (a, .inl (cA, 600, .inl (zi_F (zi_up (zh_fl F n i p1) (n + i).toNat p1)))), (a2, .inl (cB, 600, .inl (zi_F P))), (a3, .inl (cC, 600, .inl (zi_F G)))] := hD
              refine zr_iinc (lv' := [(3, .int (zi_n (i + 1))), (0, .ref x), (1, .int (zi_n p0)), (2, .int (zi_n p1))]) hx hb dX4_fill_72 hl (k := 0) rfl (by decide) rfl (fun ls hl => ?_)
              refine lv_goto (tgt := 47) hx hb dX4_fill_75 (by decide) ?_
              have e1 : zi_up (zh_fl F n i p1) (n + i).toNat p1 = zh_fl F n (i + 1) p1 := by exact zh_fl_s (by omega) (by omega)
              have e2 : n + i + 1 = n + (i + 1) := by omega
              rw [e1] at hP hD; rw [e2] at hP hD
              exact ih (i + 1) (by omega) (by omega) (by omega) H locs hP hD hS _ (lv_sub hl [0, 1, 2, 3] rfl)
        have e0 : zh_fl F n 0 p1 = F := by exact zh_fl_0 F n p1
        have e00 : n + 0 = n := by omega
        exact key 601 0 (by omega) (by omega) (by omega) _ _ (by rw [e0]; rw [e00]; exact hP) (by rw [e0]; rw [e00]; exact hD) hS _ hl
      · refine zr_bipush hx hb dX4_fill_42 (by decide) ?_
        have e_n_9_0 : zh_fiN n p0 p1 = n := by unfold zh_fiN zh_apN; first | (rw [if_neg (by omega)]; done) | (rw [if_pos (by omega), if_pos (by omega)]; done) | (rw [if_pos (by omega), if_neg (by omega)]; rw [show p0 = i by omega]; done)
        have e_n_9_1 : zh_fiR n rd p0 p1 = rd := by unfold zh_fiR zh_apR; first | (rw [if_neg (by omega)]; done) | (rw [if_pos (by omega), if_pos (by omega)]; done) | (rw [if_pos (by omega), if_neg (by omega)]; done)
        have e_n_9_2 : zh_fiF F n p0 p1 = F := by unfold zh_fiF zh_apF; first | (rw [if_neg (by omega)]; done) | (rw [if_pos (by omega), if_pos (by omega)]; done) | (rw [if_pos (by omega), if_neg (by omega)]; rw [show p0 = i by omega]; done)
        have hP9 : va_P D vwCl [(x, .inr (5, [.int (zi_n 0), .ref a, .int (zi_n (zh_fiN n p0 p1)), .int (zi_n (zh_fiR n rd p0 p1)), .int (zi_n br), .ref a2, .ref a3, .int (zi_n v), .int (zi_n ln)])), (a, .inl (cA, 600, .inl (zi_F (zh_fiF F n p0 p1)))), (a2, .inl (cB, 600, .inl (zi_F P))), (a3, .inl (cC, 600, .inl (zi_F G)))] H := by rw [e_n_9_0, e_n_9_1, e_n_9_2]; exact hP
        have hD9 : va_D A [(x, .inr (5, [.int (zi_n 0), .ref a, .int (zi_n (zh_fiN n p0 p1)), .int (zi_n (zh_fiR n rd p0 p1)), .int (zi_n br), .ref a2, .ref a3, .int (zi_n v), .int (zi_n ln)])), (a, .inl (cA, 600, .inl (zi_F (zh_fiF F n p0 p1)))), (a2, .inl (cB, 600, .inl (zi_F P))), (a3, .inl (cC, 600, .inl (zi_F G)))] := by rw [e_n_9_0, e_n_9_1, e_n_9_2]; exact hD
        exact W.iret (v := zi_n (-14)) hx hb hr (fun t ht hW => ⟨⟨zi_n (-14), (), rfl, zl_r (by unfold zh_fiE zh_apE; (repeat' split) <;> omega) (by omega), by rw [ht]; exact hP9, va_K.moved hW.alike hK, hD9⟩, hS.F ht⟩) hS.2.2 dX4_fill_44
    · refine zr_if_ne (tgt := 30) hx hb dX4_fill_24 (by decide) (by omega) (fun c => absurd c (by decide)) (fun c_10 => ?_)
      refine zr_bipush hx hb dX4_fill_27 (by decide) ?_
      have e_n_11_0 : zh_fiN n p0 p1 = n := by unfold zh_fiN zh_apN; first | (rw [if_neg (by omega)]; done) | (rw [if_pos (by omega), if_pos (by omega)]; done) | (rw [if_pos (by omega), if_neg (by omega)]; rw [show p0 = i by omega]; done)
      have e_n_11_1 : zh_fiR n rd p0 p1 = rd := by unfold zh_fiR zh_apR; first | (rw [if_neg (by omega)]; done) | (rw [if_pos (by omega), if_pos (by omega)]; done) | (rw [if_pos (by omega), if_neg (by omega)]; done)
      have e_n_11_2 : zh_fiF F n p0 p1 = F := by unfold zh_fiF zh_apF; first | (rw [if_neg (by omega)]; done) | (rw [if_pos (by omega), if_pos (by omega)]; done) | (rw [if_pos (by omega), if_neg (by omega)]; rw [show p0 = i by omega]; done)
      have hP9 : va_P D vwCl [(x, .inr (5, [.int (zi_n 0), .ref a, .int (zi_n (zh_fiN n p0 p1)), .int (zi_n (zh_fiR n rd p0 p1)), .int (zi_n br), .ref a2, .ref a3, .int (zi_n v), .int (zi_n ln)])), (a, .inl (cA, 600, .inl (zi_F (zh_fiF F n p0 p1)))), (a2, .inl (cB, 600, .inl (zi_F P))), (a3, .inl (cC, 600, .inl (zi_F G)))] H := by rw [e_n_11_0, e_n_11_1, e_n_11_2]; exact hP
      have hD9 : va_D A [(x, .inr (5, [.int (zi_n 0), .ref a, .int (zi_n (zh_fiN n p0 p1)), .int (zi_n (zh_fiR n rd p0 p1)), .int (zi_n br), .ref a2, .ref a3, .int (zi_n v), .int (zi_n ln)])), (a, .inl (cA, 600, .inl (zi_F (zh_fiF F n p0 p1)))), (a2, .inl (cB, 600, .inl (zi_F P))), (a3, .inl (cC, 600, .inl (zi_F G)))] := by rw [e_n_11_0, e_n_11_1, e_n_11_2]; exact hD
      exact W.iret (v := zi_n (-12)) hx hb hr (fun t ht hW => ⟨⟨zi_n (-12), (), rfl, zl_r (by unfold zh_fiE zh_apE; (repeat' split) <;> omega) (by omega), by rw [ht]; exact hP9, va_K.moved hW.alike hK, hD9⟩, hS.F ht⟩) hS.2.2 dX4_fill_29
  · refine zr_if_eq (tgt := 27) hx hb dX4_fill_13 (by decide) (by omega) (fun c_12 => ?_) (fun c => absurd c (by decide))
    refine zr_bipush hx hb dX4_fill_27 (by decide) ?_
    have e_n_13_0 : zh_fiN n p0 p1 = n := by unfold zh_fiN zh_apN; first | (rw [if_neg (by omega)]; done) | (rw [if_pos (by omega), if_pos (by omega)]; done) | (rw [if_pos (by omega), if_neg (by omega)]; rw [show p0 = i by omega]; done)
    have e_n_13_1 : zh_fiR n rd p0 p1 = rd := by unfold zh_fiR zh_apR; first | (rw [if_neg (by omega)]; done) | (rw [if_pos (by omega), if_pos (by omega)]; done) | (rw [if_pos (by omega), if_neg (by omega)]; done)
    have e_n_13_2 : zh_fiF F n p0 p1 = F := by unfold zh_fiF zh_apF; first | (rw [if_neg (by omega)]; done) | (rw [if_pos (by omega), if_pos (by omega)]; done) | (rw [if_pos (by omega), if_neg (by omega)]; rw [show p0 = i by omega]; done)
    have hP9 : va_P D vwCl [(x, .inr (5, [.int (zi_n 0), .ref a, .int (zi_n (zh_fiN n p0 p1)), .int (zi_n (zh_fiR n rd p0 p1)), .int (zi_n br), .ref a2, .ref a3, .int (zi_n v), .int (zi_n ln)])), (a, .inl (cA, 600, .inl (zi_F (zh_fiF F n p0 p1)))), (a2, .inl (cB, 600, .inl (zi_F P))), (a3, .inl (cC, 600, .inl (zi_F G)))] H := by rw [e_n_13_0, e_n_13_1, e_n_13_2]; exact hP
    have hD9 : va_D A [(x, .inr (5, [.int (zi_n 0), .ref a, .int (zi_n (zh_fiN n p0 p1)), .int (zi_n (zh_fiR n rd p0 p1)), .int (zi_n br), .ref a2, .ref a3, .int (zi_n v), .int (zi_n ln)])), (a, .inl (cA, 600, .inl (zi_F (zh_fiF F n p0 p1)))), (a2, .inl (cB, 600, .inl (zi_F P))), (a3, .inl (cC, 600, .inl (zi_F G)))] := by rw [e_n_13_0, e_n_13_1, e_n_13_2]; exact hD
    exact W.iret (v := zi_n (-12)) hx hb hr (fun t ht hW => ⟨⟨zi_n (-12), (), rfl, zl_r (by unfold zh_fiE zh_apE; (repeat' split) <;> omega) (by omega), by rw [ht]; exact hP9, va_K.moved hW.alike hK, hD9⟩, hS.F ht⟩) hS.2.2 dX4_fill_29

set_option maxHeartbeats 4000000 in
set_option maxRecDepth 100000 in
theorem c_M_octet (l : Launch) (D : va_G) (x a a2 a3 : Nat) (cA cB cC : ClassId) (F P G : Nat → Int) (n rd br v ln ft : Int) (hF : zi_By F) (hn : 0 ≤ n ∧ n ≤ 600) (hP0 : zi_By P) (hG : zi_By G) (hrd : rd = 0 ∨ rd = 1) (hbr : 0 ≤ br ∧ br ≤ 15) (hv0 : 0 ≤ v ∧ v ≤ 255) (hln : 0 ≤ ln ∧ ln ≤ 524280) (hft : 0 ≤ ft ∧ ft ≤ 1) (sz : Nat) (p0 : Int) (rp0 : zi_R p0) : Met l yX4_octet wsX4_octet ({ frames := 2, cells := 0, slots := 0, locals := 45 }) (va_Pc [.ref x, .int (zi_n p0)] (zp_P D vwCl sz [(x, .inr (5, [.int (zi_n ft), .ref a, .int (zi_n n), .int (zi_n rd), .int (zi_n br), .ref a2, .ref a3, .int (zi_n v), .int (zi_n ln)])), (a, .inl (cA, 600, .inl (zi_F F))), (a2, .inl (cB, 600, .inl (zi_F P))), (a3, .inl (cC, 600, .inl (zi_F G)))] [(cA, .int), (cB, .int), (cC, .int)])) (va_Qi (fun (r : Int32) (_ : Unit) => r = zi_n (zh_fiE n 1 p0) ∧ -14 ≤ (zh_fiE n 1 p0) ∧ (zh_fiE n 1 p0) ≤ 600) (fun (_ : Unit) => zp_B D vwCl [(cA, .int), (cB, .int), (cC, .int)] (va_A [(x, .inr (5, [.int (zi_n ft), .ref a, .int (zi_n n), .int (zi_n rd), .int (zi_n br), .ref a2, .ref a3, .int (zi_n v), .int (zi_n ln)])), (a, .inl (cA, 600, .inl (zi_F F))), (a2, .inl (cB, 600, .inl (zi_F P))), (a3, .inl (cC, 600, .inl (zi_F G)))] sz) [(x, .inr (5, [.int (zi_n 0), .ref a, .int (zi_n (zh_fiN n 1 p0)), .int (zi_n (zh_fiR n rd 1 p0)), .int (zi_n br), .ref a2, .ref a3, .int (zi_n v), .int (zi_n ln)])), (a, .inl (cA, 600, .inl (zi_F (zh_fiF F n 1 p0)))), (a2, .inl (cB, 600, .inl (zi_F P))), (a3, .inl (cC, 600, .inl (zi_F G)))]) (va_A [(x, .inr (5, [.int (zi_n ft), .ref a, .int (zi_n n), .int (zi_n rd), .int (zi_n br), .ref a2, .ref a3, .int (zi_n v), .int (zi_n ln)])), (a, .inl (cA, 600, .inl (zi_F F))), (a2, .inl (cB, 600, .inl (zi_F P))), (a3, .inl (cC, 600, .inl (zi_F G)))] sz)) 0 0 (va_A [(x, .inr (5, [.int (zi_n ft), .ref a, .int (zi_n n), .int (zi_n rd), .int (zi_n br), .ref a2, .ref a3, .int (zi_n v), .int (zi_n ln)])), (a, .inl (cA, 600, .inl (zi_F F))), (a2, .inl (cB, 600, .inl (zi_F P))), (a3, .inl (cC, 600, .inl (zi_F G)))] sz) := by
  refine Met.ofW (cc := cX4_octet) (maxL := 2) (ret := (some .int)) (by decide) rfl ?_
  intro p e s m args below meth c s₁ B hml hv
  obtain ⟨rfl, hsz, hP, hK, hD0⟩ := hv
  have hx := B.exec
  have hb := B.bytes
  have hr := B.returns
  have hts := atoms_spec (ws := wsX4_octet) B.pre
  have hown : s.vm.findClass RX4 = some m.cls := findClass_of_methodNamed B.named
  have hlocks := B.notSynchronized
  subst hsz
  have hD := hD0.self (sz := s.heap.size)
  generalize hAe : va_A [(x, .inr (5, [.int (zi_n ft), .ref a, .int (zi_n n), .int (zi_n rd), .int (zi_n br), .ref a2, .ref a3, .int (zi_n v), .int (zi_n ln)])), (a, .inl (cA, 600, .inl (zi_F F))), (a2, .inl (cB, 600, .inl (zi_F P))), (a3, .inl (cC, 600, .inl (zi_F G)))] s.heap.size = A at hD ⊢
  have hA : ∀ q : Nat, s.heap.size ≤ q → A q := fun q h => by rw [← hAe]; exact Or.inr h
  have hS : va_S A s.heap s.heap [] := va_S.rf
  have hP : va_P D vwCl [(x, .inr (5, [.int (zi_n ft), .ref a, .int (zi_n n), .int (zi_n rd), .int (zi_n br), .ref a2, .ref a3, .int (zi_n v), .int (zi_n ln)])), (a, .inl (cA, 600, .inl (zi_F F))), (a2, .inl (cB, 600, .inl (zi_F P))), (a3, .inl (cC, 600, .inl (zi_F G)))] s.heap := hP
  have hl := lv_entry ([.ref x, .int (zi_n p0)]) (n := 2) (Nat.le_of_ble_eq_true rfl)
  rw [lg_entry_eq]
  generalize (lg_sl ([.ref x, .int (zi_n p0)]) ++ List.replicate (2 - (lg_sl ([.ref x, .int (zi_n p0)])).length) Slot.unset).toArray = ls at hl ⊢
  have hl : lv_has ls 2 [(0, .ref x), (1, .int (zi_n p0))] := hl
  refine lv_aload_n hx hb dX4_octet_0 rfl (lv_at hl 0 rfl) ?_
  refine zr_iconst hx hb dX4_octet_1 ?_
  refine lv_iload_n hx hb dX4_octet_2 rfl (lv_at hl 1 rfl) ?_
  refine zc_Vi (As := [.int (zi_n 1), .int (zi_n p0)]) (rest := []) (wr := []) (wf := fun (_ : Unit) => [(x, .inr (5, [.int (zi_n 0), .ref a, .int (zi_n (zh_fiN n 1 p0)), .int (zi_n (zh_fiR n rd 1 p0)), .int (zi_n br), .ref a2, .ref a3, .int (zi_n v), .int (zi_n ln)])), (a, .inl (cA, 600, .inl (zi_F (zh_fiF F n 1 p0)))), (a2, .inl (cB, 600, .inl (zi_F P))), (a3, .inl (cC, 600, .inl (zi_F G)))]) ⟨hx, hb, hml, hown, hts⟩ (c_M_fill l D x a a2 a3 cA cB cC F P G n rd br v ln ft hF (by omega) hP0 hG (by omega) (by omega) (by omega) (by omega) (by omega) _ 1 p0 (by omega) (by omega)) (cwV 2 hts gX4_octet_X4_fill rfl rfl rfl (by decide +kernel) ⟨(Nat.le_of_ble_eq_true rfl), (Nat.le_of_ble_eq_true rfl)⟩) hP hD hK hS hA [0, 1, 2, 3] [] [0, 1, 2] [0, 1, 2, 3] rfl rfl (by decide) rfl (by decide) (by decide) rfl (fun _ => rfl) (fun _ => rfl) (by decide) (ci := 5) rfl rfl rfl rfl hl.1 rfl (Nat.le_of_ble_eq_true rfl) dX4_octet_3 ⟨Nat.zero_le _, Nat.zero_le _⟩ (fun r _ hr1 H locs hP hD hS => ?_)
  have hF_1 : zi_By (zh_fiF F n 1 p0) := zh_fiF_By hF _ _ _
  have hP : va_P D vwCl [(x, .inr (5, [.int (zi_n 0), .ref a, .int (zi_n (zh_fiN n 1 p0)), .int (zi_n (zh_fiR n rd 1 p0)), .int (zi_n br), .ref a2, .ref a3, .int (zi_n v), .int (zi_n ln)])), (a, .inl (cA, 600, .inl (zi_F (zh_fiF F n 1 p0)))), (a2, .inl (cB, 600, .inl (zi_F P))), (a3, .inl (cC, 600, .inl (zi_F G)))] H := hP
  have hD : va_D A [(x, .inr (5, [.int (zi_n 0), .ref a, .int (zi_n (zh_fiN n 1 p0)), .int (zi_n (zh_fiR n rd 1 p0)), .int (zi_n br), .ref a2, .ref a3, .int (zi_n v), .int (zi_n ln)])), (a, .inl (cA, 600, .inl (zi_F (zh_fiF F n 1 p0)))), (a2, .inl (cB, 600, .inl (zi_F P))), (a3, .inl (cC, 600, .inl (zi_F G)))] := hD
  obtain ⟨rfl, b_2⟩ := hr1
  have hP9 : va_P D vwCl [(x, .inr (5, [.int (zi_n 0), .ref a, .int (zi_n (zh_fiN n 1 p0)), .int (zi_n (zh_fiR n rd 1 p0)), .int (zi_n br), .ref a2, .ref a3, .int (zi_n v), .int (zi_n ln)])), (a, .inl (cA, 600, .inl (zi_F (zh_fiF F n 1 p0)))), (a2, .inl (cB, 600, .inl (zi_F P))), (a3, .inl (cC, 600, .inl (zi_F G)))] H := hP
  have hD9 : va_D A [(x, .inr (5, [.int (zi_n 0), .ref a, .int (zi_n (zh_fiN n 1 p0)), .int (zi_n (zh_fiR n rd 1 p0)), .int (zi_n br), .ref a2, .ref a3, .int (zi_n v), .int (zi_n ln)])), (a, .inl (cA, 600, .inl (zi_F (zh_fiF F n 1 p0)))), (a2, .inl (cB, 600, .inl (zi_F P))), (a3, .inl (cC, 600, .inl (zi_F G)))] := hD
  exact W.iret (v := zi_n (zh_fiE n 1 p0)) hx hb hr (fun t ht hW => ⟨⟨zi_n (zh_fiE n 1 p0), (), rfl, ⟨rfl, by omega⟩, by rw [ht]; exact hP9, va_K.moved hW.alike hK, hD9⟩, hS.F ht⟩) hS.2.2 dX4_octet_6

theorem in_X4_feed_X4 : ∀ w ∈ u_ws RX4 TX4 9, w ∈ wsX4_feed := by decide +kernel
set_option maxHeartbeats 4000000 in
set_option maxRecDepth 100000 in
theorem c_M_feed (l : Launch) (D : va_G) (x a a2 a3 : Nat) (cA cB cC : ClassId) (F P G : Nat → Int) (n rd br v ln ft : Int) (hF : zi_By F) (hn : 0 ≤ n ∧ n ≤ 600) (hP0 : zi_By P) (hG : zi_By G) (hrd : rd = 0 ∨ rd = 1) (hbr : 0 ≤ br ∧ br ≤ 15) (hv0 : 0 ≤ v ∧ v ≤ 255) (hln : 0 ≤ ln ∧ ln ≤ 524280) (hft : 0 ≤ ft ∧ ft ≤ 1) (sz : Nat) (w : Int64) (p0 : Int) (rp0 : zi_R p0) : Met l yX4_feed wsX4_feed ({ frames := 1, cells := 0, slots := 0, locals := 22 }) (va_Pc [.ref x, .long w, .int (zi_n p0)] (zp_P D vwCl sz [(x, .inr (5, [.int (zi_n ft), .ref a, .int (zi_n n), .int (zi_n rd), .int (zi_n br), .ref a2, .ref a3, .int (zi_n v), .int (zi_n ln)])), (a, .inl (cA, 600, .inl (zi_F F))), (a2, .inl (cB, 600, .inl (zi_F P))), (a3, .inl (cC, 600, .inl (zi_F G)))] [(cA, .int), (cB, .int), (cC, .int)])) (va_Qi (fun (r : Int32) (_ : Unit) => r = zi_n (zh_feE n p0) ∧ -14 ≤ (zh_feE n p0) ∧ (zh_feE n p0) ≤ 600) (fun (_ : Unit) => zp_B D vwCl [(cA, .int), (cB, .int), (cC, .int)] (va_A [(x, .inr (5, [.int (zi_n ft), .ref a, .int (zi_n n), .int (zi_n rd), .int (zi_n br), .ref a2, .ref a3, .int (zi_n v), .int (zi_n ln)])), (a, .inl (cA, 600, .inl (zi_F F))), (a2, .inl (cB, 600, .inl (zi_F P))), (a3, .inl (cC, 600, .inl (zi_F G)))] sz) [(x, .inr (5, [.int (zi_n 0), .ref a, .int (zi_n (zh_feN n p0)), .int (zi_n (zh_feR n rd p0)), .int (zi_n br), .ref a2, .ref a3, .int (zi_n v), .int (zi_n ln)])), (a, .inl (cA, 600, .inl (zi_F (zh_feF F n w p0)))), (a2, .inl (cB, 600, .inl (zi_F P))), (a3, .inl (cC, 600, .inl (zi_F G)))]) (va_A [(x, .inr (5, [.int (zi_n ft), .ref a, .int (zi_n n), .int (zi_n rd), .int (zi_n br), .ref a2, .ref a3, .int (zi_n v), .int (zi_n ln)])), (a, .inl (cA, 600, .inl (zi_F F))), (a2, .inl (cB, 600, .inl (zi_F P))), (a3, .inl (cC, 600, .inl (zi_F G)))] sz)) 0 0 (va_A [(x, .inr (5, [.int (zi_n ft), .ref a, .int (zi_n n), .int (zi_n rd), .int (zi_n br), .ref a2, .ref a3, .int (zi_n v), .int (zi_n ln)])), (a, .inl (cA, 600, .inl (zi_F F))), (a2, .inl (cB, 600, .inl (zi_F P))), (a3, .inl (cC, 600, .inl (zi_F G)))] sz) := by
  refine Met.ofW (cc := cX4_feed) (maxL := 5) (ret := (some .int)) (by decide) rfl ?_
  intro p e s m args below meth c s₁ B hml hv
  obtain ⟨rfl, hsz, hP, hK, hD0⟩ := hv
  have hx := B.exec
  have hb := B.bytes
  have hr := B.returns
  have hts := atoms_spec (ws := wsX4_feed) B.pre
  have hown : s.vm.findClass RX4 = some m.cls := findClass_of_methodNamed B.named
  have hlocks := B.notSynchronized
  subst hsz
  have hD := hD0.self (sz := s.heap.size)
  generalize hAe : va_A [(x, .inr (5, [.int (zi_n ft), .ref a, .int (zi_n n), .int (zi_n rd), .int (zi_n br), .ref a2, .ref a3, .int (zi_n v), .int (zi_n ln)])), (a, .inl (cA, 600, .inl (zi_F F))), (a2, .inl (cB, 600, .inl (zi_F P))), (a3, .inl (cC, 600, .inl (zi_F G)))] s.heap.size = A at hD ⊢
  have hA : ∀ q : Nat, s.heap.size ≤ q → A q := fun q h => by rw [← hAe]; exact Or.inr h
  have hS : va_S A s.heap s.heap [] := va_S.rf
  have hP : va_P D vwCl [(x, .inr (5, [.int (zi_n ft), .ref a, .int (zi_n n), .int (zi_n rd), .int (zi_n br), .ref a2, .ref a3, .int (zi_n v), .int (zi_n ln)])), (a, .inl (cA, 600, .inl (zi_F F))), (a2, .inl (cB, 600, .inl (zi_F P))), (a3, .inl (cC, 600, .inl (zi_F G)))] s.heap := hP
  have hl := lv_entry ([.ref x, .long w, .int (zi_n p0)]) (n := 5) (Nat.le_of_ble_eq_true rfl)
  rw [lg_entry_eq]
  generalize (lg_sl ([.ref x, .long w, .int (zi_n p0)]) ++ List.replicate (5 - (lg_sl ([.ref x, .long w, .int (zi_n p0)])).length) Slot.unset).toArray = ls at hl ⊢
  have hl : lv_has ls 5 [(0, .ref x), (1, .long w), (3, .int (zi_n p0))] := hl
  refine lv_aload_n hx hb dX4_feed_0 rfl (lv_at hl 0 rfl) ?_
  refine zr_iconst hx hb dX4_feed_1 ?_
  refine va_put (D := D) (ci := 5) (v := .int (zi_n 0)) (ty := .int) (C := RX4) (T := TX4) (N := 9) hx hb hts in_X4_feed_X4 tyX4 tyX4_ok nmX4 hown hK hP hD hS 0 rfl rfl 0 (by decide) (hts (.fieldLink RX4 19 "ZHeadsModel" "fault" "I") (by decide +kernel)) (fun _ h9 => h9) rfl (by decide +kernel) rfl rfl (Nat.le_of_ble_eq_true rfl) dX4_feed_2 (fun H locs hP hD hS => ?_)
  have hP : va_P D vwCl [(x, .inr (5, [.int (zi_n 0), .ref a, .int (zi_n n), .int (zi_n rd), .int (zi_n br), .ref a2, .ref a3, .int (zi_n v), .int (zi_n ln)])), (a, .inl (cA, 600, .inl (zi_F F))), (a2, .inl (cB, 600, .inl (zi_F P))), (a3, .inl (cC, 600, .inl (zi_F G)))] H := hP
  have hD : va_D A [(x, .inr (5, [.int (zi_n 0), .ref a, .int (zi_n n), .int (zi_n rd), .int (zi_n br), .ref a2, .ref a3, .int (zi_n v), .int (zi_n ln)])), (a, .inl (cA, 600, .inl (zi_F F))), (a2, .inl (cB, 600, .inl (zi_F P))), (a3, .inl (cC, 600, .inl (zi_F G)))] := hD
  refine lv_iload_n hx hb dX4_feed_5 rfl (lv_at hl 2 rfl) ?_
  refine zr_iconst hx hb dX4_feed_6 ?_
  refine zr_bipush hx hb dX4_feed_7 (by decide) ?_
  refine zc_S (As := [.int (zi_n p0), .int (zi_n 1), .int (zi_n 8)]) (rest := []) ⟨hx, hb, hml, hown, hts⟩ (c_M_in l p0 1 8 (by omega) (by omega) (by omega)) (va_cwS 3 hts gX4_feed_X4_in rfl rfl rfl (by decide +kernel) ⟨(Nat.le_of_ble_eq_true rfl), (Nat.le_of_ble_eq_true rfl)⟩) rfl hl.1 rfl (Nat.le_of_ble_eq_true rfl) dX4_feed_9 ⟨Nat.zero_le _, Nat.zero_le _⟩ (fun r hr1 => ?_)
  rcases hr1 with ⟨rfl, c_1⟩ | ⟨rfl, c_1⟩
  · refine zr_if_ne (tgt := 18) hx hb dX4_feed_12 (by decide) (by omega) (fun c_2 => ?_) (fun c => absurd c (by decide))
    refine lv_aload_n hx hb dX4_feed_18 rfl (lv_at hl 0 rfl) ?_
    refine va_get (D := D) (ci := 5) (v := .int (zi_n n)) (C := RX4) (T := TX4) (N := 9) hx hb hts in_X4_feed_X4 hown hK hP 0 rfl rfl 2 (by decide) (hts (.fieldLink RX4 31 "ZHeadsModel" "size" "I") (by decide +kernel)) (fun _ h9 => h9) rfl dX4_feed_19 ?_
    refine lv_iload_n hx hb dX4_feed_22 rfl (lv_at hl 2 rfl) ?_
    refine zr_iadd hx hb dX4_feed_23 ?_
    refine zr_sipush hx hb dX4_feed_24 (by decide) ?_
    refine zr_icmp_le (tgt := 33) hx hb dX4_feed_27 (by decide) (by omega) (by omega) (fun c_3 => ?_) (fun c_3 => ?_)
    · refine lv_iload_n hx hb dX4_feed_33 rfl (lv_at hl 2 rfl) ?_
      refine zr_iconst hx hb dX4_feed_34 ?_
      refine zr_isub hx hb dX4_feed_35 ?_
      refine lv_istore (lv' := [(4, .int (zi_n (p0 - 1))), (0, .ref x), (1, .long w), (3, .int (zi_n p0))]) hx hb dX4_feed_36 hl (by decide) rfl (fun ls hl => ?_)
      have key : ∀ (N : Nat) (kk : Int), (-1 ≤ kk) → (kk ≤ p0 - 1) → kk + 1 < N → ∀ (H : Heap) (locs : List Loc), va_P D vwCl [(x, .inr (5, [.int (zi_n 0), .ref a, .int (zi_n (n + (p0 - 1 - kk))), .int (zi_n rd), .int (zi_n br), .ref a2, .ref a3, .int (zi_n v), .int (zi_n ln)])), (a, .inl (cA, 600, .inl (zi_F (zh_fd F n w p0 (p0 - 1 - kk))))), (a2, .inl (cB, 600, .inl (zi_F P))), (a3, .inl (cC, 600, .inl (zi_F G)))] H → va_D A [(x, .inr (5, [.int (zi_n 0), .ref a, .int (zi_n (n + (p0 - 1 - kk))), .int (zi_n rd), .int (zi_n br), .ref a2, .ref a3, .int (zi_n v), .int (zi_n ln)])), (a, .inl (cA, 600, .inl (zi_F (zh_fd F n w p0 (p0 - 1 - kk))))), (a2, .inl (cB, 600, .inl (zi_F P))), (a3, .inl (cC, 600, .inl (zi_F G)))] → va_S A s.heap H locs → ∀ ls : Array Slot, lv_has ls 5 [(4, .int (zi_n kk)), (0, .ref x), (1, .long w), (3, .int (zi_n p0))] → W p l e (headSpec wsX4_feed ({ frames := 1, cells := 0, slots := 0, locals := 22 })).room s m ([.ref x, .long w, .int (zi_n p0)] : List Value).toArray below meth c H locs 0 0 (MQ below (va_Qi (fun (r : Int32) (_ : Unit) => r = zi_n (zh_feE n p0) ∧ -14 ≤ (zh_feE n p0) ∧ (zh_feE n p0) ≤ 600) (fun (_ : Unit) => zp_B D vwCl [(cA, .int), (cB, .int), (cC, .int)] A [(x, .inr (5, [.int (zi_n 0), .ref a, .int (zi_n (zh_feN n p0)), .int (zi_n (zh_feR n rd p0)), .int (zi_n br), .ref a2, .ref a3, .int (zi_n v), .int (zi_n ln)])), (a, .inl (cA, 600, .inl (zi_F (zh_feF F n w p0)))), (a2, .inl (cB, 600, .inl (zi_F P))), (a3, .inl (cC, 600, .inl (zi_F G)))]) A) ([.ref x, .long w, .int (zi_n p0)] : List Value).toArray s 0 0 A) (F0 m 38 ls []) := by
        intro N
        induction N with
        | zero => intro kk  h1 h2 hm H locs hP hD hS ls hl; exfalso; omega
        | succ N ih =>
          intro kk  h1 h2 hm H locs hP hD hS ls hl
          have hFi : zi_By (zh_fd F n w p0 (p0 - 1 - kk)) := zh_fd_By hF _ _ _ _
          refine lv_iload hx hb dX4_feed_38 (lv_at hl 0 rfl) ?_
          refine zr_if_lt (tgt := 80) hx hb dX4_feed_40 (by decide) (by omega) (fun c_4 => ?_) (fun c_4 => ?_)
          · refine lv_aload_n hx hb dX4_feed_80 rfl (lv_at hl 1 rfl) ?_
            refine zr_iconst hx hb dX4_feed_81 ?_
            refine va_put (D := D) (ci := 5) (v := .int (zi_n 0)) (ty := .boolean) (C := RX4) (T := TX4) (N := 9) hx hb hts in_X4_feed_X4 tyX4 tyX4_ok nmX4 hown hK hP hD hS 0 rfl rfl 3 (by decide) (hts (.fieldLink RX4 36 "ZHeadsModel" "isRead" "Z") (by decide +kernel)) (fun _ h9 => h9) rfl (by decide +kernel) (by decide) rfl (Nat.le_of_ble_eq_true rfl) dX4_feed_82 (fun H locs hP hD hS => ?_)
            have hP : va_P D vwCl [(x, .inr (5, [.int (zi_n 0), .ref a, .int (zi_n (n + (p0 - 1 - kk))), .int (zi_n 0), .int (zi_n br), .ref a2, .ref a3, .int (zi_n v), .int (zi_n ln)])), (a, .inl (cA, 600, .inl (zi_F (zh_fd F n w p0 (p0 - 1 - kk))))), (a2, .inl (cB, 600, .inl (zi_F P))), (a3, .inl (cC, 600, .inl (zi_F G)))] H := hP
            have hD : va_D A [(x, .inr (5, [.int (zi_n 0), .ref a, .int (zi_n (n + (p0 - 1 - kk))), .int (zi_n 0), .int (zi_n br), .ref a2, .ref a3, .int (zi_n v), .int (zi_n ln)])), (a, .inl (cA, 600, .inl (zi_F (zh_fd F n w p0 (p0 - 1 - kk))))), (a2, .inl (cB, 600, .inl (zi_F P))), (a3, .inl (cC, 600, .inl (zi_F G)))] := hD
            refine lv_aload_n hx hb dX4_feed_85 rfl (lv_at hl 1 rfl) ?_
            refine va_get (D := D) (ci := 5) (v := .int (zi_n (n + (p0 - 1 - kk)))) (C := RX4) (T := TX4) (N := 9) hx hb hts in_X4_feed_X4 hown hK hP 0 rfl rfl 2 (by decide) (hts (.fieldLink RX4 31 "ZHeadsModel" "size" "I") (by decide +kernel)) (fun _ h9 => h9) rfl dX4_feed_86 ?_
            have e_n_5_0 : zh_feN n p0 = n + (p0 - 1 - kk) := by unfold zh_feN zh_apN; (repeat' split) <;> omega
            have e_n_5_1 : zh_feR n rd p0 = 0 := by unfold zh_feR zh_apR; (repeat' split) <;> omega
            have e_n_5_2 : zh_feF F n w p0 = zh_fd F n w p0 (p0 - 1 - kk) := by unfold zh_feF; first | (rw [if_pos (by omega), show p0 - 1 - kk = p0 by omega]; done) | (rw [if_neg (by omega)]; done)
            have hP9 : va_P D vwCl [(x, .inr (5, [.int (zi_n 0), .ref a, .int (zi_n (zh_feN n p0)), .int (zi_n (zh_feR n rd p0)), .int (zi_n br), .ref a2, .ref a3, .int (zi_n v), .int (zi_n ln)])), (a, .inl (cA, 600, .inl (zi_F (zh_feF F n w p0)))), (a2, .inl (cB, 600, .inl (zi_F P))), (a3, .inl (cC, 600, .inl (zi_F G)))] H := by rw [e_n_5_0, e_n_5_1, e_n_5_2]; exact hP
            have hD9 : va_D A [(x, .inr (5, [.int (zi_n 0), .ref a, .int (zi_n (zh_feN n p0)), .int (zi_n (zh_feR n rd p0)), .int (zi_n br), .ref a2, .ref a3, .int (zi_n v), .int (zi_n ln)])), (a, .inl (cA, 600, .inl (zi_F (zh_feF F n w p0)))), (a2, .inl (cB, 600, .inl (zi_F P))), (a3, .inl (cC, 600, .inl (zi_F G)))] := by rw [e_n_5_0, e_n_5_1, e_n_5_2]; exact hD
            exact W.iret (v := zi_n (n + (p0 - 1 - kk))) hx hb hr (fun t ht hW => ⟨⟨zi_n (n + (p0 - 1 - kk)), (), rfl, zl_r (by unfold zh_feE zh_apE; (repeat' split) <;> omega) (by omega), by rw [ht]; exact hP9, va_K.moved hW.alike hK, hD9⟩, hS.F ht⟩) hS.2.2 dX4_feed_89
          · refine lv_aload_n hx hb dX4_feed_43 rfl (lv_at hl 1 rfl) ?_
            refine va_get (D := D) (ci := 5) (v := .ref a) (C := RX4) (T := TX4) (N := 9) hx hb hts in_X4_feed_X4 hown hK hP 0 rfl rfl 1 (by decide) (hts (.fieldLink RX4 7 "ZHeadsModel" "file" "[I") (by decide +kernel)) (fun _ h9 => h9) rfl dX4_feed_44 ?_
            refine lv_aload_n hx hb dX4_feed_47 rfl (lv_at hl 1 rfl) ?_
            refine va_get (D := D) (ci := 5) (v := .int (zi_n (n + (p0 - 1 - kk)))) (C := RX4) (T := TX4) (N := 9) hx hb hts in_X4_feed_X4 hown hK hP 0 rfl rfl 2 (by decide) (hts (.fieldLink RX4 31 "ZHeadsModel" "size" "I") (by decide +kernel)) (fun _ h9 => h9) rfl dX4_feed_48 ?_
            refine lv_lload_n hx hb dX4_feed_51 rfl (lv_at hl 2 rfl) ?_
            refine zr_bipush hx hb dX4_feed_52 (by decide) ?_
            refine lv_iload hx hb dX4_feed_54 (lv_at hl 0 rfl) ?_
            refine zr_imul hx hb dX4_feed_56 ?_
            refine lv_lshr hx hb dX4_feed_57 rfl ?_
            refine lv_ldc2 (v := 255) hx hb hown (hts (.constantLong RX4 34 (255)) (by decide +kernel)) dX4_feed_58 ?_
            refine lv_land hx hb dX4_feed_61 ?_
            refine zr_l2is (w := w) (k := kk) hx hb (by omega) dX4_feed_62 ?_
            have b_6 := zh_wb_b w (kk)
            refine zr_iast (x := zh_wb w kk) hx hb hK hP hD hS 1 0 rfl rfl (by decide) (by omega) dX4_feed_63 (fun H locs hP hD hS => ?_)
            have hF_7 : zi_By (zi_up (zh_fd F n w p0 (p0 - 1 - kk)) (n + (p0 - 1 - kk)).toNat (zh_wb w kk)) := zi_up_By hFi _ (by omega)
            have hP : va_P D vwCl [(x, .inr (5, [.int (zi_n 0), .ref a, .int (zi_n (n + (p0 - 1 - kk))), .int (zi_n rd), .int (zi_n br), .ref a2, .ref a3, .int (zi_n v), .int (zi_n ln)])), (a, .inl (cA, 600, .inl (zi_F (zi_up (zh_fd F n w p0 (p0 - 1 - kk)) (n + (p0 - 1 - kk)).toNat (zh_wb w kk))))), (a2, .inl (cB, 600, .inl (zi_F P))), (a3, .inl (cC, 600, .inl (zi_F G)))] H := hP
            have hD : va_D A [(x, .inr (5, [.int (zi_n 0), .ref a, .int (zi_n (n + (p0 - 1 - kk))), .int (zi_n rd), .int (zi_n br), .ref a2, .ref a3, .int (zi_n v), .int (zi_n ln)])), (a, .inl (cA, 600, .inl (zi_F (zi_up (zh_fd F n w p0 (p0 - 1 - kk)) (n + (p0 - 1 - kk)).toNat (zh_wb w kk))))), (a2, .inl (cB, 600, .inl (zi_F P))), (a3, .inl (cC, 600, .inl (zi_F G)))] := hD
            refine lv_aload_n hx hb dX4_feed_64 rfl (lv_at hl 1 rfl) ?_
            refine lv_dup hx hb dX4_feed_65 rfl ?_
            refine va_get (D := D) (ci := 5) (v := .int (zi_n (n + (p0 - 1 - kk)))) (C := RX4) (T := TX4) (N := 9) hx hb hts in_X4_feed_X4 hown hK hP 0 rfl rfl 2 (by decide) (hts (.fieldLink RX4 31 "ZHeadsModel" "size" "I") (by decide +kernel)) (fun _ h9 => h9) rfl dX4_feed_66 ?_
            refine zr_iconst hx hb dX4_feed_69 ?_
            refine zr_iadd hx hb dX4_feed_70 ?_
            refine va_put (D := D) (ci := 5) (v := .int (zi_n ((n + (p0 - 1 - kk)) + 1))) (ty := .int) (C := RX4) (T := TX4) (N := 9) hx hb hts in_X4_feed_X4 tyX4 tyX4_ok nmX4 hown hK hP hD hS 0 rfl rfl 2 (by decide) (hts (.fieldLink RX4 31 "ZHeadsModel" "size" "I") (by decide +kernel)) (fun _ h9 => h9) rfl (by decide +kernel) rfl rfl (Nat.le_of_ble_eq_true rfl) dX4_feed_71 (fun H locs hP hD hS => ?_)
            have hP : va_P D vwCl [(x, .inr (5, [.int (zi_n 0), .ref a, .int (zi_n ((n + (p0 - 1 - kk)) + 1)), .int (zi_n rd), .int (zi_n br), .ref a2, .ref a3, .int (zi_n v), .int (zi_n ln)])), (a, .inl (cA, 600, .inl (zi_F (zi_up (zh_fd F n w p0 (p0 - 1 - kk)) (n + (p0 - 1 - kk)).toNat (zh_wb w kk))))), (a2, .inl (cB, 600, .inl (zi_F P))), (a3, .inl (cC, 600, .inl (zi_F G)))] H := hP
            have hD : va_D A [(x, .inr (5, [.int (zi_n 0), .ref a, .int (zi_n ((n + (p0 - 1 - kk)) + 1)), .int (zi_n rd), .int (zi_n br), .ref a2, .ref a3, .int (zi_n v), .int (zi_n ln)])), (a, .inl (cA, 600, .inl (zi_F (zi_up (zh_fd F n w p0 (p0 - 1 - kk)) (n + (p0 - 1 - kk)).toNat (zh_wb w kk))))), (a2, .inl (cB, 600, .inl (zi_F P))), (a3, .inl (cC, 600, .inl (zi_F G)))] := hD
            refine zr_iinc (lv' := [(4, .int (zi_n (kk + (-1)))), (0, .ref x), (1, .long w), (3, .int (zi_n p0))]) hx hb dX4_feed_74 hl (k := 0) rfl (by decide) rfl (fun ls hl => ?_)
            refine lv_goto (tgt := 38) hx hb dX4_feed_77 (by decide) ?_
            have e1 : zi_up (zh_fd F n w p0 (p0 - 1 - kk)) (n + (p0 - 1 - kk)).toNat (zh_wb w kk) = zh_fd F n w p0 (p0 - 1 - (kk + -1)) := by have h9 := zh_fd_s (F := F) (n := n) (w := w) (c := p0) (i := p0 - 1 - kk) (by omega) (by omega); rw [show p0 - 1 - (p0 - 1 - kk) = kk by omega, show p0 - 1 - kk + 1 = p0 - 1 - (kk + -1) by omega] at h9; exact h9
            have e2 : n + (p0 - 1 - kk) + 1 = n + (p0 - 1 - (kk + -1)) := by omega
            rw [e1] at hP hD; rw [e2] at hP hD
            exact ih (kk + (-1)) (by omega) (by omega) (by omega) H locs hP hD hS _ (lv_sub hl [0, 1, 2, 3] rfl)
      have e0 : zh_fd F n w p0 (p0 - 1 - (p0 - 1)) = F := by rw [show p0 - 1 - (p0 - 1) = 0 by omega]; exact zh_fd_0 F n w p0
      have e00 : n + (p0 - 1 - (p0 - 1)) = n := by omega
      exact key 10 (p0 - 1) (by omega) (by omega) (by omega) _ _ (by rw [e0]; rw [e00]; exact hP) (by rw [e0]; rw [e00]; exact hD) hS _ hl
    · refine zr_bipush hx hb dX4_feed_30 (by decide) ?_
      have e_n_8_0 : zh_feN n p0 = n := by unfold zh_feN zh_apN; (repeat' split) <;> omega
      have e_n_8_1 : zh_feR n rd p0 = rd := by unfold zh_feR zh_apR; (repeat' split) <;> omega
      have e_n_8_2 : zh_feF F n w p0 = F := by unfold zh_feF; first | (rw [if_pos (by omega), show p0 - 1 - kk = p0 by omega]; done) | (rw [if_neg (by omega)]; done)
      have hP9 : va_P D vwCl [(x, .inr (5, [.int (zi_n 0), .ref a, .int (zi_n (zh_feN n p0)), .int (zi_n (zh_feR n rd p0)), .int (zi_n br), .ref a2, .ref a3, .int (zi_n v), .int (zi_n ln)])), (a, .inl (cA, 600, .inl (zi_F (zh_feF F n w p0)))), (a2, .inl (cB, 600, .inl (zi_F P))), (a3, .inl (cC, 600, .inl (zi_F G)))] H := by rw [e_n_8_0, e_n_8_1, e_n_8_2]; exact hP
      have hD9 : va_D A [(x, .inr (5, [.int (zi_n 0), .ref a, .int (zi_n (zh_feN n p0)), .int (zi_n (zh_feR n rd p0)), .int (zi_n br), .ref a2, .ref a3, .int (zi_n v), .int (zi_n ln)])), (a, .inl (cA, 600, .inl (zi_F (zh_feF F n w p0)))), (a2, .inl (cB, 600, .inl (zi_F P))), (a3, .inl (cC, 600, .inl (zi_F G)))] := by rw [e_n_8_0, e_n_8_1, e_n_8_2]; exact hD
      exact W.iret (v := zi_n (-14)) hx hb hr (fun t ht hW => ⟨⟨zi_n (-14), (), rfl, zl_r (by unfold zh_feE zh_apE; (repeat' split) <;> omega) (by omega), by rw [ht]; exact hP9, va_K.moved hW.alike hK, hD9⟩, hS.F ht⟩) hS.2.2 dX4_feed_32
  · refine zr_if_ne (tgt := 18) hx hb dX4_feed_12 (by decide) (by omega) (fun c => absurd c (by decide)) (fun c_9 => ?_)
    refine zr_bipush hx hb dX4_feed_15 (by decide) ?_
    have e_n_10_0 : zh_feN n p0 = n := by unfold zh_feN zh_apN; (repeat' split) <;> omega
    have e_n_10_1 : zh_feR n rd p0 = rd := by unfold zh_feR zh_apR; (repeat' split) <;> omega
    have e_n_10_2 : zh_feF F n w p0 = F := by unfold zh_feF; first | (rw [if_pos (by omega), show p0 - 1 - kk = p0 by omega]; done) | (rw [if_neg (by omega)]; done)
    have hP9 : va_P D vwCl [(x, .inr (5, [.int (zi_n 0), .ref a, .int (zi_n (zh_feN n p0)), .int (zi_n (zh_feR n rd p0)), .int (zi_n br), .ref a2, .ref a3, .int (zi_n v), .int (zi_n ln)])), (a, .inl (cA, 600, .inl (zi_F (zh_feF F n w p0)))), (a2, .inl (cB, 600, .inl (zi_F P))), (a3, .inl (cC, 600, .inl (zi_F G)))] H := by rw [e_n_10_0, e_n_10_1, e_n_10_2]; exact hP
    have hD9 : va_D A [(x, .inr (5, [.int (zi_n 0), .ref a, .int (zi_n (zh_feN n p0)), .int (zi_n (zh_feR n rd p0)), .int (zi_n br), .ref a2, .ref a3, .int (zi_n v), .int (zi_n ln)])), (a, .inl (cA, 600, .inl (zi_F (zh_feF F n w p0)))), (a2, .inl (cB, 600, .inl (zi_F P))), (a3, .inl (cC, 600, .inl (zi_F G)))] := by rw [e_n_10_0, e_n_10_1, e_n_10_2]; exact hD
    exact W.iret (v := zi_n (-12)) hx hb hr (fun t ht hW => ⟨⟨zi_n (-12), (), rfl, zl_r (by unfold zh_feE zh_apE; (repeat' split) <;> omega) (by omega), by rw [ht]; exact hP9, va_K.moved hW.alike hK, hD9⟩, hS.F ht⟩) hS.2.2 dX4_feed_17

theorem in_X4_poke_X4 : ∀ w ∈ u_ws RX4 TX4 9, w ∈ wsX4_poke := by decide +kernel
set_option maxHeartbeats 4000000 in
set_option maxRecDepth 100000 in
theorem c_M_poke (l : Launch) (D : va_G) (x a a2 a3 : Nat) (cA cB cC : ClassId) (F P G : Nat → Int) (n rd br v ln ft : Int) (hF : zi_By F) (hn : 0 ≤ n ∧ n ≤ 600) (hP0 : zi_By P) (hG : zi_By G) (hrd : rd = 0 ∨ rd = 1) (hbr : 0 ≤ br ∧ br ≤ 15) (hv0 : 0 ≤ v ∧ v ≤ 255) (hln : 0 ≤ ln ∧ ln ≤ 524280) (hft : 0 ≤ ft ∧ ft ≤ 1) (sz : Nat) (p0 : Int) (p1 : Int) (rp0 : zi_R p0) (rp1 : zi_R p1) : Met l yX4_poke wsX4_poke ({ frames := 1, cells := 0, slots := 0, locals := 22 }) (va_Pc [.ref x, .int (zi_n p0), .int (zi_n p1)] (zp_P D vwCl sz [(x, .inr (5, [.int (zi_n ft), .ref a, .int (zi_n n), .int (zi_n rd), .int (zi_n br), .ref a2, .ref a3, .int (zi_n v), .int (zi_n ln)])), (a, .inl (cA, 600, .inl (zi_F F))), (a2, .inl (cB, 600, .inl (zi_F P))), (a3, .inl (cC, 600, .inl (zi_F G)))] [(cA, .int), (cB, .int), (cC, .int)])) (va_Qi (fun (r : Int32) (_ : Unit) => r = zi_n (zh_poE F n p0 p1) ∧ -12 ≤ (zh_poE F n p0 p1) ∧ (zh_poE F n p0 p1) ≤ 255) (fun (_ : Unit) => zp_B D vwCl [(cA, .int), (cB, .int), (cC, .int)] (va_A [(x, .inr (5, [.int (zi_n ft), .ref a, .int (zi_n n), .int (zi_n rd), .int (zi_n br), .ref a2, .ref a3, .int (zi_n v), .int (zi_n ln)])), (a, .inl (cA, 600, .inl (zi_F F))), (a2, .inl (cB, 600, .inl (zi_F P))), (a3, .inl (cC, 600, .inl (zi_F G)))] sz) [(x, .inr (5, [.int (zi_n 0), .ref a, .int (zi_n n), .int (zi_n (zh_poR n rd p0 p1)), .int (zi_n br), .ref a2, .ref a3, .int (zi_n v), .int (zi_n ln)])), (a, .inl (cA, 600, .inl (zi_F (zh_poF F n p0 p1)))), (a2, .inl (cB, 600, .inl (zi_F P))), (a3, .inl (cC, 600, .inl (zi_F G)))]) (va_A [(x, .inr (5, [.int (zi_n ft), .ref a, .int (zi_n n), .int (zi_n rd), .int (zi_n br), .ref a2, .ref a3, .int (zi_n v), .int (zi_n ln)])), (a, .inl (cA, 600, .inl (zi_F F))), (a2, .inl (cB, 600, .inl (zi_F P))), (a3, .inl (cC, 600, .inl (zi_F G)))] sz)) 0 0 (va_A [(x, .inr (5, [.int (zi_n ft), .ref a, .int (zi_n n), .int (zi_n rd), .int (zi_n br), .ref a2, .ref a3, .int (zi_n v), .int (zi_n ln)])), (a, .inl (cA, 600, .inl (zi_F F))), (a2, .inl (cB, 600, .inl (zi_F P))), (a3, .inl (cC, 600, .inl (zi_F G)))] sz) := by
  refine Met.ofW (cc := cX4_poke) (maxL := 4) (ret := (some .int)) (by decide) rfl ?_
  intro p e s m args below meth c s₁ B hml hv
  obtain ⟨rfl, hsz, hP, hK, hD0⟩ := hv
  have hx := B.exec
  have hb := B.bytes
  have hr := B.returns
  have hts := atoms_spec (ws := wsX4_poke) B.pre
  have hown : s.vm.findClass RX4 = some m.cls := findClass_of_methodNamed B.named
  have hlocks := B.notSynchronized
  subst hsz
  have hD := hD0.self (sz := s.heap.size)
  generalize hAe : va_A [(x, .inr (5, [.int (zi_n ft), .ref a, .int (zi_n n), .int (zi_n rd), .int (zi_n br), .ref a2, .ref a3, .int (zi_n v), .int (zi_n ln)])), (a, .inl (cA, 600, .inl (zi_F F))), (a2, .inl (cB, 600, .inl (zi_F P))), (a3, .inl (cC, 600, .inl (zi_F G)))] s.heap.size = A at hD ⊢
  have hA : ∀ q : Nat, s.heap.size ≤ q → A q := fun q h => by rw [← hAe]; exact Or.inr h
  have hS : va_S A s.heap s.heap [] := va_S.rf
  have hP : va_P D vwCl [(x, .inr (5, [.int (zi_n ft), .ref a, .int (zi_n n), .int (zi_n rd), .int (zi_n br), .ref a2, .ref a3, .int (zi_n v), .int (zi_n ln)])), (a, .inl (cA, 600, .inl (zi_F F))), (a2, .inl (cB, 600, .inl (zi_F P))), (a3, .inl (cC, 600, .inl (zi_F G)))] s.heap := hP
  have hl := lv_entry ([.ref x, .int (zi_n p0), .int (zi_n p1)]) (n := 4) (Nat.le_of_ble_eq_true rfl)
  rw [lg_entry_eq]
  generalize (lg_sl ([.ref x, .int (zi_n p0), .int (zi_n p1)]) ++ List.replicate (4 - (lg_sl ([.ref x, .int (zi_n p0), .int (zi_n p1)])).length) Slot.unset).toArray = ls at hl ⊢
  have hl : lv_has ls 4 [(0, .ref x), (1, .int (zi_n p0)), (2, .int (zi_n p1))] := hl
  refine lv_aload_n hx hb dX4_poke_0 rfl (lv_at hl 0 rfl) ?_
  refine zr_iconst hx hb dX4_poke_1 ?_
  refine va_put (D := D) (ci := 5) (v := .int (zi_n 0)) (ty := .int) (C := RX4) (T := TX4) (N := 9) hx hb hts in_X4_poke_X4 tyX4 tyX4_ok nmX4 hown hK hP hD hS 0 rfl rfl 0 (by decide) (hts (.fieldLink RX4 19 "ZHeadsModel" "fault" "I") (by decide +kernel)) (fun _ h9 => h9) rfl (by decide +kernel) rfl rfl (Nat.le_of_ble_eq_true rfl) dX4_poke_2 (fun H locs hP hD hS => ?_)
  have hP : va_P D vwCl [(x, .inr (5, [.int (zi_n 0), .ref a, .int (zi_n n), .int (zi_n rd), .int (zi_n br), .ref a2, .ref a3, .int (zi_n v), .int (zi_n ln)])), (a, .inl (cA, 600, .inl (zi_F F))), (a2, .inl (cB, 600, .inl (zi_F P))), (a3, .inl (cC, 600, .inl (zi_F G)))] H := hP
  have hD : va_D A [(x, .inr (5, [.int (zi_n 0), .ref a, .int (zi_n n), .int (zi_n rd), .int (zi_n br), .ref a2, .ref a3, .int (zi_n v), .int (zi_n ln)])), (a, .inl (cA, 600, .inl (zi_F F))), (a2, .inl (cB, 600, .inl (zi_F P))), (a3, .inl (cC, 600, .inl (zi_F G)))] := hD
  refine lv_iload_n hx hb dX4_poke_5 rfl (lv_at hl 1 rfl) ?_
  refine zr_iconst hx hb dX4_poke_6 ?_
  refine lv_aload_n hx hb dX4_poke_7 rfl (lv_at hl 0 rfl) ?_
  refine va_get (D := D) (ci := 5) (v := .int (zi_n n)) (C := RX4) (T := TX4) (N := 9) hx hb hts in_X4_poke_X4 hown hK hP 0 rfl rfl 2 (by decide) (hts (.fieldLink RX4 31 "ZHeadsModel" "size" "I") (by decide +kernel)) (fun _ h9 => h9) rfl dX4_poke_8 ?_
  refine zr_iconst hx hb dX4_poke_11 ?_
  refine zr_isub hx hb dX4_poke_12 ?_
  refine zc_S (As := [.int (zi_n p0), .int (zi_n 0), .int (zi_n (n - 1))]) (rest := []) ⟨hx, hb, hml, hown, hts⟩ (c_M_in l p0 0 (n - 1) (by omega) (by omega) (by omega)) (va_cwS 3 hts gX4_poke_X4_in rfl rfl rfl (by decide +kernel) ⟨(Nat.le_of_ble_eq_true rfl), (Nat.le_of_ble_eq_true rfl)⟩) rfl hl.1 rfl (Nat.le_of_ble_eq_true rfl) dX4_poke_13 ⟨Nat.zero_le _, Nat.zero_le _⟩ (fun r hr1 => ?_)
  rcases hr1 with ⟨rfl, c_1⟩ | ⟨rfl, c_1⟩
  · refine zr_if_eq (tgt := 30) hx hb dX4_poke_16 (by decide) (by omega) (fun c => absurd c (by decide)) (fun c_2 => ?_)
    refine lv_iload_n hx hb dX4_poke_19 rfl (lv_at hl 2 rfl) ?_
    refine zr_iconst hx hb dX4_poke_20 ?_
    refine zr_sipush hx hb dX4_poke_21 (by decide) ?_
    refine zc_S (As := [.int (zi_n p1), .int (zi_n 0), .int (zi_n 255)]) (rest := []) ⟨hx, hb, hml, hown, hts⟩ (c_M_in l p1 0 255 (by omega) (by omega) (by omega)) (va_cwS 3 hts gX4_poke_X4_in rfl rfl rfl (by decide +kernel) ⟨(Nat.le_of_ble_eq_true rfl), (Nat.le_of_ble_eq_true rfl)⟩) rfl hl.1 rfl (Nat.le_of_ble_eq_true rfl) dX4_poke_24 ⟨Nat.zero_le _, Nat.zero_le _⟩ (fun r hr1 => ?_)
    rcases hr1 with ⟨rfl, c_3⟩ | ⟨rfl, c_3⟩
    · refine zr_if_ne (tgt := 33) hx hb dX4_poke_27 (by decide) (by omega) (fun c_4 => ?_) (fun c => absurd c (by decide))
      refine lv_aload_n hx hb dX4_poke_33 rfl (lv_at hl 0 rfl) ?_
      refine va_get (D := D) (ci := 5) (v := .ref a) (C := RX4) (T := TX4) (N := 9) hx hb hts in_X4_poke_X4 hown hK hP 0 rfl rfl 1 (by decide) (hts (.fieldLink RX4 7 "ZHeadsModel" "file" "[I") (by decide +kernel)) (fun _ h9 => h9) rfl dX4_poke_34 ?_
      refine lv_iload_n hx hb dX4_poke_37 rfl (lv_at hl 1 rfl) ?_
      refine zr_iald hx hb hK hP 1 0 rfl rfl (by decide) (by omega) dX4_poke_38 ?_
      have b_5 := hF p0.toNat
      refine lv_istore_n (lv' := [(3, .int (zi_n (F p0.toNat))), (0, .ref x), (1, .int (zi_n p0)), (2, .int (zi_n p1))]) hx hb dX4_poke_39 rfl hl (by decide) rfl (fun ls hl => ?_)
      refine lv_aload_n hx hb dX4_poke_40 rfl (lv_at hl 1 rfl) ?_
      refine va_get (D := D) (ci := 5) (v := .ref a) (C := RX4) (T := TX4) (N := 9) hx hb hts in_X4_poke_X4 hown hK hP 0 rfl rfl 1 (by decide) (hts (.fieldLink RX4 7 "ZHeadsModel" "file" "[I") (by decide +kernel)) (fun _ h9 => h9) rfl dX4_poke_41 ?_
      refine lv_iload_n hx hb dX4_poke_44 rfl (lv_at hl 2 rfl) ?_
      refine lv_iload_n hx hb dX4_poke_45 rfl (lv_at hl 3 rfl) ?_
      refine zr_iast (x := p1) hx hb hK hP hD hS 1 0 rfl rfl (by decide) (by omega) dX4_poke_46 (fun H locs hP hD hS => ?_)
      have hF_6 : zi_By (zi_up F p0.toNat p1) := zi_up_By hF _ (by omega)
      have hP : va_P D vwCl [(x, .inr (5, [.int (zi_n 0), .ref a, .int (zi_n n), .int (zi_n rd), .int (zi_n br), .ref a2, .ref a3, .int (zi_n v), .int (zi_n ln)])), (a, .inl (cA, 600, .inl (zi_F (zi_up F p0.toNat p1)))), (a2, .inl (cB, 600, .inl (zi_F P))), (a3, .inl (cC, 600, .inl (zi_F G)))] H := hP
      have hD : va_D A [(x, .inr (5, [.int (zi_n 0), .ref a, .int (zi_n n), .int (zi_n rd), .int (zi_n br), .ref a2, .ref a3, .int (zi_n v), .int (zi_n ln)])), (a, .inl (cA, 600, .inl (zi_F (zi_up F p0.toNat p1)))), (a2, .inl (cB, 600, .inl (zi_F P))), (a3, .inl (cC, 600, .inl (zi_F G)))] := hD
      refine lv_aload_n hx hb dX4_poke_47 rfl (lv_at hl 1 rfl) ?_
      refine zr_iconst hx hb dX4_poke_48 ?_
      refine va_put (D := D) (ci := 5) (v := .int (zi_n 0)) (ty := .boolean) (C := RX4) (T := TX4) (N := 9) hx hb hts in_X4_poke_X4 tyX4 tyX4_ok nmX4 hown hK hP hD hS 0 rfl rfl 3 (by decide) (hts (.fieldLink RX4 36 "ZHeadsModel" "isRead" "Z") (by decide +kernel)) (fun _ h9 => h9) rfl (by decide +kernel) (by decide) rfl (Nat.le_of_ble_eq_true rfl) dX4_poke_49 (fun H locs hP hD hS => ?_)
      have hP : va_P D vwCl [(x, .inr (5, [.int (zi_n 0), .ref a, .int (zi_n n), .int (zi_n 0), .int (zi_n br), .ref a2, .ref a3, .int (zi_n v), .int (zi_n ln)])), (a, .inl (cA, 600, .inl (zi_F (zi_up F p0.toNat p1)))), (a2, .inl (cB, 600, .inl (zi_F P))), (a3, .inl (cC, 600, .inl (zi_F G)))] H := hP
      have hD : va_D A [(x, .inr (5, [.int (zi_n 0), .ref a, .int (zi_n n), .int (zi_n 0), .int (zi_n br), .ref a2, .ref a3, .int (zi_n v), .int (zi_n ln)])), (a, .inl (cA, 600, .inl (zi_F (zi_up F p0.toNat p1)))), (a2, .inl (cB, 600, .inl (zi_F P))), (a3, .inl (cC, 600, .inl (zi_F G)))] := hD
      refine lv_iload_n hx hb dX4_poke_52 rfl (lv_at hl 0 rfl) ?_
      have e_n_7_0 : zh_poR n rd p0 p1 = 0 := by unfold zh_poR; first | (exfalso; omega; done) | (rw [if_pos (by omega)]; done) | (rw [if_neg (by omega)]; done) | (rw [if_neg (by omega), if_pos (by omega)]; done) | (rw [if_neg (by omega), if_neg (by omega)]; done)
      have e_n_7_1 : zh_poF F n p0 p1 = zi_up F p0.toNat p1 := by unfold zh_poF; first | (exfalso; omega; done) | (rw [if_pos (by omega)]; done) | (rw [if_neg (by omega)]; done) | (rw [if_neg (by omega), if_pos (by omega)]; done) | (rw [if_neg (by omega), if_neg (by omega)]; done)
      have hP9 : va_P D vwCl [(x, .inr (5, [.int (zi_n 0), .ref a, .int (zi_n n), .int (zi_n (zh_poR n rd p0 p1)), .int (zi_n br), .ref a2, .ref a3, .int (zi_n v), .int (zi_n ln)])), (a, .inl (cA, 600, .inl (zi_F (zh_poF F n p0 p1)))), (a2, .inl (cB, 600, .inl (zi_F P))), (a3, .inl (cC, 600, .inl (zi_F G)))] H := by rw [e_n_7_0, e_n_7_1]; exact hP
      have hD9 : va_D A [(x, .inr (5, [.int (zi_n 0), .ref a, .int (zi_n n), .int (zi_n (zh_poR n rd p0 p1)), .int (zi_n br), .ref a2, .ref a3, .int (zi_n v), .int (zi_n ln)])), (a, .inl (cA, 600, .inl (zi_F (zh_poF F n p0 p1)))), (a2, .inl (cB, 600, .inl (zi_F P))), (a3, .inl (cC, 600, .inl (zi_F G)))] := by rw [e_n_7_0, e_n_7_1]; exact hD
      exact W.iret (v := zi_n (F p0.toNat)) hx hb hr (fun t ht hW => ⟨⟨zi_n (F p0.toNat), (), rfl, zl_r (by unfold zh_poE; first | (exfalso; omega; done) | (rw [if_pos (by omega)]; done) | (rw [if_neg (by omega)]; done) | (rw [if_neg (by omega), if_pos (by omega)]; done) | (rw [if_neg (by omega), if_neg (by omega)]; done)) (by omega), by rw [ht]; exact hP9, va_K.moved hW.alike hK, hD9⟩, hS.F ht⟩) hS.2.2 dX4_poke_53
    · refine zr_if_ne (tgt := 33) hx hb dX4_poke_27 (by decide) (by omega) (fun c => absurd c (by decide)) (fun c_8 => ?_)
      refine zr_bipush hx hb dX4_poke_30 (by decide) ?_
      have e_n_9_0 : zh_poR n rd p0 p1 = rd := by unfold zh_poR; first | (exfalso; omega; done) | (rw [if_pos (by omega)]; done) | (rw [if_neg (by omega)]; done) | (rw [if_neg (by omega), if_pos (by omega)]; done) | (rw [if_neg (by omega), if_neg (by omega)]; done)
      have e_n_9_1 : zh_poF F n p0 p1 = F := by unfold zh_poF; first | (exfalso; omega; done) | (rw [if_pos (by omega)]; done) | (rw [if_neg (by omega)]; done) | (rw [if_neg (by omega), if_pos (by omega)]; done) | (rw [if_neg (by omega), if_neg (by omega)]; done)
      have hP9 : va_P D vwCl [(x, .inr (5, [.int (zi_n 0), .ref a, .int (zi_n n), .int (zi_n (zh_poR n rd p0 p1)), .int (zi_n br), .ref a2, .ref a3, .int (zi_n v), .int (zi_n ln)])), (a, .inl (cA, 600, .inl (zi_F (zh_poF F n p0 p1)))), (a2, .inl (cB, 600, .inl (zi_F P))), (a3, .inl (cC, 600, .inl (zi_F G)))] H := by rw [e_n_9_0, e_n_9_1]; exact hP
      have hD9 : va_D A [(x, .inr (5, [.int (zi_n 0), .ref a, .int (zi_n n), .int (zi_n (zh_poR n rd p0 p1)), .int (zi_n br), .ref a2, .ref a3, .int (zi_n v), .int (zi_n ln)])), (a, .inl (cA, 600, .inl (zi_F (zh_poF F n p0 p1)))), (a2, .inl (cB, 600, .inl (zi_F P))), (a3, .inl (cC, 600, .inl (zi_F G)))] := by rw [e_n_9_0, e_n_9_1]; exact hD
      exact W.iret (v := zi_n (-12)) hx hb hr (fun t ht hW => ⟨⟨zi_n (-12), (), rfl, zl_r (by unfold zh_poE; first | (exfalso; omega; done) | (rw [if_pos (by omega)]; done) | (rw [if_neg (by omega)]; done) | (rw [if_neg (by omega), if_pos (by omega)]; done) | (rw [if_neg (by omega), if_neg (by omega)]; done)) (by omega), by rw [ht]; exact hP9, va_K.moved hW.alike hK, hD9⟩, hS.F ht⟩) hS.2.2 dX4_poke_32
  · refine zr_if_eq (tgt := 30) hx hb dX4_poke_16 (by decide) (by omega) (fun c_10 => ?_) (fun c => absurd c (by decide))
    refine zr_bipush hx hb dX4_poke_30 (by decide) ?_
    have e_n_11_0 : zh_poR n rd p0 p1 = rd := by unfold zh_poR; first | (exfalso; omega; done) | (rw [if_pos (by omega)]; done) | (rw [if_neg (by omega)]; done) | (rw [if_neg (by omega), if_pos (by omega)]; done) | (rw [if_neg (by omega), if_neg (by omega)]; done)
    have e_n_11_1 : zh_poF F n p0 p1 = F := by unfold zh_poF; first | (exfalso; omega; done) | (rw [if_pos (by omega)]; done) | (rw [if_neg (by omega)]; done) | (rw [if_neg (by omega), if_pos (by omega)]; done) | (rw [if_neg (by omega), if_neg (by omega)]; done)
    have hP9 : va_P D vwCl [(x, .inr (5, [.int (zi_n 0), .ref a, .int (zi_n n), .int (zi_n (zh_poR n rd p0 p1)), .int (zi_n br), .ref a2, .ref a3, .int (zi_n v), .int (zi_n ln)])), (a, .inl (cA, 600, .inl (zi_F (zh_poF F n p0 p1)))), (a2, .inl (cB, 600, .inl (zi_F P))), (a3, .inl (cC, 600, .inl (zi_F G)))] H := by rw [e_n_11_0, e_n_11_1]; exact hP
    have hD9 : va_D A [(x, .inr (5, [.int (zi_n 0), .ref a, .int (zi_n n), .int (zi_n (zh_poR n rd p0 p1)), .int (zi_n br), .ref a2, .ref a3, .int (zi_n v), .int (zi_n ln)])), (a, .inl (cA, 600, .inl (zi_F (zh_poF F n p0 p1)))), (a2, .inl (cB, 600, .inl (zi_F P))), (a3, .inl (cC, 600, .inl (zi_F G)))] := by rw [e_n_11_0, e_n_11_1]; exact hD
    exact W.iret (v := zi_n (-12)) hx hb hr (fun t ht hW => ⟨⟨zi_n (-12), (), rfl, zl_r (by unfold zh_poE; first | (exfalso; omega; done) | (rw [if_pos (by omega)]; done) | (rw [if_neg (by omega)]; done) | (rw [if_neg (by omega), if_pos (by omega)]; done) | (rw [if_neg (by omega), if_neg (by omega)]; done)) (by omega), by rw [ht]; exact hP9, va_K.moved hW.alike hK, hD9⟩, hS.F ht⟩) hS.2.2 dX4_poke_32

theorem in_X4_clear_X4 : ∀ w ∈ u_ws RX4 TX4 9, w ∈ wsX4_clear := by decide +kernel
set_option maxHeartbeats 4000000 in
set_option maxRecDepth 100000 in
theorem c_M_clear (l : Launch) (D : va_G) (x a a2 a3 : Nat) (cA cB cC : ClassId) (F P G : Nat → Int) (n rd br v ln ft : Int) (hF : zi_By F) (hn : 0 ≤ n ∧ n ≤ 600) (hP0 : zi_By P) (hG : zi_By G) (hrd : rd = 0 ∨ rd = 1) (hbr : 0 ≤ br ∧ br ≤ 15) (hv0 : 0 ≤ v ∧ v ≤ 255) (hln : 0 ≤ ln ∧ ln ≤ 524280) (hft : 0 ≤ ft ∧ ft ≤ 1) (sz : Nat) : Met l yX4_clear wsX4_clear ({ frames := 0, cells := 0, slots := 0, locals := 0 }) (va_Pc [.ref x] (zp_P D vwCl sz [(x, .inr (5, [.int (zi_n ft), .ref a, .int (zi_n n), .int (zi_n rd), .int (zi_n br), .ref a2, .ref a3, .int (zi_n v), .int (zi_n ln)])), (a, .inl (cA, 600, .inl (zi_F F))), (a2, .inl (cB, 600, .inl (zi_F P))), (a3, .inl (cC, 600, .inl (zi_F G)))] [(cA, .int), (cB, .int), (cC, .int)])) (va_Qi (fun (r : Int32) (_ : Unit) => r = zi_n n ∧ 0 ≤ n ∧ n ≤ 600) (fun (_ : Unit) => zp_B D vwCl [(cA, .int), (cB, .int), (cC, .int)] (va_A [(x, .inr (5, [.int (zi_n ft), .ref a, .int (zi_n n), .int (zi_n rd), .int (zi_n br), .ref a2, .ref a3, .int (zi_n v), .int (zi_n ln)])), (a, .inl (cA, 600, .inl (zi_F F))), (a2, .inl (cB, 600, .inl (zi_F P))), (a3, .inl (cC, 600, .inl (zi_F G)))] sz) [(x, .inr (5, [.int (zi_n 0), .ref a, .int (zi_n 0), .int (zi_n 0), .int (zi_n 0), .ref a2, .ref a3, .int (zi_n v), .int (zi_n ln)])), (a, .inl (cA, 600, .inl (zi_F F))), (a2, .inl (cB, 600, .inl (zi_F P))), (a3, .inl (cC, 600, .inl (zi_F G)))]) (va_A [(x, .inr (5, [.int (zi_n ft), .ref a, .int (zi_n n), .int (zi_n rd), .int (zi_n br), .ref a2, .ref a3, .int (zi_n v), .int (zi_n ln)])), (a, .inl (cA, 600, .inl (zi_F F))), (a2, .inl (cB, 600, .inl (zi_F P))), (a3, .inl (cC, 600, .inl (zi_F G)))] sz)) 0 0 (va_A [(x, .inr (5, [.int (zi_n ft), .ref a, .int (zi_n n), .int (zi_n rd), .int (zi_n br), .ref a2, .ref a3, .int (zi_n v), .int (zi_n ln)])), (a, .inl (cA, 600, .inl (zi_F F))), (a2, .inl (cB, 600, .inl (zi_F P))), (a3, .inl (cC, 600, .inl (zi_F G)))] sz) := by
  refine Met.ofW (cc := cX4_clear) (maxL := 2) (ret := (some .int)) (by decide) rfl ?_
  intro p e s m args below meth c s₁ B hml hv
  obtain ⟨rfl, hsz, hP, hK, hD0⟩ := hv
  have hx := B.exec
  have hb := B.bytes
  have hr := B.returns
  have hts := atoms_spec (ws := wsX4_clear) B.pre
  have hown : s.vm.findClass RX4 = some m.cls := findClass_of_methodNamed B.named
  have hlocks := B.notSynchronized
  subst hsz
  have hD := hD0.self (sz := s.heap.size)
  generalize hAe : va_A [(x, .inr (5, [.int (zi_n ft), .ref a, .int (zi_n n), .int (zi_n rd), .int (zi_n br), .ref a2, .ref a3, .int (zi_n v), .int (zi_n ln)])), (a, .inl (cA, 600, .inl (zi_F F))), (a2, .inl (cB, 600, .inl (zi_F P))), (a3, .inl (cC, 600, .inl (zi_F G)))] s.heap.size = A at hD ⊢
  have hA : ∀ q : Nat, s.heap.size ≤ q → A q := fun q h => by rw [← hAe]; exact Or.inr h
  have hS : va_S A s.heap s.heap [] := va_S.rf
  have hP : va_P D vwCl [(x, .inr (5, [.int (zi_n ft), .ref a, .int (zi_n n), .int (zi_n rd), .int (zi_n br), .ref a2, .ref a3, .int (zi_n v), .int (zi_n ln)])), (a, .inl (cA, 600, .inl (zi_F F))), (a2, .inl (cB, 600, .inl (zi_F P))), (a3, .inl (cC, 600, .inl (zi_F G)))] s.heap := hP
  have hl := lv_entry ([.ref x]) (n := 2) (Nat.le_of_ble_eq_true rfl)
  rw [lg_entry_eq]
  generalize (lg_sl ([.ref x]) ++ List.replicate (2 - (lg_sl ([.ref x])).length) Slot.unset).toArray = ls at hl ⊢
  have hl : lv_has ls 2 [(0, .ref x)] := hl
  refine lv_aload_n hx hb dX4_clear_0 rfl (lv_at hl 0 rfl) ?_
  refine zr_iconst hx hb dX4_clear_1 ?_
  refine va_put (D := D) (ci := 5) (v := .int (zi_n 0)) (ty := .int) (C := RX4) (T := TX4) (N := 9) hx hb hts in_X4_clear_X4 tyX4 tyX4_ok nmX4 hown hK hP hD hS 0 rfl rfl 0 (by decide) (hts (.fieldLink RX4 19 "ZHeadsModel" "fault" "I") (by decide +kernel)) (fun _ h9 => h9) rfl (by decide +kernel) rfl rfl (Nat.le_of_ble_eq_true rfl) dX4_clear_2 (fun H locs hP hD hS => ?_)
  have hP : va_P D vwCl [(x, .inr (5, [.int (zi_n 0), .ref a, .int (zi_n n), .int (zi_n rd), .int (zi_n br), .ref a2, .ref a3, .int (zi_n v), .int (zi_n ln)])), (a, .inl (cA, 600, .inl (zi_F F))), (a2, .inl (cB, 600, .inl (zi_F P))), (a3, .inl (cC, 600, .inl (zi_F G)))] H := hP
  have hD : va_D A [(x, .inr (5, [.int (zi_n 0), .ref a, .int (zi_n n), .int (zi_n rd), .int (zi_n br), .ref a2, .ref a3, .int (zi_n v), .int (zi_n ln)])), (a, .inl (cA, 600, .inl (zi_F F))), (a2, .inl (cB, 600, .inl (zi_F P))), (a3, .inl (cC, 600, .inl (zi_F G)))] := hD
  refine lv_aload_n hx hb dX4_clear_5 rfl (lv_at hl 0 rfl) ?_
  refine va_get (D := D) (ci := 5) (v := .int (zi_n n)) (C := RX4) (T := TX4) (N := 9) hx hb hts in_X4_clear_X4 hown hK hP 0 rfl rfl 2 (by decide) (hts (.fieldLink RX4 31 "ZHeadsModel" "size" "I") (by decide +kernel)) (fun _ h9 => h9) rfl dX4_clear_6 ?_
  refine lv_istore_n (lv' := [(1, .int (zi_n n)), (0, .ref x)]) hx hb dX4_clear_9 rfl hl (by decide) rfl (fun ls hl => ?_)
  refine lv_aload_n hx hb dX4_clear_10 rfl (lv_at hl 1 rfl) ?_
  refine zr_iconst hx hb dX4_clear_11 ?_
  refine va_put (D := D) (ci := 5) (v := .int (zi_n 0)) (ty := .int) (C := RX4) (T := TX4) (N := 9) hx hb hts in_X4_clear_X4 tyX4 tyX4_ok nmX4 hown hK hP hD hS 0 rfl rfl 2 (by decide) (hts (.fieldLink RX4 31 "ZHeadsModel" "size" "I") (by decide +kernel)) (fun _ h9 => h9) rfl (by decide +kernel) rfl rfl (Nat.le_of_ble_eq_true rfl) dX4_clear_12 (fun H locs hP hD hS => ?_)
  have hP : va_P D vwCl [(x, .inr (5, [.int (zi_n 0), .ref a, .int (zi_n 0), .int (zi_n rd), .int (zi_n br), .ref a2, .ref a3, .int (zi_n v), .int (zi_n ln)])), (a, .inl (cA, 600, .inl (zi_F F))), (a2, .inl (cB, 600, .inl (zi_F P))), (a3, .inl (cC, 600, .inl (zi_F G)))] H := hP
  have hD : va_D A [(x, .inr (5, [.int (zi_n 0), .ref a, .int (zi_n 0), .int (zi_n rd), .int (zi_n br), .ref a2, .ref a3, .int (zi_n v), .int (zi_n ln)])), (a, .inl (cA, 600, .inl (zi_F F))), (a2, .inl (cB, 600, .inl (zi_F P))), (a3, .inl (cC, 600, .inl (zi_F G)))] := hD
  refine lv_aload_n hx hb dX4_clear_15 rfl (lv_at hl 1 rfl) ?_
  refine zr_iconst hx hb dX4_clear_16 ?_
  refine va_put (D := D) (ci := 5) (v := .int (zi_n 0)) (ty := .boolean) (C := RX4) (T := TX4) (N := 9) hx hb hts in_X4_clear_X4 tyX4 tyX4_ok nmX4 hown hK hP hD hS 0 rfl rfl 3 (by decide) (hts (.fieldLink RX4 36 "ZHeadsModel" "isRead" "Z") (by decide +kernel)) (fun _ h9 => h9) rfl (by decide +kernel) (by decide) rfl (Nat.le_of_ble_eq_true rfl) dX4_clear_17 (fun H locs hP hD hS => ?_)
  have hP : va_P D vwCl [(x, .inr (5, [.int (zi_n 0), .ref a, .int (zi_n 0), .int (zi_n 0), .int (zi_n br), .ref a2, .ref a3, .int (zi_n v), .int (zi_n ln)])), (a, .inl (cA, 600, .inl (zi_F F))), (a2, .inl (cB, 600, .inl (zi_F P))), (a3, .inl (cC, 600, .inl (zi_F G)))] H := hP
  have hD : va_D A [(x, .inr (5, [.int (zi_n 0), .ref a, .int (zi_n 0), .int (zi_n 0), .int (zi_n br), .ref a2, .ref a3, .int (zi_n v), .int (zi_n ln)])), (a, .inl (cA, 600, .inl (zi_F F))), (a2, .inl (cB, 600, .inl (zi_F P))), (a3, .inl (cC, 600, .inl (zi_F G)))] := hD
  refine lv_aload_n hx hb dX4_clear_20 rfl (lv_at hl 1 rfl) ?_
  refine zr_iconst hx hb dX4_clear_21 ?_
  refine va_put (D := D) (ci := 5) (v := .int (zi_n 0)) (ty := .int) (C := RX4) (T := TX4) (N := 9) hx hb hts in_X4_clear_X4 tyX4 tyX4_ok nmX4 hown hK hP hD hS 0 rfl rfl 4 (by decide) (hts (.fieldLink RX4 40 "ZHeadsModel" "broken" "I") (by decide +kernel)) (fun _ h9 => h9) rfl (by decide +kernel) rfl rfl (Nat.le_of_ble_eq_true rfl) dX4_clear_22 (fun H locs hP hD hS => ?_)
  have hP : va_P D vwCl [(x, .inr (5, [.int (zi_n 0), .ref a, .int (zi_n 0), .int (zi_n 0), .int (zi_n 0), .ref a2, .ref a3, .int (zi_n v), .int (zi_n ln)])), (a, .inl (cA, 600, .inl (zi_F F))), (a2, .inl (cB, 600, .inl (zi_F P))), (a3, .inl (cC, 600, .inl (zi_F G)))] H := hP
  have hD : va_D A [(x, .inr (5, [.int (zi_n 0), .ref a, .int (zi_n 0), .int (zi_n 0), .int (zi_n 0), .ref a2, .ref a3, .int (zi_n v), .int (zi_n ln)])), (a, .inl (cA, 600, .inl (zi_F F))), (a2, .inl (cB, 600, .inl (zi_F P))), (a3, .inl (cC, 600, .inl (zi_F G)))] := hD
  refine lv_iload_n hx hb dX4_clear_25 rfl (lv_at hl 0 rfl) ?_
  have hP9 : va_P D vwCl [(x, .inr (5, [.int (zi_n 0), .ref a, .int (zi_n 0), .int (zi_n 0), .int (zi_n 0), .ref a2, .ref a3, .int (zi_n v), .int (zi_n ln)])), (a, .inl (cA, 600, .inl (zi_F F))), (a2, .inl (cB, 600, .inl (zi_F P))), (a3, .inl (cC, 600, .inl (zi_F G)))] H := hP
  have hD9 : va_D A [(x, .inr (5, [.int (zi_n 0), .ref a, .int (zi_n 0), .int (zi_n 0), .int (zi_n 0), .ref a2, .ref a3, .int (zi_n v), .int (zi_n ln)])), (a, .inl (cA, 600, .inl (zi_F F))), (a2, .inl (cB, 600, .inl (zi_F P))), (a3, .inl (cC, 600, .inl (zi_F G)))] := hD
  exact W.iret (v := zi_n n) hx hb hr (fun t ht hW => ⟨⟨zi_n n, (), rfl, ⟨rfl, by omega⟩, by rw [ht]; exact hP9, va_K.moved hW.alike hK, hD9⟩, hS.F ht⟩) hS.2.2 dX4_clear_26

theorem in_X4_size_X4 : ∀ w ∈ u_ws RX4 TX4 9, w ∈ wsX4_size := by decide +kernel
set_option maxHeartbeats 4000000 in
set_option maxRecDepth 100000 in
theorem c_M_size (l : Launch) (D : va_G) (x a a2 a3 : Nat) (cA cB cC : ClassId) (F P G : Nat → Int) (n rd br v ln ft : Int) (hF : zi_By F) (hn : 0 ≤ n ∧ n ≤ 600) (hP0 : zi_By P) (hG : zi_By G) (hrd : rd = 0 ∨ rd = 1) (hbr : 0 ≤ br ∧ br ≤ 15) (hv0 : 0 ≤ v ∧ v ≤ 255) (hln : 0 ≤ ln ∧ ln ≤ 524280) (hft : 0 ≤ ft ∧ ft ≤ 1) (sz : Nat) : Met l yX4_size wsX4_size ({ frames := 0, cells := 0, slots := 0, locals := 0 }) (va_Pc [.ref x] (zp_P D vwCl sz [(x, .inr (5, [.int (zi_n ft), .ref a, .int (zi_n n), .int (zi_n rd), .int (zi_n br), .ref a2, .ref a3, .int (zi_n v), .int (zi_n ln)])), (a, .inl (cA, 600, .inl (zi_F F))), (a2, .inl (cB, 600, .inl (zi_F P))), (a3, .inl (cC, 600, .inl (zi_F G)))] [(cA, .int), (cB, .int), (cC, .int)])) (va_Qi (fun (r : Int32) (_ : Unit) => r = zi_n n ∧ 0 ≤ n ∧ n ≤ 600) (fun (_ : Unit) => zp_B D vwCl [(cA, .int), (cB, .int), (cC, .int)] (va_A [(x, .inr (5, [.int (zi_n ft), .ref a, .int (zi_n n), .int (zi_n rd), .int (zi_n br), .ref a2, .ref a3, .int (zi_n v), .int (zi_n ln)])), (a, .inl (cA, 600, .inl (zi_F F))), (a2, .inl (cB, 600, .inl (zi_F P))), (a3, .inl (cC, 600, .inl (zi_F G)))] sz) [(x, .inr (5, [.int (zi_n 0), .ref a, .int (zi_n n), .int (zi_n rd), .int (zi_n br), .ref a2, .ref a3, .int (zi_n v), .int (zi_n ln)])), (a, .inl (cA, 600, .inl (zi_F F))), (a2, .inl (cB, 600, .inl (zi_F P))), (a3, .inl (cC, 600, .inl (zi_F G)))]) (va_A [(x, .inr (5, [.int (zi_n ft), .ref a, .int (zi_n n), .int (zi_n rd), .int (zi_n br), .ref a2, .ref a3, .int (zi_n v), .int (zi_n ln)])), (a, .inl (cA, 600, .inl (zi_F F))), (a2, .inl (cB, 600, .inl (zi_F P))), (a3, .inl (cC, 600, .inl (zi_F G)))] sz)) 0 0 (va_A [(x, .inr (5, [.int (zi_n ft), .ref a, .int (zi_n n), .int (zi_n rd), .int (zi_n br), .ref a2, .ref a3, .int (zi_n v), .int (zi_n ln)])), (a, .inl (cA, 600, .inl (zi_F F))), (a2, .inl (cB, 600, .inl (zi_F P))), (a3, .inl (cC, 600, .inl (zi_F G)))] sz) := by
  refine Met.ofW (cc := cX4_size) (maxL := 1) (ret := (some .int)) (by decide) rfl ?_
  intro p e s m args below meth c s₁ B hml hv
  obtain ⟨rfl, hsz, hP, hK, hD0⟩ := hv
  have hx := B.exec
  have hb := B.bytes
  have hr := B.returns
  have hts := atoms_spec (ws := wsX4_size) B.pre
  have hown : s.vm.findClass RX4 = some m.cls := findClass_of_methodNamed B.named
  have hlocks := B.notSynchronized
  subst hsz
  have hD := hD0.self (sz := s.heap.size)
  generalize hAe : va_A [(x, .inr (5, [.int (zi_n ft), .ref a, .int (zi_n n), .int (zi_n rd), .int (zi_n br), .ref a2, .ref a3, .int (zi_n v), .int (zi_n ln)])), (a, .inl (cA, 600, .inl (zi_F F))), (a2, .inl (cB, 600, .inl (zi_F P))), (a3, .inl (cC, 600, .inl (zi_F G)))] s.heap.size = A at hD ⊢
  have hA : ∀ q : Nat, s.heap.size ≤ q → A q := fun q h => by rw [← hAe]; exact Or.inr h
  have hS : va_S A s.heap s.heap [] := va_S.rf
  have hP : va_P D vwCl [(x, .inr (5, [.int (zi_n ft), .ref a, .int (zi_n n), .int (zi_n rd), .int (zi_n br), .ref a2, .ref a3, .int (zi_n v), .int (zi_n ln)])), (a, .inl (cA, 600, .inl (zi_F F))), (a2, .inl (cB, 600, .inl (zi_F P))), (a3, .inl (cC, 600, .inl (zi_F G)))] s.heap := hP
  have hl := lv_entry ([.ref x]) (n := 1) (Nat.le_of_ble_eq_true rfl)
  rw [lg_entry_eq]
  generalize (lg_sl ([.ref x]) ++ List.replicate (1 - (lg_sl ([.ref x])).length) Slot.unset).toArray = ls at hl ⊢
  have hl : lv_has ls 1 [(0, .ref x)] := hl
  refine lv_aload_n hx hb dX4_size_0 rfl (lv_at hl 0 rfl) ?_
  refine zr_iconst hx hb dX4_size_1 ?_
  refine va_put (D := D) (ci := 5) (v := .int (zi_n 0)) (ty := .int) (C := RX4) (T := TX4) (N := 9) hx hb hts in_X4_size_X4 tyX4 tyX4_ok nmX4 hown hK hP hD hS 0 rfl rfl 0 (by decide) (hts (.fieldLink RX4 19 "ZHeadsModel" "fault" "I") (by decide +kernel)) (fun _ h9 => h9) rfl (by decide +kernel) rfl rfl (Nat.le_of_ble_eq_true rfl) dX4_size_2 (fun H locs hP hD hS => ?_)
  have hP : va_P D vwCl [(x, .inr (5, [.int (zi_n 0), .ref a, .int (zi_n n), .int (zi_n rd), .int (zi_n br), .ref a2, .ref a3, .int (zi_n v), .int (zi_n ln)])), (a, .inl (cA, 600, .inl (zi_F F))), (a2, .inl (cB, 600, .inl (zi_F P))), (a3, .inl (cC, 600, .inl (zi_F G)))] H := hP
  have hD : va_D A [(x, .inr (5, [.int (zi_n 0), .ref a, .int (zi_n n), .int (zi_n rd), .int (zi_n br), .ref a2, .ref a3, .int (zi_n v), .int (zi_n ln)])), (a, .inl (cA, 600, .inl (zi_F F))), (a2, .inl (cB, 600, .inl (zi_F P))), (a3, .inl (cC, 600, .inl (zi_F G)))] := hD
  refine lv_aload_n hx hb dX4_size_5 rfl (lv_at hl 0 rfl) ?_
  refine va_get (D := D) (ci := 5) (v := .int (zi_n n)) (C := RX4) (T := TX4) (N := 9) hx hb hts in_X4_size_X4 hown hK hP 0 rfl rfl 2 (by decide) (hts (.fieldLink RX4 31 "ZHeadsModel" "size" "I") (by decide +kernel)) (fun _ h9 => h9) rfl dX4_size_6 ?_
  have hP9 : va_P D vwCl [(x, .inr (5, [.int (zi_n 0), .ref a, .int (zi_n n), .int (zi_n rd), .int (zi_n br), .ref a2, .ref a3, .int (zi_n v), .int (zi_n ln)])), (a, .inl (cA, 600, .inl (zi_F F))), (a2, .inl (cB, 600, .inl (zi_F P))), (a3, .inl (cC, 600, .inl (zi_F G)))] H := hP
  have hD9 : va_D A [(x, .inr (5, [.int (zi_n 0), .ref a, .int (zi_n n), .int (zi_n rd), .int (zi_n br), .ref a2, .ref a3, .int (zi_n v), .int (zi_n ln)])), (a, .inl (cA, 600, .inl (zi_F F))), (a2, .inl (cB, 600, .inl (zi_F P))), (a3, .inl (cC, 600, .inl (zi_F G)))] := hD
  exact W.iret (v := zi_n n) hx hb hr (fun t ht hW => ⟨⟨zi_n n, (), rfl, ⟨rfl, by omega⟩, by rw [ht]; exact hP9, va_K.moved hW.alike hK, hD9⟩, hS.F ht⟩) hS.2.2 dX4_size_9

theorem in_X4_rule_X4 : ∀ w ∈ u_ws RX4 TX4 9, w ∈ wsX4_rule := by decide +kernel
set_option maxHeartbeats 4000000 in
set_option maxRecDepth 100000 in
theorem c_M_rule (l : Launch) (D : va_G) (x a a2 a3 : Nat) (cA cB cC : ClassId) (F P G : Nat → Int) (n rd br v ln ft : Int) (hF : zi_By F) (hn : 0 ≤ n ∧ n ≤ 600) (hP0 : zi_By P) (hG : zi_By G) (hrd : rd = 0 ∨ rd = 1) (hbr : 0 ≤ br ∧ br ≤ 15) (hv0 : 0 ≤ v ∧ v ≤ 255) (hln : 0 ≤ ln ∧ ln ≤ 524280) (hft : 0 ≤ ft ∧ ft ≤ 1) (sz : Nat) : Met l yX4_rule wsX4_rule ({ frames := 0, cells := 0, slots := 0, locals := 0 }) (va_Pc [.ref x] (zp_P D vwCl sz [(x, .inr (5, [.int (zi_n ft), .ref a, .int (zi_n n), .int (zi_n rd), .int (zi_n br), .ref a2, .ref a3, .int (zi_n v), .int (zi_n ln)])), (a, .inl (cA, 600, .inl (zi_F F))), (a2, .inl (cB, 600, .inl (zi_F P))), (a3, .inl (cC, 600, .inl (zi_F G)))] [(cA, .int), (cB, .int), (cC, .int)])) (va_Qi (fun (r : Int32) (_ : Unit) => r = zi_n br ∧ 0 ≤ br ∧ br ≤ 15) (fun (_ : Unit) => zp_B D vwCl [(cA, .int), (cB, .int), (cC, .int)] (va_A [(x, .inr (5, [.int (zi_n ft), .ref a, .int (zi_n n), .int (zi_n rd), .int (zi_n br), .ref a2, .ref a3, .int (zi_n v), .int (zi_n ln)])), (a, .inl (cA, 600, .inl (zi_F F))), (a2, .inl (cB, 600, .inl (zi_F P))), (a3, .inl (cC, 600, .inl (zi_F G)))] sz) [(x, .inr (5, [.int (zi_n 0), .ref a, .int (zi_n n), .int (zi_n rd), .int (zi_n br), .ref a2, .ref a3, .int (zi_n v), .int (zi_n ln)])), (a, .inl (cA, 600, .inl (zi_F F))), (a2, .inl (cB, 600, .inl (zi_F P))), (a3, .inl (cC, 600, .inl (zi_F G)))]) (va_A [(x, .inr (5, [.int (zi_n ft), .ref a, .int (zi_n n), .int (zi_n rd), .int (zi_n br), .ref a2, .ref a3, .int (zi_n v), .int (zi_n ln)])), (a, .inl (cA, 600, .inl (zi_F F))), (a2, .inl (cB, 600, .inl (zi_F P))), (a3, .inl (cC, 600, .inl (zi_F G)))] sz)) 0 0 (va_A [(x, .inr (5, [.int (zi_n ft), .ref a, .int (zi_n n), .int (zi_n rd), .int (zi_n br), .ref a2, .ref a3, .int (zi_n v), .int (zi_n ln)])), (a, .inl (cA, 600, .inl (zi_F F))), (a2, .inl (cB, 600, .inl (zi_F P))), (a3, .inl (cC, 600, .inl (zi_F G)))] sz) := by
  refine Met.ofW (cc := cX4_rule) (maxL := 1) (ret := (some .int)) (by decide) rfl ?_
  intro p e s m args below meth c s₁ B hml hv
  obtain ⟨rfl, hsz, hP, hK, hD0⟩ := hv
  have hx := B.exec
  have hb := B.bytes
  have hr := B.returns
  have hts := atoms_spec (ws := wsX4_rule) B.pre
  have hown : s.vm.findClass RX4 = some m.cls := findClass_of_methodNamed B.named
  have hlocks := B.notSynchronized
  subst hsz
  have hD := hD0.self (sz := s.heap.size)
  generalize hAe : va_A [(x, .inr (5, [.int (zi_n ft), .ref a, .int (zi_n n), .int (zi_n rd), .int (zi_n br), .ref a2, .ref a3, .int (zi_n v), .int (zi_n ln)])), (a, .inl (cA, 600, .inl (zi_F F))), (a2, .inl (cB, 600, .inl (zi_F P))), (a3, .inl (cC, 600, .inl (zi_F G)))] s.heap.size = A at hD ⊢
  have hA : ∀ q : Nat, s.heap.size ≤ q → A q := fun q h => by rw [← hAe]; exact Or.inr h
  have hS : va_S A s.heap s.heap [] := va_S.rf
  have hP : va_P D vwCl [(x, .inr (5, [.int (zi_n ft), .ref a, .int (zi_n n), .int (zi_n rd), .int (zi_n br), .ref a2, .ref a3, .int (zi_n v), .int (zi_n ln)])), (a, .inl (cA, 600, .inl (zi_F F))), (a2, .inl (cB, 600, .inl (zi_F P))), (a3, .inl (cC, 600, .inl (zi_F G)))] s.heap := hP
  have hl := lv_entry ([.ref x]) (n := 1) (Nat.le_of_ble_eq_true rfl)
  rw [lg_entry_eq]
  generalize (lg_sl ([.ref x]) ++ List.replicate (1 - (lg_sl ([.ref x])).length) Slot.unset).toArray = ls at hl ⊢
  have hl : lv_has ls 1 [(0, .ref x)] := hl
  refine lv_aload_n hx hb dX4_rule_0 rfl (lv_at hl 0 rfl) ?_
  refine zr_iconst hx hb dX4_rule_1 ?_
  refine va_put (D := D) (ci := 5) (v := .int (zi_n 0)) (ty := .int) (C := RX4) (T := TX4) (N := 9) hx hb hts in_X4_rule_X4 tyX4 tyX4_ok nmX4 hown hK hP hD hS 0 rfl rfl 0 (by decide) (hts (.fieldLink RX4 19 "ZHeadsModel" "fault" "I") (by decide +kernel)) (fun _ h9 => h9) rfl (by decide +kernel) rfl rfl (Nat.le_of_ble_eq_true rfl) dX4_rule_2 (fun H locs hP hD hS => ?_)
  have hP : va_P D vwCl [(x, .inr (5, [.int (zi_n 0), .ref a, .int (zi_n n), .int (zi_n rd), .int (zi_n br), .ref a2, .ref a3, .int (zi_n v), .int (zi_n ln)])), (a, .inl (cA, 600, .inl (zi_F F))), (a2, .inl (cB, 600, .inl (zi_F P))), (a3, .inl (cC, 600, .inl (zi_F G)))] H := hP
  have hD : va_D A [(x, .inr (5, [.int (zi_n 0), .ref a, .int (zi_n n), .int (zi_n rd), .int (zi_n br), .ref a2, .ref a3, .int (zi_n v), .int (zi_n ln)])), (a, .inl (cA, 600, .inl (zi_F F))), (a2, .inl (cB, 600, .inl (zi_F P))), (a3, .inl (cC, 600, .inl (zi_F G)))] := hD
  refine lv_aload_n hx hb dX4_rule_5 rfl (lv_at hl 0 rfl) ?_
  refine va_get (D := D) (ci := 5) (v := .int (zi_n br)) (C := RX4) (T := TX4) (N := 9) hx hb hts in_X4_rule_X4 hown hK hP 0 rfl rfl 4 (by decide) (hts (.fieldLink RX4 40 "ZHeadsModel" "broken" "I") (by decide +kernel)) (fun _ h9 => h9) rfl dX4_rule_6 ?_
  have hP9 : va_P D vwCl [(x, .inr (5, [.int (zi_n 0), .ref a, .int (zi_n n), .int (zi_n rd), .int (zi_n br), .ref a2, .ref a3, .int (zi_n v), .int (zi_n ln)])), (a, .inl (cA, 600, .inl (zi_F F))), (a2, .inl (cB, 600, .inl (zi_F P))), (a3, .inl (cC, 600, .inl (zi_F G)))] H := hP
  have hD9 : va_D A [(x, .inr (5, [.int (zi_n 0), .ref a, .int (zi_n n), .int (zi_n rd), .int (zi_n br), .ref a2, .ref a3, .int (zi_n v), .int (zi_n ln)])), (a, .inl (cA, 600, .inl (zi_F F))), (a2, .inl (cB, 600, .inl (zi_F P))), (a3, .inl (cC, 600, .inl (zi_F G)))] := hD
  exact W.iret (v := zi_n br) hx hb hr (fun t ht hW => ⟨⟨zi_n br, (), rfl, ⟨rfl, by omega⟩, by rw [ht]; exact hP9, va_K.moved hW.alike hK, hD9⟩, hS.F ht⟩) hS.2.2 dX4_rule_9

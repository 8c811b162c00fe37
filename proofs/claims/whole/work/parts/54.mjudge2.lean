theorem in_X4_judgeMore_X4 : ∀ w ∈ u_ws RX4 TX4 9, w ∈ wsX4_judgeMore := by decide +kernel
set_option maxHeartbeats 4000000 in
set_option maxRecDepth 100000 in
theorem c_M_judgeMore (l : Launch) (D : va_G) (x a a2 a3 : Nat) (cA cB cC : ClassId) (F P G : Nat → Int) (n rd br v ln ft : Int) (hF : zi_By F) (hn : 0 ≤ n ∧ n ≤ 600) (hP0 : zi_By P) (hG : zi_By G) (hrd : rd = 0 ∨ rd = 1) (hbr : 0 ≤ br ∧ br ≤ 15) (hv0 : 0 ≤ v ∧ v ≤ 255) (hln : 0 ≤ ln ∧ ln ≤ 524280) (hft : 0 ≤ ft ∧ ft ≤ 1) (sz : Nat) (hV : v = F 0) (hN : ln = zh_len F n) (h5 : 5 ≤ v) (h64 : 64 ≤ n) (hL : 64 ≤ zh_len F n ∧ zh_len F n ≤ n) (hb0 : br = 0) : Met l yX4_judgeMore wsX4_judgeMore ({ frames := 2, cells := 0, slots := 0, locals := 43 }) (va_Pc [.ref x] (zp_P D vwCl sz [(x, .inr (5, [.int (zi_n ft), .ref a, .int (zi_n n), .int (zi_n rd), .int (zi_n br), .ref a2, .ref a3, .int (zi_n v), .int (zi_n ln)])), (a, .inl (cA, 600, .inl (zi_F F))), (a2, .inl (cB, 600, .inl (zi_F P))), (a3, .inl (cC, 600, .inl (zi_F G)))] [(cA, .int), (cB, .int), (cC, .int)])) (va_Qi (fun (r : Int32) (u : Nat) => zh_fm F n u ∧ r = zi_n (zh_rdE F n u)) (fun (u : Nat) => zp_B D vwCl [(cA, .int), (cB, .int), (cC, .int)] (va_A [(x, .inr (5, [.int (zi_n ft), .ref a, .int (zi_n n), .int (zi_n rd), .int (zi_n br), .ref a2, .ref a3, .int (zi_n v), .int (zi_n ln)])), (a, .inl (cA, 600, .inl (zi_F F))), (a2, .inl (cB, 600, .inl (zi_F P))), (a3, .inl (cC, 600, .inl (zi_F G)))] sz) [(x, .inr (5, [.int (zi_n ft), .ref a, .int (zi_n n), .int (zi_n rd), .int (zi_n (zh_rdB u)), .ref a2, .ref a3, .int (zi_n v), .int (zi_n ln)])), (a, .inl (cA, 600, .inl (zi_F F))), (a2, .inl (cB, 600, .inl (zi_F P))), (a3, .inl (cC, 600, .inl (zi_F G)))]) (va_A [(x, .inr (5, [.int (zi_n ft), .ref a, .int (zi_n n), .int (zi_n rd), .int (zi_n br), .ref a2, .ref a3, .int (zi_n v), .int (zi_n ln)])), (a, .inl (cA, 600, .inl (zi_F F))), (a2, .inl (cB, 600, .inl (zi_F P))), (a3, .inl (cC, 600, .inl (zi_F G)))] sz)) 0 0 (va_A [(x, .inr (5, [.int (zi_n ft), .ref a, .int (zi_n n), .int (zi_n rd), .int (zi_n br), .ref a2, .ref a3, .int (zi_n v), .int (zi_n ln)])), (a, .inl (cA, 600, .inl (zi_F F))), (a2, .inl (cB, 600, .inl (zi_F P))), (a3, .inl (cC, 600, .inl (zi_F G)))] sz) := by
  refine Met.ofW (cc := cX4_judgeMore) (maxL := 2) (ret := (some .int)) (by decide) rfl ?_
  intro p e s m args below meth c s₁ B hml hv
  obtain ⟨rfl, hsz, hP, hK, hD0⟩ := hv
  have hx := B.exec
  have hb := B.bytes
  have hr := B.returns
  have hts := atoms_spec (ws := wsX4_judgeMore) B.pre
  have hown : s.vm.findClass RX4 = some m.cls := findClass_of_methodNamed B.named
  have hlocks := B.notSynchronized
  subst hsz
  have hD := hD0.self (sz := s.heap.size)
  generalize hAe : va_A [(x, .inr (5, [.int (zi_n ft), .ref a, .int (zi_n n), .int (zi_n rd), .int (zi_n br), .ref a2, .ref a3, .int (zi_n v), .int (zi_n ln)])), (a, .inl (cA, 600, .inl (zi_F F))), (a2, .inl (cB, 600, .inl (zi_F P))), (a3, .inl (cC, 600, .inl (zi_F G)))] s.heap.size = A at hD ⊢
  have hA : ∀ q : Nat, s.heap.size ≤ q → A q := fun q h => by rw [← hAe]; exact Or.inr h
  have hS : va_S A s.heap s.heap [] := va_S.rf
  have hP : va_P D vwCl [(x, .inr (5, [.int (zi_n ft), .ref a, .int (zi_n n), .int (zi_n rd), .int (zi_n br), .ref a2, .ref a3, .int (zi_n v), .int (zi_n ln)])), (a, .inl (cA, 600, .inl (zi_F F))), (a2, .inl (cB, 600, .inl (zi_F P))), (a3, .inl (cC, 600, .inl (zi_F G)))] s.heap := hP
  have hl := lv_entry ([.ref x]) (n := 2) (Nat.le_of_ble_eq_true rfl)
  rw [lg_entry_eq]
  generalize (lg_sl ([.ref x]) ++ List.replicate (2 - (lg_sl ([.ref x])).length) Slot.unset).toArray = ls at hl ⊢
  have hl : lv_has ls 2 [(0, .ref x)] := hl
  have hl5 : zh_letters F = zh_t F 52 := by unfold zh_letters; exact if_neg (by omega)
  have he5 : zh_ends F = zh_t F 46 := by unfold zh_ends; exact if_neg (by omega)
  have hm5 : zh_more F = zh_t F 54 := by unfold zh_more; exact if_neg (by omega)
  have key36 : (zh_ok12 F n) → ∀ (H : Heap) (locs : List Loc), va_P D vwCl [(x, .inr (5, [.int (zi_n ft), .ref a, .int (zi_n n), .int (zi_n rd), .int (zi_n br), .ref a2, .ref a3, .int (zi_n v), .int (zi_n ln)])), (a, .inl (cA, 600, .inl (zi_F F))), (a2, .inl (cB, 600, .inl (zi_F P))), (a3, .inl (cC, 600, .inl (zi_F G)))] H → va_D A [(x, .inr (5, [.int (zi_n ft), .ref a, .int (zi_n n), .int (zi_n rd), .int (zi_n br), .ref a2, .ref a3, .int (zi_n v), .int (zi_n ln)])), (a, .inl (cA, 600, .inl (zi_F F))), (a2, .inl (cB, 600, .inl (zi_F P))), (a3, .inl (cC, 600, .inl (zi_F G)))] → va_S A s.heap H locs → ∀ ls : Array Slot, lv_has ls 2 [(0, .ref x)] → W p l e (headSpec wsX4_judgeMore ({ frames := 2, cells := 0, slots := 0, locals := 43 })).room s m ([.ref x] : List Value).toArray below meth c H locs 0 0 (MQ below (va_Qi (fun (r : Int32) (u : Nat) => zh_fm F n u ∧ r = zi_n (zh_rdE F n u)) (fun (u : Nat) => zp_B D vwCl [(cA, .int), (cB, .int), (cC, .int)] A [(x, .inr (5, [.int (zi_n ft), .ref a, .int (zi_n n), .int (zi_n rd), .int (zi_n (zh_rdB u)), .ref a2, .ref a3, .int (zi_n v), .int (zi_n ln)])), (a, .inl (cA, 600, .inl (zi_F F))), (a2, .inl (cB, 600, .inl (zi_F P))), (a3, .inl (cC, 600, .inl (zi_F G)))]) A) ([.ref x] : List Value).toArray s 0 0 A) (F0 m 36 ls []) := by
    intro k12 H locs hP hD hS ls hl
    refine lv_aload_n hx hb dX4_judgeMore_36 rfl (lv_at hl 0 rfl) ?_
    refine lv_aload_n hx hb dX4_judgeMore_37 rfl (lv_at hl 0 rfl) ?_
    refine zr_bipush hx hb dX4_judgeMore_38 (by decide) ?_
    refine zc_V (As := [.int (zi_n 46)]) (rest := [.ref x]) ⟨hx, hb, hml, hown, hts⟩ (c_M_two_k l D x a a2 a3 cA cB cC F P G n rd br v ln ft hF (by omega) hP0 hG (by omega) (by omega) (by omega) (by omega) (by omega) 46 46 rfl (by omega)) (cwV 1 hts gX4_judgeMore_X4_two rfl rfl rfl (by decide +kernel) ⟨(Nat.le_of_ble_eq_true rfl), (Nat.le_of_ble_eq_true rfl)⟩) hP hK [0, 1, 2, 3] [0, 1, 2] rfl rfl (ci := 5) rfl rfl rfl rfl hl.1 rfl (Nat.le_of_ble_eq_true rfl) dX4_judgeMore_40 ⟨Nat.zero_le _, Nat.zero_le _⟩ (fun r hr1 => ?_)
    obtain ⟨rfl, b_1⟩ := hr1
    refine zc_V (As := [.int (zi_n (zh_t F 46))]) (rest := []) ⟨hx, hb, hml, hown, hts⟩ (c_M_areEnds l D x a a2 a3 cA cB cC F P G n rd br v ln ft hF (by omega) hP0 hG (by omega) (by omega) (by omega) (by omega) (by omega) (zh_t F 46) (by omega) (by omega)) (cwV 1 hts gX4_judgeMore_X4_areEnds rfl rfl rfl (by decide +kernel) ⟨(Nat.le_of_ble_eq_true rfl), (Nat.le_of_ble_eq_true rfl)⟩) hP hK [0, 1, 2, 3] [0, 1, 2] rfl rfl (ci := 5) rfl rfl rfl rfl hl.1 rfl (Nat.le_of_ble_eq_true rfl) dX4_judgeMore_43 ⟨Nat.zero_le _, Nat.zero_le _⟩ (fun r hr1 => ?_)
    rcases hr1 with ⟨rfl, c_2⟩ | ⟨rfl, c_2⟩
    · refine zr_if_ne (tgt := 58) hx hb dX4_judgeMore_46 (by decide) (by omega) (fun c_3 => ?_) (fun c => absurd c (by decide))
      have k13 : zh_ok13 F n := by exact zh_mE_iff.mp (by rw [he5, ← hN]; exact c_2)
      refine lv_aload_n hx hb dX4_judgeMore_58 rfl (lv_at hl 0 rfl) ?_
      refine zr_bipush hx hb dX4_judgeMore_59 (by decide) ?_
      refine zc_V (As := [.int (zi_n 54)]) (rest := []) ⟨hx, hb, hml, hown, hts⟩ (c_M_two_k l D x a a2 a3 cA cB cC F P G n rd br v ln ft hF (by omega) hP0 hG (by omega) (by omega) (by omega) (by omega) (by omega) 54 54 rfl (by omega)) (cwV 1 hts gX4_judgeMore_X4_two rfl rfl rfl (by decide +kernel) ⟨(Nat.le_of_ble_eq_true rfl), (Nat.le_of_ble_eq_true rfl)⟩) hP hK [0, 1, 2, 3] [0, 1, 2] rfl rfl (ci := 5) rfl rfl rfl rfl hl.1 rfl (Nat.le_of_ble_eq_true rfl) dX4_judgeMore_61 ⟨Nat.zero_le _, Nat.zero_le _⟩ (fun r hr1 => ?_)
      obtain ⟨rfl, b_4⟩ := hr1
      refine lv_istore_n (lv' := [(1, .int (zi_n (zh_t F 54))), (0, .ref x)]) hx hb dX4_judgeMore_64 rfl hl (by decide) rfl (fun ls hl => ?_)
      refine lv_aload_n hx hb dX4_judgeMore_65 rfl (lv_at hl 1 rfl) ?_
      refine lv_iload_n hx hb dX4_judgeMore_66 rfl (lv_at hl 0 rfl) ?_
      refine zc_V (As := [.int (zi_n (zh_t F 54))]) (rest := []) ⟨hx, hb, hml, hown, hts⟩ (c_M_isMore l D x a a2 a3 cA cB cC F P G n rd br v ln ft hF (by omega) hP0 hG (by omega) (by omega) (by omega) (by omega) (by omega) (zh_t F 54) (by omega)) (cwV 1 hts gX4_judgeMore_X4_isMore rfl rfl rfl (by decide +kernel) ⟨(Nat.le_of_ble_eq_true rfl), (Nat.le_of_ble_eq_true rfl)⟩) hP hK [0, 1, 2, 3] [0, 1, 2] rfl rfl (ci := 5) rfl rfl rfl rfl hl.1 rfl (Nat.le_of_ble_eq_true rfl) dX4_judgeMore_67 ⟨Nat.zero_le _, Nat.zero_le _⟩ (fun r hr1 => ?_)
      rcases hr1 with ⟨rfl, c_5⟩ | ⟨rfl, c_5⟩
      · refine zr_if_ne (tgt := 82) hx hb dX4_judgeMore_70 (by decide) (by omega) (fun c_6 => ?_) (fun c => absurd c (by decide))
        have k14 : zh_ok14 F n := by exact (zh_mM_iff hF (by omega) (by omega)).mp (by rw [hm5, ← hN]; exact c_5)
        refine lv_iload_n hx hb dX4_judgeMore_82 rfl (lv_at hl 0 rfl) ?_
        refine zr_if_eq (tgt := 114) hx hb dX4_judgeMore_83 (by decide) (by omega) (fun c_7 => ?_) (fun c_7 => ?_)
        · have k15 : zh_ok15 F n := by first | exact zh_ok15_0 (by omega) | exact zh_ok15_2 hF (by omega) k14 (by rw [hm5]; omega) (by rw [hm5]; omega)
          refine lv_aload_n hx hb dX4_judgeMore_114 rfl (lv_at hl 1 rfl) ?_
          refine va_get (D := D) (ci := 5) (v := .int (zi_n v)) (C := RX4) (T := TX4) (N := 9) hx hb hts in_X4_judgeMore_X4 hown hK hP 0 rfl rfl 7 (by decide) (hts (.fieldLink RX4 51 "ZHeadsModel" "version" "I") (by decide +kernel)) (fun _ h9 => h9) rfl dX4_judgeMore_115 ?_
          have e_n_8_0 : zh_rdB 0 = br := by rw [hb0]; rfl
          have hP9 : va_P D vwCl [(x, .inr (5, [.int (zi_n ft), .ref a, .int (zi_n n), .int (zi_n rd), .int (zi_n (zh_rdB 0)), .ref a2, .ref a3, .int (zi_n v), .int (zi_n ln)])), (a, .inl (cA, 600, .inl (zi_F F))), (a2, .inl (cB, 600, .inl (zi_F P))), (a3, .inl (cC, 600, .inl (zi_F G)))] H := by rw [e_n_8_0]; exact hP
          have hD9 : va_D A [(x, .inr (5, [.int (zi_n ft), .ref a, .int (zi_n n), .int (zi_n rd), .int (zi_n (zh_rdB 0)), .ref a2, .ref a3, .int (zi_n v), .int (zi_n ln)])), (a, .inl (cA, 600, .inl (zi_F F))), (a2, .inl (cB, 600, .inl (zi_F P))), (a3, .inl (cC, 600, .inl (zi_F G)))] := by rw [e_n_8_0]; exact hD
          exact W.iret (v := zi_n v) hx hb hr (fun t ht hW => ⟨⟨zi_n v, 0, rfl, ⟨Or.inl ⟨rfl, k12, k13, k14, k15⟩, by rw [hV]; rfl⟩, by rw [ht]; exact hP9, va_K.moved hW.alike hK, hD9⟩, hS.F ht⟩) hS.2.2 dX4_judgeMore_118
        · have hr14 := zh_ok14_r hF (by omega) k14 (by rw [hm5]; omega)
          rw [hm5] at hr14
          refine lv_aload_n hx hb dX4_judgeMore_86 rfl (lv_at hl 1 rfl) ?_
          refine lv_iload_n hx hb dX4_judgeMore_87 rfl (lv_at hl 0 rfl) ?_
          refine zc_V (As := [.int (zi_n (zh_t F 54))]) (rest := []) ⟨hx, hb, hml, hown, hts⟩ (c_M_two l D x a a2 a3 cA cB cC F P G n rd br v ln ft hF (by omega) hP0 hG (by omega) (by omega) (by omega) (by omega) (by omega) (zh_t F 54) (by omega)) (cwV 1 hts gX4_judgeMore_X4_two rfl rfl rfl (by decide +kernel) ⟨(Nat.le_of_ble_eq_true rfl), (Nat.le_of_ble_eq_true rfl)⟩) hP hK [0, 1, 2, 3] [0, 1, 2] rfl rfl (ci := 5) rfl rfl rfl rfl hl.1 rfl (Nat.le_of_ble_eq_true rfl) dX4_judgeMore_88 ⟨Nat.zero_le _, Nat.zero_le _⟩ (fun r hr1 => ?_)
          obtain ⟨rfl, b_9⟩ := hr1
          refine zr_iconst hx hb dX4_judgeMore_91 ?_
          refine zr_icmp_le (tgt := 114) hx hb dX4_judgeMore_92 (by decide) (by omega) (by omega) (fun c_10 => ?_) (fun c_10 => ?_)
          · have k15 : zh_ok15 F n := by first | exact zh_ok15_0 (by omega) | exact zh_ok15_2 hF (by omega) k14 (by rw [hm5]; omega) (by rw [hm5]; omega)
            refine lv_aload_n hx hb dX4_judgeMore_114 rfl (lv_at hl 1 rfl) ?_
            refine va_get (D := D) (ci := 5) (v := .int (zi_n v)) (C := RX4) (T := TX4) (N := 9) hx hb hts in_X4_judgeMore_X4 hown hK hP 0 rfl rfl 7 (by decide) (hts (.fieldLink RX4 51 "ZHeadsModel" "version" "I") (by decide +kernel)) (fun _ h9 => h9) rfl dX4_judgeMore_115 ?_
            have e_n_11_0 : zh_rdB 0 = br := by rw [hb0]; rfl
            have hP9 : va_P D vwCl [(x, .inr (5, [.int (zi_n ft), .ref a, .int (zi_n n), .int (zi_n rd), .int (zi_n (zh_rdB 0)), .ref a2, .ref a3, .int (zi_n v), .int (zi_n ln)])), (a, .inl (cA, 600, .inl (zi_F F))), (a2, .inl (cB, 600, .inl (zi_F P))), (a3, .inl (cC, 600, .inl (zi_F G)))] H := by rw [e_n_11_0]; exact hP
            have hD9 : va_D A [(x, .inr (5, [.int (zi_n ft), .ref a, .int (zi_n n), .int (zi_n rd), .int (zi_n (zh_rdB 0)), .ref a2, .ref a3, .int (zi_n v), .int (zi_n ln)])), (a, .inl (cA, 600, .inl (zi_F F))), (a2, .inl (cB, 600, .inl (zi_F P))), (a3, .inl (cC, 600, .inl (zi_F G)))] := by rw [e_n_11_0]; exact hD
            exact W.iret (v := zi_n v) hx hb hr (fun t ht hW => ⟨⟨zi_n v, 0, rfl, ⟨Or.inl ⟨rfl, k12, k13, k14, k15⟩, by rw [hV]; rfl⟩, by rw [ht]; exact hP9, va_K.moved hW.alike hK, hD9⟩, hS.F ht⟩) hS.2.2 dX4_judgeMore_118
          · have hr15 := zh_ok14_r3 hF (by omega) k14 (by rw [hm5]; omega) (by rw [hm5]; omega)
            rw [hm5] at hr15
            refine lv_aload_n hx hb dX4_judgeMore_95 rfl (lv_at hl 1 rfl) ?_
            refine lv_iload_n hx hb dX4_judgeMore_96 rfl (lv_at hl 0 rfl) ?_
            refine zc_V (As := [.int (zi_n (zh_t F 54))]) (rest := []) ⟨hx, hb, hml, hown, hts⟩ (c_M_isThird l D x a a2 a3 cA cB cC F P G n rd br v ln ft hF (by omega) hP0 hG (by omega) (by omega) (by omega) (by omega) (by omega) (zh_t F 54) (by omega)) (cwV 1 hts gX4_judgeMore_X4_isThird rfl rfl rfl (by decide +kernel) ⟨(Nat.le_of_ble_eq_true rfl), (Nat.le_of_ble_eq_true rfl)⟩) hP hK [0, 1, 2, 3] [0, 1, 2] rfl rfl (ci := 5) rfl rfl rfl rfl hl.1 rfl (Nat.le_of_ble_eq_true rfl) dX4_judgeMore_97 ⟨Nat.zero_le _, Nat.zero_le _⟩ (fun r hr1 => ?_)
            rcases hr1 with ⟨rfl, c_12⟩ | ⟨rfl, c_12⟩
            · refine zr_if_ne (tgt := 114) hx hb dX4_judgeMore_100 (by decide) (by omega) (fun c_13 => ?_) (fun c => absurd c (by decide))
              have k15 : zh_ok15 F n := (zh_mT_iff hF (by omega) k14 (by rw [hm5]; omega) (by rw [hm5]; omega)).mp (by rw [hm5, ← hN]; exact c_12)
              refine lv_aload_n hx hb dX4_judgeMore_114 rfl (lv_at hl 1 rfl) ?_
              refine va_get (D := D) (ci := 5) (v := .int (zi_n v)) (C := RX4) (T := TX4) (N := 9) hx hb hts in_X4_judgeMore_X4 hown hK hP 0 rfl rfl 7 (by decide) (hts (.fieldLink RX4 51 "ZHeadsModel" "version" "I") (by decide +kernel)) (fun _ h9 => h9) rfl dX4_judgeMore_115 ?_
              have e_n_14_0 : zh_rdB 0 = br := by rw [hb0]; rfl
              have hP9 : va_P D vwCl [(x, .inr (5, [.int (zi_n ft), .ref a, .int (zi_n n), .int (zi_n rd), .int (zi_n (zh_rdB 0)), .ref a2, .ref a3, .int (zi_n v), .int (zi_n ln)])), (a, .inl (cA, 600, .inl (zi_F F))), (a2, .inl (cB, 600, .inl (zi_F P))), (a3, .inl (cC, 600, .inl (zi_F G)))] H := by rw [e_n_14_0]; exact hP
              have hD9 : va_D A [(x, .inr (5, [.int (zi_n ft), .ref a, .int (zi_n n), .int (zi_n rd), .int (zi_n (zh_rdB 0)), .ref a2, .ref a3, .int (zi_n v), .int (zi_n ln)])), (a, .inl (cA, 600, .inl (zi_F F))), (a2, .inl (cB, 600, .inl (zi_F P))), (a3, .inl (cC, 600, .inl (zi_F G)))] := by rw [e_n_14_0]; exact hD
              exact W.iret (v := zi_n v) hx hb hr (fun t ht hW => ⟨⟨zi_n v, 0, rfl, ⟨Or.inl ⟨rfl, k12, k13, k14, k15⟩, by rw [hV]; rfl⟩, by rw [ht]; exact hP9, va_K.moved hW.alike hK, hD9⟩, hS.F ht⟩) hS.2.2 dX4_judgeMore_118
            · refine zr_if_ne (tgt := 114) hx hb dX4_judgeMore_100 (by decide) (by omega) (fun c => absurd c (by decide)) (fun c_15 => ?_)
              have n15 : ¬ zh_ok15 F n := by intro h; exact c_12 (by have h9 := (zh_mT_iff hF (by omega) k14 (by rw [hm5]; omega) (by rw [hm5]; omega)).mpr h; rw [hm5, ← hN] at h9; exact h9)
              refine lv_aload_n hx hb dX4_judgeMore_103 rfl (lv_at hl 1 rfl) ?_
              refine zr_bipush hx hb dX4_judgeMore_104 (by decide) ?_
              refine lv_iload_n hx hb dX4_judgeMore_106 rfl (lv_at hl 0 rfl) ?_
              refine zr_bipush hx hb dX4_judgeMore_107 (by decide) ?_
              refine zr_iadd hx hb dX4_judgeMore_109 ?_
              refine zc_Vi (As := [.int (zi_n 15), .int (zi_n ((zh_t F 54) + 6))]) (rest := []) (wr := []) (wf := fun (_ : Unit) => [(x, .inr (5, [.int (zi_n ft), .ref a, .int (zi_n n), .int (zi_n rd), .int (zi_n 15), .ref a2, .ref a3, .int (zi_n v), .int (zi_n ln)])), (a, .inl (cA, 600, .inl (zi_F F))), (a2, .inl (cB, 600, .inl (zi_F P))), (a3, .inl (cC, 600, .inl (zi_F G)))]) ⟨hx, hb, hml, hown, hts⟩ (c_M_brokenAt l D x a a2 a3 cA cB cC F P G n rd br v ln ft hF (by omega) hP0 hG (by omega) (by omega) (by omega) (by omega) (by omega) _ 15 ((zh_t F 54) + 6) (by omega) (by omega)) (cwV 2 hts gX4_judgeMore_X4_brokenAt rfl rfl rfl (by decide +kernel) ⟨(Nat.le_of_ble_eq_true rfl), (Nat.le_of_ble_eq_true rfl)⟩) hP hD hK hS hA [0, 1, 2, 3] [] [0, 1, 2] [0, 1, 2, 3] rfl rfl (by decide) rfl (by decide) (by decide) rfl (fun _ => rfl) (fun _ => rfl) (by decide) (ci := 5) rfl rfl rfl rfl hl.1 rfl (Nat.le_of_ble_eq_true rfl) dX4_judgeMore_110 ⟨Nat.zero_le _, Nat.zero_le _⟩ (fun r _ hr1 H locs hP hD hS => ?_)
              have hP : va_P D vwCl [(x, .inr (5, [.int (zi_n ft), .ref a, .int (zi_n n), .int (zi_n rd), .int (zi_n 15), .ref a2, .ref a3, .int (zi_n v), .int (zi_n ln)])), (a, .inl (cA, 600, .inl (zi_F F))), (a2, .inl (cB, 600, .inl (zi_F P))), (a3, .inl (cC, 600, .inl (zi_F G)))] H := hP
              have hD : va_D A [(x, .inr (5, [.int (zi_n ft), .ref a, .int (zi_n n), .int (zi_n rd), .int (zi_n 15), .ref a2, .ref a3, .int (zi_n v), .int (zi_n ln)])), (a, .inl (cA, 600, .inl (zi_F F))), (a2, .inl (cB, 600, .inl (zi_F P))), (a3, .inl (cC, 600, .inl (zi_F G)))] := hD
              obtain ⟨rfl, b_16⟩ := hr1
              have e_n_17_0 : zh_rdB 15 = 15 := by rfl
              have hP9 : va_P D vwCl [(x, .inr (5, [.int (zi_n ft), .ref a, .int (zi_n n), .int (zi_n rd), .int (zi_n (zh_rdB 15)), .ref a2, .ref a3, .int (zi_n v), .int (zi_n ln)])), (a, .inl (cA, 600, .inl (zi_F F))), (a2, .inl (cB, 600, .inl (zi_F P))), (a3, .inl (cC, 600, .inl (zi_F G)))] H := by rw [e_n_17_0]; exact hP
              have hD9 : va_D A [(x, .inr (5, [.int (zi_n ft), .ref a, .int (zi_n n), .int (zi_n rd), .int (zi_n (zh_rdB 15)), .ref a2, .ref a3, .int (zi_n v), .int (zi_n ln)])), (a, .inl (cA, 600, .inl (zi_F F))), (a2, .inl (cB, 600, .inl (zi_F P))), (a3, .inl (cC, 600, .inl (zi_F G)))] := by rw [e_n_17_0]; exact hD
              exact W.iret (v := zi_n (-20 - ((zh_t F 54) + 6))) hx hb hr (fun t ht hW => ⟨⟨zi_n (-20 - ((zh_t F 54) + 6)), 15, rfl, ⟨Or.inr (Or.inr (Or.inr (Or.inr ⟨rfl, k12, k13, k14, n15⟩))), by rw [← hm5]; rfl⟩, by rw [ht]; exact hP9, va_K.moved hW.alike hK, hD9⟩, hS.F ht⟩) hS.2.2 dX4_judgeMore_113
      · refine zr_if_ne (tgt := 82) hx hb dX4_judgeMore_70 (by decide) (by omega) (fun c => absurd c (by decide)) (fun c_18 => ?_)
        have n14 : ¬ zh_ok14 F n := by intro h; exact c_5 (by have h9 := (zh_mM_iff hF (by omega) (by omega)).mpr h; rw [hm5, ← hN] at h9; exact h9)
        refine lv_aload_n hx hb dX4_judgeMore_73 rfl (lv_at hl 1 rfl) ?_
        refine zr_bipush hx hb dX4_judgeMore_74 (by decide) ?_
        refine zr_bipush hx hb dX4_judgeMore_76 (by decide) ?_
        refine zc_Vi (As := [.int (zi_n 14), .int (zi_n 54)]) (rest := []) (wr := []) (wf := fun (_ : Unit) => [(x, .inr (5, [.int (zi_n ft), .ref a, .int (zi_n n), .int (zi_n rd), .int (zi_n 14), .ref a2, .ref a3, .int (zi_n v), .int (zi_n ln)])), (a, .inl (cA, 600, .inl (zi_F F))), (a2, .inl (cB, 600, .inl (zi_F P))), (a3, .inl (cC, 600, .inl (zi_F G)))]) ⟨hx, hb, hml, hown, hts⟩ (c_M_brokenAt l D x a a2 a3 cA cB cC F P G n rd br v ln ft hF (by omega) hP0 hG (by omega) (by omega) (by omega) (by omega) (by omega) _ 14 54 (by omega) (by omega)) (cwV 2 hts gX4_judgeMore_X4_brokenAt rfl rfl rfl (by decide +kernel) ⟨(Nat.le_of_ble_eq_true rfl), (Nat.le_of_ble_eq_true rfl)⟩) hP hD hK hS hA [0, 1, 2, 3] [] [0, 1, 2] [0, 1, 2, 3] rfl rfl (by decide) rfl (by decide) (by decide) rfl (fun _ => rfl) (fun _ => rfl) (by decide) (ci := 5) rfl rfl rfl rfl hl.1 rfl (Nat.le_of_ble_eq_true rfl) dX4_judgeMore_78 ⟨Nat.zero_le _, Nat.zero_le _⟩ (fun r _ hr1 H locs hP hD hS => ?_)
        have hP : va_P D vwCl [(x, .inr (5, [.int (zi_n ft), .ref a, .int (zi_n n), .int (zi_n rd), .int (zi_n 14), .ref a2, .ref a3, .int (zi_n v), .int (zi_n ln)])), (a, .inl (cA, 600, .inl (zi_F F))), (a2, .inl (cB, 600, .inl (zi_F P))), (a3, .inl (cC, 600, .inl (zi_F G)))] H := hP
        have hD : va_D A [(x, .inr (5, [.int (zi_n ft), .ref a, .int (zi_n n), .int (zi_n rd), .int (zi_n 14), .ref a2, .ref a3, .int (zi_n v), .int (zi_n ln)])), (a, .inl (cA, 600, .inl (zi_F F))), (a2, .inl (cB, 600, .inl (zi_F P))), (a3, .inl (cC, 600, .inl (zi_F G)))] := hD
        obtain ⟨rfl, b_19⟩ := hr1
        have e_n_20_0 : zh_rdB 14 = 14 := by rfl
        have hP9 : va_P D vwCl [(x, .inr (5, [.int (zi_n ft), .ref a, .int (zi_n n), .int (zi_n rd), .int (zi_n (zh_rdB 14)), .ref a2, .ref a3, .int (zi_n v), .int (zi_n ln)])), (a, .inl (cA, 600, .inl (zi_F F))), (a2, .inl (cB, 600, .inl (zi_F P))), (a3, .inl (cC, 600, .inl (zi_F G)))] H := by rw [e_n_20_0]; exact hP
        have hD9 : va_D A [(x, .inr (5, [.int (zi_n ft), .ref a, .int (zi_n n), .int (zi_n rd), .int (zi_n (zh_rdB 14)), .ref a2, .ref a3, .int (zi_n v), .int (zi_n ln)])), (a, .inl (cA, 600, .inl (zi_F F))), (a2, .inl (cB, 600, .inl (zi_F P))), (a3, .inl (cC, 600, .inl (zi_F G)))] := by rw [e_n_20_0]; exact hD
        exact W.iret (v := zi_n (-20 - 54)) hx hb hr (fun t ht hW => ⟨⟨zi_n (-20 - 54), 14, rfl, ⟨Or.inr (Or.inr (Or.inr (Or.inl ⟨rfl, k12, k13, n14⟩))), rfl⟩, by rw [ht]; exact hP9, va_K.moved hW.alike hK, hD9⟩, hS.F ht⟩) hS.2.2 dX4_judgeMore_81
    · refine zr_if_ne (tgt := 58) hx hb dX4_judgeMore_46 (by decide) (by omega) (fun c => absurd c (by decide)) (fun c_21 => ?_)
      have n13 : ¬ zh_ok13 F n := by intro h; exact c_2 (by have h9 := zh_mE_iff.mpr h; rw [he5, ← hN] at h9; exact h9)
      refine lv_aload_n hx hb dX4_judgeMore_49 rfl (lv_at hl 0 rfl) ?_
      refine zr_bipush hx hb dX4_judgeMore_50 (by decide) ?_
      refine zr_bipush hx hb dX4_judgeMore_52 (by decide) ?_
      refine zc_Vi (As := [.int (zi_n 13), .int (zi_n 46)]) (rest := []) (wr := []) (wf := fun (_ : Unit) => [(x, .inr (5, [.int (zi_n ft), .ref a, .int (zi_n n), .int (zi_n rd), .int (zi_n 13), .ref a2, .ref a3, .int (zi_n v), .int (zi_n ln)])), (a, .inl (cA, 600, .inl (zi_F F))), (a2, .inl (cB, 600, .inl (zi_F P))), (a3, .inl (cC, 600, .inl (zi_F G)))]) ⟨hx, hb, hml, hown, hts⟩ (c_M_brokenAt l D x a a2 a3 cA cB cC F P G n rd br v ln ft hF (by omega) hP0 hG (by omega) (by omega) (by omega) (by omega) (by omega) _ 13 46 (by omega) (by omega)) (cwV 2 hts gX4_judgeMore_X4_brokenAt rfl rfl rfl (by decide +kernel) ⟨(Nat.le_of_ble_eq_true rfl), (Nat.le_of_ble_eq_true rfl)⟩) hP hD hK hS hA [0, 1, 2, 3] [] [0, 1, 2] [0, 1, 2, 3] rfl rfl (by decide) rfl (by decide) (by decide) rfl (fun _ => rfl) (fun _ => rfl) (by decide) (ci := 5) rfl rfl rfl rfl hl.1 rfl (Nat.le_of_ble_eq_true rfl) dX4_judgeMore_54 ⟨Nat.zero_le _, Nat.zero_le _⟩ (fun r _ hr1 H locs hP hD hS => ?_)
      have hP : va_P D vwCl [(x, .inr (5, [.int (zi_n ft), .ref a, .int (zi_n n), .int (zi_n rd), .int (zi_n 13), .ref a2, .ref a3, .int (zi_n v), .int (zi_n ln)])), (a, .inl (cA, 600, .inl (zi_F F))), (a2, .inl (cB, 600, .inl (zi_F P))), (a3, .inl (cC, 600, .inl (zi_F G)))] H := hP
      have hD : va_D A [(x, .inr (5, [.int (zi_n ft), .ref a, .int (zi_n n), .int (zi_n rd), .int (zi_n 13), .ref a2, .ref a3, .int (zi_n v), .int (zi_n ln)])), (a, .inl (cA, 600, .inl (zi_F F))), (a2, .inl (cB, 600, .inl (zi_F P))), (a3, .inl (cC, 600, .inl (zi_F G)))] := hD
      obtain ⟨rfl, b_22⟩ := hr1
      have e_n_23_0 : zh_rdB 13 = 13 := by rfl
      have hP9 : va_P D vwCl [(x, .inr (5, [.int (zi_n ft), .ref a, .int (zi_n n), .int (zi_n rd), .int (zi_n (zh_rdB 13)), .ref a2, .ref a3, .int (zi_n v), .int (zi_n ln)])), (a, .inl (cA, 600, .inl (zi_F F))), (a2, .inl (cB, 600, .inl (zi_F P))), (a3, .inl (cC, 600, .inl (zi_F G)))] H := by rw [e_n_23_0]; exact hP
      have hD9 : va_D A [(x, .inr (5, [.int (zi_n ft), .ref a, .int (zi_n n), .int (zi_n rd), .int (zi_n (zh_rdB 13)), .ref a2, .ref a3, .int (zi_n v), .int (zi_n ln)])), (a, .inl (cA, 600, .inl (zi_F F))), (a2, .inl (cB, 600, .inl (zi_F P))), (a3, .inl (cC, 600, .inl (zi_F G)))] := by rw [e_n_23_0]; exact hD
      exact W.iret (v := zi_n (-20 - 46)) hx hb hr (fun t ht hW => ⟨⟨zi_n (-20 - 46), 13, rfl, ⟨Or.inr (Or.inr (Or.inl ⟨rfl, k12, n13⟩)), rfl⟩, by rw [ht]; exact hP9, va_K.moved hW.alike hK, hD9⟩, hS.F ht⟩) hS.2.2 dX4_judgeMore_57
  refine lv_aload_n hx hb dX4_judgeMore_0 rfl (lv_at hl 0 rfl) ?_
  refine zr_bipush hx hb dX4_judgeMore_1 (by decide) ?_
  refine zc_V (As := [.int (zi_n 52)]) (rest := []) ⟨hx, hb, hml, hown, hts⟩ (c_M_two_k l D x a a2 a3 cA cB cC F P G n rd br v ln ft hF (by omega) hP0 hG (by omega) (by omega) (by omega) (by omega) (by omega) 52 52 rfl (by omega)) (cwV 1 hts gX4_judgeMore_X4_two rfl rfl rfl (by decide +kernel) ⟨(Nat.le_of_ble_eq_true rfl), (Nat.le_of_ble_eq_true rfl)⟩) hP hK [0, 1, 2, 3] [0, 1, 2] rfl rfl (ci := 5) rfl rfl rfl rfl hl.1 rfl (Nat.le_of_ble_eq_true rfl) dX4_judgeMore_3 ⟨Nat.zero_le _, Nat.zero_le _⟩ (fun r hr1 => ?_)
  obtain ⟨rfl, b_24⟩ := hr1
  refine zr_if_eq (tgt := 36) hx hb dX4_judgeMore_6 (by decide) (by omega) (fun c_25 => ?_) (fun c_25 => ?_)
  · exact key36 (by unfold zh_ok12; omega) _ _ hP hD hS _ (lv_sub hl [0] rfl)
  · refine lv_aload_n hx hb dX4_judgeMore_9 rfl (lv_at hl 0 rfl) ?_
    refine zr_bipush hx hb dX4_judgeMore_10 (by decide) ?_
    refine zc_V (As := [.int (zi_n 52)]) (rest := []) ⟨hx, hb, hml, hown, hts⟩ (c_M_two_k l D x a a2 a3 cA cB cC F P G n rd br v ln ft hF (by omega) hP0 hG (by omega) (by omega) (by omega) (by omega) (by omega) 52 52 rfl (by omega)) (cwV 1 hts gX4_judgeMore_X4_two rfl rfl rfl (by decide +kernel) ⟨(Nat.le_of_ble_eq_true rfl), (Nat.le_of_ble_eq_true rfl)⟩) hP hK [0, 1, 2, 3] [0, 1, 2] rfl rfl (ci := 5) rfl rfl rfl rfl hl.1 rfl (Nat.le_of_ble_eq_true rfl) dX4_judgeMore_12 ⟨Nat.zero_le _, Nat.zero_le _⟩ (fun r hr1 => ?_)
    obtain ⟨rfl, b_27⟩ := hr1
    refine zr_bipush hx hb dX4_judgeMore_15 (by decide) ?_
    refine lv_aload_n hx hb dX4_judgeMore_17 rfl (lv_at hl 0 rfl) ?_
    refine va_get (D := D) (ci := 5) (v := .int (zi_n ln)) (C := RX4) (T := TX4) (N := 9) hx hb hts in_X4_judgeMore_X4 hown hK hP 0 rfl rfl 8 (by decide) (hts (.fieldLink RX4 54 "ZHeadsModel" "length" "I") (by decide +kernel)) (fun _ h9 => h9) rfl dX4_judgeMore_18 ?_
    refine zc_S (As := [.int (zi_n (zh_t F 52)), .int (zi_n 78), .int (zi_n ln)]) (rest := []) ⟨hx, hb, hml, hown, hts⟩ (c_M_fits l (zh_t F 52) 78 ln (by omega) (by omega) (by omega) (by omega)) (va_cwS 3 hts gX4_judgeMore_X4_fits rfl rfl rfl (by decide +kernel) ⟨(Nat.le_of_ble_eq_true rfl), (Nat.le_of_ble_eq_true rfl)⟩) rfl hl.1 rfl (Nat.le_of_ble_eq_true rfl) dX4_judgeMore_21 ⟨Nat.zero_le _, Nat.zero_le _⟩ (fun r hr1 => ?_)
    rcases hr1 with ⟨rfl, c_28⟩ | ⟨rfl, c_28⟩
    · refine zr_if_ne (tgt := 36) hx hb dX4_judgeMore_24 (by decide) (by omega) (fun c_29 => ?_) (fun c => absurd c (by decide))
      exact key36 (by unfold zh_ok12; omega) _ _ hP hD hS _ (lv_sub hl [0] rfl)
    · refine zr_if_ne (tgt := 36) hx hb dX4_judgeMore_24 (by decide) (by omega) (fun c => absurd c (by decide)) (fun c_31 => ?_)
      have n12 : ¬ zh_ok12 F n := by unfold zh_ok12; omega
      refine lv_aload_n hx hb dX4_judgeMore_27 rfl (lv_at hl 0 rfl) ?_
      refine zr_bipush hx hb dX4_judgeMore_28 (by decide) ?_
      refine zr_bipush hx hb dX4_judgeMore_30 (by decide) ?_
      refine zc_Vi (As := [.int (zi_n 12), .int (zi_n 52)]) (rest := []) (wr := []) (wf := fun (_ : Unit) => [(x, .inr (5, [.int (zi_n ft), .ref a, .int (zi_n n), .int (zi_n rd), .int (zi_n 12), .ref a2, .ref a3, .int (zi_n v), .int (zi_n ln)])), (a, .inl (cA, 600, .inl (zi_F F))), (a2, .inl (cB, 600, .inl (zi_F P))), (a3, .inl (cC, 600, .inl (zi_F G)))]) ⟨hx, hb, hml, hown, hts⟩ (c_M_brokenAt l D x a a2 a3 cA cB cC F P G n rd br v ln ft hF (by omega) hP0 hG (by omega) (by omega) (by omega) (by omega) (by omega) _ 12 52 (by omega) (by omega)) (cwV 2 hts gX4_judgeMore_X4_brokenAt rfl rfl rfl (by decide +kernel) ⟨(Nat.le_of_ble_eq_true rfl), (Nat.le_of_ble_eq_true rfl)⟩) hP hD hK hS hA [0, 1, 2, 3] [] [0, 1, 2] [0, 1, 2, 3] rfl rfl (by decide) rfl (by decide) (by decide) rfl (fun _ => rfl) (fun _ => rfl) (by decide) (ci := 5) rfl rfl rfl rfl hl.1 rfl (Nat.le_of_ble_eq_true rfl) dX4_judgeMore_32 ⟨Nat.zero_le _, Nat.zero_le _⟩ (fun r _ hr1 H locs hP hD hS => ?_)
      have hP : va_P D vwCl [(x, .inr (5, [.int (zi_n ft), .ref a, .int (zi_n n), .int (zi_n rd), .int (zi_n 12), .ref a2, .ref a3, .int (zi_n v), .int (zi_n ln)])), (a, .inl (cA, 600, .inl (zi_F F))), (a2, .inl (cB, 600, .inl (zi_F P))), (a3, .inl (cC, 600, .inl (zi_F G)))] H := hP
      have hD : va_D A [(x, .inr (5, [.int (zi_n ft), .ref a, .int (zi_n n), .int (zi_n rd), .int (zi_n 12), .ref a2, .ref a3, .int (zi_n v), .int (zi_n ln)])), (a, .inl (cA, 600, .inl (zi_F F))), (a2, .inl (cB, 600, .inl (zi_F P))), (a3, .inl (cC, 600, .inl (zi_F G)))] := hD
      obtain ⟨rfl, b_32⟩ := hr1
      have e_n_33_0 : zh_rdB 12 = 12 := by rfl
      have hP9 : va_P D vwCl [(x, .inr (5, [.int (zi_n ft), .ref a, .int (zi_n n), .int (zi_n rd), .int (zi_n (zh_rdB 12)), .ref a2, .ref a3, .int (zi_n v), .int (zi_n ln)])), (a, .inl (cA, 600, .inl (zi_F F))), (a2, .inl (cB, 600, .inl (zi_F P))), (a3, .inl (cC, 600, .inl (zi_F G)))] H := by rw [e_n_33_0]; exact hP
      have hD9 : va_D A [(x, .inr (5, [.int (zi_n ft), .ref a, .int (zi_n n), .int (zi_n rd), .int (zi_n (zh_rdB 12)), .ref a2, .ref a3, .int (zi_n v), .int (zi_n ln)])), (a, .inl (cA, 600, .inl (zi_F F))), (a2, .inl (cB, 600, .inl (zi_F P))), (a3, .inl (cC, 600, .inl (zi_F G)))] := by rw [e_n_33_0]; exact hD
      exact W.iret (v := zi_n (-20 - 52)) hx hb hr (fun t ht hW => ⟨⟨zi_n (-20 - 52), 12, rfl, ⟨Or.inr (Or.inl ⟨rfl, n12⟩), rfl⟩, by rw [ht]; exact hP9, va_K.moved hW.alike hK, hD9⟩, hS.F ht⟩) hS.2.2 dX4_judgeMore_35

theorem in_X0_holds_X0 : ∀ w ∈ u_ws RX0 TX0 1, w ∈ wsX0_holds := by decide +kernel
set_option maxHeartbeats 4000000 in
set_option maxRecDepth 100000 in
theorem c_Hd_holds1 (l : Launch) (D : va_G) (hh q a : Nat) (cA : ClassId) (F : Nat → Int) (n : Int) (hF : zi_By F) (hn : 0 ≤ n ∧ n ≤ 600) : Met l yX0_holds wsX0_holds ({ frames := 1, cells := 0, slots := 0, locals := 21 }) (va_Pc [.ref hh, .int (zi_n 1)] (zp_Q D vwCl [(hh, .inr (2, [.ref q])), (q, .inr (3, [.ref a, .int (zi_n n)])), (a, .inl (cA, 600, .inl (zi_F F)))] [(cA, .int)])) (vp_Si (fun r => (r = zi_n 1 ∧ (zh_ok1 F n)) ∨ (r = zi_n 0 ∧ ¬ (zh_ok1 F n)))) 0 0 (fun _ => False) := by
  refine Met.ofW (cc := cX0_holds) (maxL := 2) (ret := (some .boolean)) (by decide) rfl ?_
  intro p e s m args below meth c s₁ B hml hv
  obtain ⟨rfl, hP, hK⟩ := hv
  have hx := B.exec
  have hb := B.bytes
  have hr := B.returns
  have hts := atoms_spec (ws := wsX0_holds) B.pre
  have hown : s.vm.findClass RX0 = some m.cls := findClass_of_methodNamed B.named
  have hlocks := B.notSynchronized
  have hl := lv_entry ([.ref hh, .int (zi_n 1)]) (n := 2) (Nat.le_of_ble_eq_true rfl)
  rw [lg_entry_eq]
  generalize (lg_sl ([.ref hh, .int (zi_n 1)]) ++ List.replicate (2 - (lg_sl ([.ref hh, .int (zi_n 1)])).length) Slot.unset).toArray = ls at hl ⊢
  have hl : lv_has ls 2 [(0, .ref hh), (1, .int (zi_n 1))] := hl
  refine lv_iload_n hx hb dX0_holds_0 rfl (lv_at hl 1 rfl) ?_
  refine zr_tabIn (tgt := 72) hx hb dX0_holds_1 (by decide) (by decide) (by decide) rfl (by decide) ?_
  refine lv_aload_n hx hb dX0_holds_72 rfl (lv_at hl 0 rfl) ?_
  refine va_get (D := D) (ci := 2) (v := .ref q) (C := RX0) (T := TX0) (N := 1) hx hb hts in_X0_holds_X0 hown hK hP 0 rfl rfl 0 (by decide) (hts (.fieldLink RX0 9 "ZHeads$Head" "row" "LZHeads$Row;") (by decide +kernel)) (fun _ h9 => h9) rfl dX0_holds_73 ?_
  refine zr_iconst hx hb dX0_holds_76 ?_
  refine zc_V (As := [.int (zi_n 0)]) (rest := []) ⟨hx, hb, hml, hown, hts⟩ (c_Row_has l D q a cA F n hF (by omega) 0 (by omega)) (cwV 1 hts gX0_holds_X2_has rfl rfl rfl (by decide +kernel) ⟨(Nat.le_of_ble_eq_true rfl), (Nat.le_of_ble_eq_true rfl)⟩) hP hK [1, 2] [0] rfl rfl (ci := 3) rfl rfl rfl rfl hl.1 rfl (Nat.le_of_ble_eq_true rfl) dX0_holds_77 ⟨Nat.zero_le _, Nat.zero_le _⟩ (fun r hr1 => ?_)
  rcases hr1 with ⟨rfl, c_1⟩ | ⟨rfl, c_1⟩
  · exact W.zret (v := zi_n 1) (ty := .boolean) hx hb hr zl_b1 (fun t ht hW => ⟨_, rfl, zl_t (by first | assumption | (unfold zh_ok1; omega) | (unfold zh_ok1; (repeat' split) <;> omega) | (unfold zh_ok1; exact Or.inr (by assumption)) | (unfold zh_ok1; exact Or.inl (by assumption)) | (unfold zh_ok1; intro h; rcases h with h | h <;> first | omega | contradiction)), ht⟩) (fun q hq => nomatch hq) dX0_holds_80
  · exact W.zret (v := zi_n 0) (ty := .boolean) hx hb hr zl_b0 (fun t ht hW => ⟨_, rfl, zl_f (by first | assumption | (unfold zh_ok1; omega) | (unfold zh_ok1; (repeat' split) <;> omega) | (unfold zh_ok1; exact Or.inr (by assumption)) | (unfold zh_ok1; exact Or.inl (by assumption)) | (unfold zh_ok1; intro h; rcases h with h | h <;> first | omega | contradiction)), ht⟩) (fun q hq => nomatch hq) dX0_holds_80

set_option maxHeartbeats 4000000 in
set_option maxRecDepth 100000 in
theorem c_Hd_holds2 (l : Launch) (D : va_G) (hh q a : Nat) (cA : ClassId) (F : Nat → Int) (n : Int) (hF : zi_By F) (hn : 0 ≤ n ∧ n ≤ 600) (h1 : 1 ≤ n) : Met l yX0_holds wsX0_holds ({ frames := 2, cells := 0, slots := 0, locals := 41 }) (va_Pc [.ref hh, .int (zi_n 2)] (zp_Q D vwCl [(hh, .inr (2, [.ref q])), (q, .inr (3, [.ref a, .int (zi_n n)])), (a, .inl (cA, 600, .inl (zi_F F)))] [(cA, .int)])) (vp_Si (fun r => (r = zi_n 1 ∧ (zh_ok2 F n)) ∨ (r = zi_n 0 ∧ ¬ (zh_ok2 F n)))) 0 0 (fun _ => False) := by
  refine Met.ofW (cc := cX0_holds) (maxL := 2) (ret := (some .boolean)) (by decide) rfl ?_
  intro p e s m args below meth c s₁ B hml hv
  obtain ⟨rfl, hP, hK⟩ := hv
  have hx := B.exec
  have hb := B.bytes
  have hr := B.returns
  have hts := atoms_spec (ws := wsX0_holds) B.pre
  have hown : s.vm.findClass RX0 = some m.cls := findClass_of_methodNamed B.named
  have hlocks := B.notSynchronized
  have hl := lv_entry ([.ref hh, .int (zi_n 2)]) (n := 2) (Nat.le_of_ble_eq_true rfl)
  rw [lg_entry_eq]
  generalize (lg_sl ([.ref hh, .int (zi_n 2)]) ++ List.replicate (2 - (lg_sl ([.ref hh, .int (zi_n 2)])).length) Slot.unset).toArray = ls at hl ⊢
  have hl : lv_has ls 2 [(0, .ref hh), (1, .int (zi_n 2))] := hl
  refine lv_iload_n hx hb dX0_holds_0 rfl (lv_at hl 1 rfl) ?_
  refine zr_tabIn (tgt := 81) hx hb dX0_holds_1 (by decide) (by decide) (by decide) rfl (by decide) ?_
  refine lv_aload_n hx hb dX0_holds_81 rfl (lv_at hl 0 rfl) ?_
  refine zc_V (As := []) (rest := []) ⟨hx, hb, hml, hown, hts⟩ (c_Hd_version l D hh q a cA F n hF (by omega) (by omega)) (cwV 0 hts gX0_holds_X0_version rfl rfl rfl (by decide +kernel) ⟨(Nat.le_of_ble_eq_true rfl), (Nat.le_of_ble_eq_true rfl)⟩) hP hK [0, 1, 2] [0] rfl rfl (ci := 2) rfl rfl rfl rfl hl.1 rfl (Nat.le_of_ble_eq_true rfl) dX0_holds_82 ⟨Nat.zero_le _, Nat.zero_le _⟩ (fun r hr1 => ?_)
  obtain ⟨rfl, b_1⟩ := hr1
  refine zr_iconst hx hb dX0_holds_85 ?_
  refine zr_bipush hx hb dX0_holds_86 (by decide) ?_
  refine zc_S (As := [.int (zi_n (F 0)), .int (zi_n 1), .int (zi_n 8)]) (rest := []) ⟨hx, hb, hml, hown, hts⟩ (c_Hd_isWithin l (F 0) 1 8 (by omega) (by omega) (by omega)) (va_cwS 3 hts gX0_holds_X0_isWithin rfl rfl rfl (by decide +kernel) ⟨(Nat.le_of_ble_eq_true rfl), (Nat.le_of_ble_eq_true rfl)⟩) rfl hl.1 rfl (Nat.le_of_ble_eq_true rfl) dX0_holds_88 ⟨Nat.zero_le _, Nat.zero_le _⟩ (fun r hr1 => ?_)
  rcases hr1 with ⟨rfl, c_2⟩ | ⟨rfl, c_2⟩
  · exact W.zret (v := zi_n 1) (ty := .boolean) hx hb hr zl_b1 (fun t ht hW => ⟨_, rfl, zl_t (by first | assumption | (unfold zh_ok2; omega) | (unfold zh_ok2; (repeat' split) <;> omega) | (unfold zh_ok2; exact Or.inr (by assumption)) | (unfold zh_ok2; exact Or.inl (by assumption)) | (unfold zh_ok2; intro h; rcases h with h | h <;> first | omega | contradiction)), ht⟩) (fun q hq => nomatch hq) dX0_holds_91
  · exact W.zret (v := zi_n 0) (ty := .boolean) hx hb hr zl_b0 (fun t ht hW => ⟨_, rfl, zl_f (by first | assumption | (unfold zh_ok2; omega) | (unfold zh_ok2; (repeat' split) <;> omega) | (unfold zh_ok2; exact Or.inr (by assumption)) | (unfold zh_ok2; exact Or.inl (by assumption)) | (unfold zh_ok2; intro h; rcases h with h | h <;> first | omega | contradiction)), ht⟩) (fun q hq => nomatch hq) dX0_holds_91

set_option maxHeartbeats 4000000 in
set_option maxRecDepth 100000 in
theorem c_Hd_holds3 (l : Launch) (D : va_G) (hh q a : Nat) (cA : ClassId) (F : Nat → Int) (n : Int) (hF : zi_By F) (hn : 0 ≤ n ∧ n ≤ 600) : Met l yX0_holds wsX0_holds ({ frames := 1, cells := 0, slots := 0, locals := 20 }) (va_Pc [.ref hh, .int (zi_n 3)] (zp_Q D vwCl [(hh, .inr (2, [.ref q])), (q, .inr (3, [.ref a, .int (zi_n n)])), (a, .inl (cA, 600, .inl (zi_F F)))] [(cA, .int)])) (vp_Si (fun r => (r = zi_n 1 ∧ (zh_ok3 F n)) ∨ (r = zi_n 0 ∧ ¬ (zh_ok3 F n)))) 0 0 (fun _ => False) := by
  refine Met.ofW (cc := cX0_holds) (maxL := 2) (ret := (some .boolean)) (by decide) rfl ?_
  intro p e s m args below meth c s₁ B hml hv
  obtain ⟨rfl, hP, hK⟩ := hv
  have hx := B.exec
  have hb := B.bytes
  have hr := B.returns
  have hts := atoms_spec (ws := wsX0_holds) B.pre
  have hown : s.vm.findClass RX0 = some m.cls := findClass_of_methodNamed B.named
  have hlocks := B.notSynchronized
  have hl := lv_entry ([.ref hh, .int (zi_n 3)]) (n := 2) (Nat.le_of_ble_eq_true rfl)
  rw [lg_entry_eq]
  generalize (lg_sl ([.ref hh, .int (zi_n 3)]) ++ List.replicate (2 - (lg_sl ([.ref hh, .int (zi_n 3)])).length) Slot.unset).toArray = ls at hl ⊢
  have hl : lv_has ls 2 [(0, .ref hh), (1, .int (zi_n 3))] := hl
  refine lv_iload_n hx hb dX0_holds_0 rfl (lv_at hl 1 rfl) ?_
  refine zr_tabIn (tgt := 92) hx hb dX0_holds_1 (by decide) (by decide) (by decide) rfl (by decide) ?_
  refine lv_aload_n hx hb dX0_holds_92 rfl (lv_at hl 0 rfl) ?_
  refine va_get (D := D) (ci := 2) (v := .ref q) (C := RX0) (T := TX0) (N := 1) hx hb hts in_X0_holds_X0 hown hK hP 0 rfl rfl 0 (by decide) (hts (.fieldLink RX0 9 "ZHeads$Head" "row" "LZHeads$Row;") (by decide +kernel)) (fun _ h9 => h9) rfl dX0_holds_93 ?_
  refine zc_V (As := []) (rest := []) ⟨hx, hb, hml, hown, hts⟩ (c_Row_count l D q a cA F n hF (by omega)) (cwV 0 hts gX0_holds_X2_count rfl rfl rfl (by decide +kernel) ⟨(Nat.le_of_ble_eq_true rfl), (Nat.le_of_ble_eq_true rfl)⟩) hP hK [1, 2] [0] rfl rfl (ci := 3) rfl rfl rfl rfl hl.1 rfl (Nat.le_of_ble_eq_true rfl) dX0_holds_96 ⟨Nat.zero_le _, Nat.zero_le _⟩ (fun r hr1 => ?_)
  obtain ⟨rfl, b_1⟩ := hr1
  refine zr_bipush hx hb dX0_holds_99 (by decide) ?_
  refine zr_icmp_lt (tgt := 108) hx hb dX0_holds_101 (by decide) (by omega) (by omega) (fun c_2 => ?_) (fun c_2 => ?_)
  · refine zr_iconst hx hb dX0_holds_108 ?_
    exact W.zret (v := zi_n 0) (ty := .boolean) hx hb hr zl_b0 (fun t ht hW => ⟨_, rfl, zl_f (by first | assumption | (unfold zh_ok3; omega) | (unfold zh_ok3; (repeat' split) <;> omega) | (unfold zh_ok3; exact Or.inr (by assumption)) | (unfold zh_ok3; exact Or.inl (by assumption)) | (unfold zh_ok3; intro h; rcases h with h | h <;> first | omega | contradiction)), ht⟩) (fun q hq => nomatch hq) dX0_holds_109
  · refine zr_iconst hx hb dX0_holds_104 ?_
    refine lv_goto (tgt := 109) hx hb dX0_holds_105 (by decide) ?_
    exact W.zret (v := zi_n 1) (ty := .boolean) hx hb hr zl_b1 (fun t ht hW => ⟨_, rfl, zl_t (by first | assumption | (unfold zh_ok3; omega) | (unfold zh_ok3; (repeat' split) <;> omega) | (unfold zh_ok3; exact Or.inr (by assumption)) | (unfold zh_ok3; exact Or.inl (by assumption)) | (unfold zh_ok3; intro h; rcases h with h | h <;> first | omega | contradiction)), ht⟩) (fun q hq => nomatch hq) dX0_holds_109

set_option maxHeartbeats 4000000 in
set_option maxRecDepth 100000 in
theorem c_Hd_holds4 (l : Launch) (D : va_G) (hh q a : Nat) (cA : ClassId) (F : Nat → Int) (n : Int) (hF : zi_By F) (hn : 0 ≤ n ∧ n ≤ 600) (h64 : 64 ≤ n) : Met l yX0_holds wsX0_holds ({ frames := 4, cells := 0, slots := 0, locals := 83 }) (va_Pc [.ref hh, .int (zi_n 4)] (zp_Q D vwCl [(hh, .inr (2, [.ref q])), (q, .inr (3, [.ref a, .int (zi_n n)])), (a, .inl (cA, 600, .inl (zi_F F)))] [(cA, .int)])) (vp_Si (fun r => (r = zi_n 1 ∧ (zh_ok4 F n)) ∨ (r = zi_n 0 ∧ ¬ (zh_ok4 F n)))) 0 0 (fun _ => False) := by
  refine Met.ofW (cc := cX0_holds) (maxL := 2) (ret := (some .boolean)) (by decide) rfl ?_
  intro p e s m args below meth c s₁ B hml hv
  obtain ⟨rfl, hP, hK⟩ := hv
  have hx := B.exec
  have hb := B.bytes
  have hr := B.returns
  have hts := atoms_spec (ws := wsX0_holds) B.pre
  have hown : s.vm.findClass RX0 = some m.cls := findClass_of_methodNamed B.named
  have hlocks := B.notSynchronized
  have hl := lv_entry ([.ref hh, .int (zi_n 4)]) (n := 2) (Nat.le_of_ble_eq_true rfl)
  rw [lg_entry_eq]
  generalize (lg_sl ([.ref hh, .int (zi_n 4)]) ++ List.replicate (2 - (lg_sl ([.ref hh, .int (zi_n 4)])).length) Slot.unset).toArray = ls at hl ⊢
  have hl : lv_has ls 2 [(0, .ref hh), (1, .int (zi_n 4))] := hl
  refine lv_iload_n hx hb dX0_holds_0 rfl (lv_at hl 1 rfl) ?_
  refine zr_tabIn (tgt := 110) hx hb dX0_holds_1 (by decide) (by decide) (by decide) rfl (by decide) ?_
  refine lv_aload_n hx hb dX0_holds_110 rfl (lv_at hl 0 rfl) ?_
  refine zc_V (As := []) (rest := []) ⟨hx, hb, hml, hown, hts⟩ (c_Hd_length l D hh q a cA F n hF (by omega) (by omega)) (cwV 0 hts gX0_holds_X0_length rfl rfl rfl (by decide +kernel) ⟨(Nat.le_of_ble_eq_true rfl), (Nat.le_of_ble_eq_true rfl)⟩) hP hK [0, 1, 2] [0] rfl rfl (ci := 2) rfl rfl rfl rfl hl.1 rfl (Nat.le_of_ble_eq_true rfl) dX0_holds_111 ⟨Nat.zero_le _, Nat.zero_le _⟩ (fun r hr1 => ?_)
  obtain ⟨rfl, b_1⟩ := hr1
  refine zr_bipush hx hb dX0_holds_114 (by decide) ?_
  refine lv_aload_n hx hb dX0_holds_116 rfl (lv_at hl 0 rfl) ?_
  refine va_get (D := D) (ci := 2) (v := .ref q) (C := RX0) (T := TX0) (N := 1) hx hb hts in_X0_holds_X0 hown hK hP 0 rfl rfl 0 (by decide) (hts (.fieldLink RX0 9 "ZHeads$Head" "row" "LZHeads$Row;") (by decide +kernel)) (fun _ h9 => h9) rfl dX0_holds_117 ?_
  refine zc_V (As := []) (rest := [.int (zi_n 64), .int (zi_n (zh_len F n))]) ⟨hx, hb, hml, hown, hts⟩ (c_Row_count l D q a cA F n hF (by omega)) (cwV 0 hts gX0_holds_X2_count rfl rfl rfl (by decide +kernel) ⟨(Nat.le_of_ble_eq_true rfl), (Nat.le_of_ble_eq_true rfl)⟩) hP hK [1, 2] [0] rfl rfl (ci := 3) rfl rfl rfl rfl hl.1 rfl (Nat.le_of_ble_eq_true rfl) dX0_holds_120 ⟨Nat.zero_le _, Nat.zero_le _⟩ (fun r hr1 => ?_)
  obtain ⟨rfl, b_2⟩ := hr1
  refine zc_S (As := [.int (zi_n (zh_len F n)), .int (zi_n 64), .int (zi_n n)]) (rest := []) ⟨hx, hb, hml, hown, hts⟩ (c_Hd_isWithin l (zh_len F n) 64 n (by omega) (by omega) (by omega)) (va_cwS 3 hts gX0_holds_X0_isWithin rfl rfl rfl (by decide +kernel) ⟨(Nat.le_of_ble_eq_true rfl), (Nat.le_of_ble_eq_true rfl)⟩) rfl hl.1 rfl (Nat.le_of_ble_eq_true rfl) dX0_holds_123 ⟨Nat.zero_le _, Nat.zero_le _⟩ (fun r hr1 => ?_)
  rcases hr1 with ⟨rfl, c_3⟩ | ⟨rfl, c_3⟩
  · exact W.zret (v := zi_n 1) (ty := .boolean) hx hb hr zl_b1 (fun t ht hW => ⟨_, rfl, zl_t (by first | assumption | (unfold zh_ok4; omega) | (unfold zh_ok4; (repeat' split) <;> omega) | (unfold zh_ok4; exact Or.inr (by assumption)) | (unfold zh_ok4; exact Or.inl (by assumption)) | (unfold zh_ok4; intro h; rcases h with h | h <;> first | omega | contradiction)), ht⟩) (fun q hq => nomatch hq) dX0_holds_126
  · exact W.zret (v := zi_n 0) (ty := .boolean) hx hb hr zl_b0 (fun t ht hW => ⟨_, rfl, zl_f (by first | assumption | (unfold zh_ok4; omega) | (unfold zh_ok4; (repeat' split) <;> omega) | (unfold zh_ok4; exact Or.inr (by assumption)) | (unfold zh_ok4; exact Or.inl (by assumption)) | (unfold zh_ok4; intro h; rcases h with h | h <;> first | omega | contradiction)), ht⟩) (fun q hq => nomatch hq) dX0_holds_126

set_option maxHeartbeats 4000000 in
set_option maxRecDepth 100000 in
theorem c_Hd_holds5 (l : Launch) (D : va_G) (hh q a : Nat) (cA : ClassId) (F : Nat → Int) (n : Int) (hF : zi_By F) (hn : 0 ≤ n ∧ n ≤ 600) (h64 : 64 ≤ n) : Met l yX0_holds wsX0_holds ({ frames := 4, cells := 0, slots := 0, locals := 83 }) (va_Pc [.ref hh, .int (zi_n 5)] (zp_Q D vwCl [(hh, .inr (2, [.ref q])), (q, .inr (3, [.ref a, .int (zi_n n)])), (a, .inl (cA, 600, .inl (zi_F F)))] [(cA, .int)])) (vp_Si (fun r => (r = zi_n 1 ∧ (zh_ok5 F n)) ∨ (r = zi_n 0 ∧ ¬ (zh_ok5 F n)))) 0 0 (fun _ => False) := by
  refine Met.ofW (cc := cX0_holds) (maxL := 2) (ret := (some .boolean)) (by decide) rfl ?_
  intro p e s m args below meth c s₁ B hml hv
  obtain ⟨rfl, hP, hK⟩ := hv
  have hx := B.exec
  have hb := B.bytes
  have hr := B.returns
  have hts := atoms_spec (ws := wsX0_holds) B.pre
  have hown : s.vm.findClass RX0 = some m.cls := findClass_of_methodNamed B.named
  have hlocks := B.notSynchronized
  have hl := lv_entry ([.ref hh, .int (zi_n 5)]) (n := 2) (Nat.le_of_ble_eq_true rfl)
  rw [lg_entry_eq]
  generalize (lg_sl ([.ref hh, .int (zi_n 5)]) ++ List.replicate (2 - (lg_sl ([.ref hh, .int (zi_n 5)])).length) Slot.unset).toArray = ls at hl ⊢
  have hl : lv_has ls 2 [(0, .ref hh), (1, .int (zi_n 5))] := hl
  refine lv_iload_n hx hb dX0_holds_0 rfl (lv_at hl 1 rfl) ?_
  refine zr_tabIn (tgt := 127) hx hb dX0_holds_1 (by decide) (by decide) (by decide) rfl (by decide) ?_
  refine lv_aload_n hx hb dX0_holds_127 rfl (lv_at hl 0 rfl) ?_
  refine zc_V (As := []) (rest := []) ⟨hx, hb, hml, hown, hts⟩ (c_Hd_staticFrom l D hh q a cA F n hF (by omega) (by omega)) (cwV 0 hts gX0_holds_X0_staticFrom rfl rfl rfl (by decide +kernel) ⟨(Nat.le_of_ble_eq_true rfl), (Nat.le_of_ble_eq_true rfl)⟩) hP hK [0, 1, 2] [0] rfl rfl (ci := 2) rfl rfl rfl rfl hl.1 rfl (Nat.le_of_ble_eq_true rfl) dX0_holds_128 ⟨Nat.zero_le _, Nat.zero_le _⟩ (fun r hr1 => ?_)
  obtain ⟨rfl, b_1⟩ := hr1
  refine zr_bipush hx hb dX0_holds_131 (by decide) ?_
  refine lv_aload_n hx hb dX0_holds_133 rfl (lv_at hl 0 rfl) ?_
  refine zc_V (As := []) (rest := [.int (zi_n 64), .int (zi_n (zh_t F 14))]) ⟨hx, hb, hml, hown, hts⟩ (c_Hd_length l D hh q a cA F n hF (by omega) (by omega)) (cwV 0 hts gX0_holds_X0_length rfl rfl rfl (by decide +kernel) ⟨(Nat.le_of_ble_eq_true rfl), (Nat.le_of_ble_eq_true rfl)⟩) hP hK [0, 1, 2] [0] rfl rfl (ci := 2) rfl rfl rfl rfl hl.1 rfl (Nat.le_of_ble_eq_true rfl) dX0_holds_134 ⟨Nat.zero_le _, Nat.zero_le _⟩ (fun r hr1 => ?_)
  obtain ⟨rfl, b_2⟩ := hr1
  refine zc_S (As := [.int (zi_n (zh_t F 14)), .int (zi_n 64), .int (zi_n (zh_len F n))]) (rest := []) ⟨hx, hb, hml, hown, hts⟩ (c_Hd_isWithin l (zh_t F 14) 64 (zh_len F n) (by omega) (by omega) (by omega)) (va_cwS 3 hts gX0_holds_X0_isWithin rfl rfl rfl (by decide +kernel) ⟨(Nat.le_of_ble_eq_true rfl), (Nat.le_of_ble_eq_true rfl)⟩) rfl hl.1 rfl (Nat.le_of_ble_eq_true rfl) dX0_holds_137 ⟨Nat.zero_le _, Nat.zero_le _⟩ (fun r hr1 => ?_)
  rcases hr1 with ⟨rfl, c_3⟩ | ⟨rfl, c_3⟩
  · exact W.zret (v := zi_n 1) (ty := .boolean) hx hb hr zl_b1 (fun t ht hW => ⟨_, rfl, zl_t (by first | assumption | (unfold zh_ok5; omega) | (unfold zh_ok5; (repeat' split) <;> omega) | (unfold zh_ok5; exact Or.inr (by assumption)) | (unfold zh_ok5; exact Or.inl (by assumption)) | (unfold zh_ok5; intro h; rcases h with h | h <;> first | omega | contradiction)), ht⟩) (fun q hq => nomatch hq) dX0_holds_140
  · exact W.zret (v := zi_n 0) (ty := .boolean) hx hb hr zl_b0 (fun t ht hW => ⟨_, rfl, zl_f (by first | assumption | (unfold zh_ok5; omega) | (unfold zh_ok5; (repeat' split) <;> omega) | (unfold zh_ok5; exact Or.inr (by assumption)) | (unfold zh_ok5; exact Or.inl (by assumption)) | (unfold zh_ok5; intro h; rcases h with h | h <;> first | omega | contradiction)), ht⟩) (fun q hq => nomatch hq) dX0_holds_140

set_option maxHeartbeats 4000000 in
set_option maxRecDepth 100000 in
theorem c_Hd_holds6 (l : Launch) (D : va_G) (hh q a : Nat) (cA : ClassId) (F : Nat → Int) (n : Int) (hF : zi_By F) (hn : 0 ≤ n ∧ n ≤ 600) (h64 : 64 ≤ n) : Met l yX0_holds wsX0_holds ({ frames := 4, cells := 0, slots := 0, locals := 83 }) (va_Pc [.ref hh, .int (zi_n 6)] (zp_Q D vwCl [(hh, .inr (2, [.ref q])), (q, .inr (3, [.ref a, .int (zi_n n)])), (a, .inl (cA, 600, .inl (zi_F F)))] [(cA, .int)])) (vp_Si (fun r => (r = zi_n 1 ∧ (zh_ok6 F n)) ∨ (r = zi_n 0 ∧ ¬ (zh_ok6 F n)))) 0 0 (fun _ => False) := by
  refine Met.ofW (cc := cX0_holds) (maxL := 2) (ret := (some .boolean)) (by decide) rfl ?_
  intro p e s m args below meth c s₁ B hml hv
  obtain ⟨rfl, hP, hK⟩ := hv
  have hx := B.exec
  have hb := B.bytes
  have hr := B.returns
  have hts := atoms_spec (ws := wsX0_holds) B.pre
  have hown : s.vm.findClass RX0 = some m.cls := findClass_of_methodNamed B.named
  have hlocks := B.notSynchronized
  have hl := lv_entry ([.ref hh, .int (zi_n 6)]) (n := 2) (Nat.le_of_ble_eq_true rfl)
  rw [lg_entry_eq]
  generalize (lg_sl ([.ref hh, .int (zi_n 6)]) ++ List.replicate (2 - (lg_sl ([.ref hh, .int (zi_n 6)])).length) Slot.unset).toArray = ls at hl ⊢
  have hl : lv_has ls 2 [(0, .ref hh), (1, .int (zi_n 6))] := hl
  refine lv_iload_n hx hb dX0_holds_0 rfl (lv_at hl 1 rfl) ?_
  refine zr_tabIn (tgt := 141) hx hb dX0_holds_1 (by decide) (by decide) (by decide) rfl (by decide) ?_
  refine lv_aload_n hx hb dX0_holds_141 rfl (lv_at hl 0 rfl) ?_
  refine zc_V (As := []) (rest := []) ⟨hx, hb, hml, hown, hts⟩ (c_Hd_high l D hh q a cA F n hF (by omega) (by omega)) (cwV 0 hts gX0_holds_X0_high rfl rfl rfl (by decide +kernel) ⟨(Nat.le_of_ble_eq_true rfl), (Nat.le_of_ble_eq_true rfl)⟩) hP hK [0, 1, 2] [0] rfl rfl (ci := 2) rfl rfl rfl rfl hl.1 rfl (Nat.le_of_ble_eq_true rfl) dX0_holds_142 ⟨Nat.zero_le _, Nat.zero_le _⟩ (fun r hr1 => ?_)
  obtain ⟨rfl, b_1⟩ := hr1
  refine lv_aload_n hx hb dX0_holds_145 rfl (lv_at hl 0 rfl) ?_
  refine zc_V (As := []) (rest := [.int (zi_n (zh_t F 4))]) ⟨hx, hb, hml, hown, hts⟩ (c_Hd_staticFrom l D hh q a cA F n hF (by omega) (by omega)) (cwV 0 hts gX0_holds_X0_staticFrom rfl rfl rfl (by decide +kernel) ⟨(Nat.le_of_ble_eq_true rfl), (Nat.le_of_ble_eq_true rfl)⟩) hP hK [0, 1, 2] [0] rfl rfl (ci := 2) rfl rfl rfl rfl hl.1 rfl (Nat.le_of_ble_eq_true rfl) dX0_holds_146 ⟨Nat.zero_le _, Nat.zero_le _⟩ (fun r hr1 => ?_)
  obtain ⟨rfl, b_2⟩ := hr1
  refine lv_aload_n hx hb dX0_holds_149 rfl (lv_at hl 0 rfl) ?_
  refine zc_V (As := []) (rest := [.int (zi_n (zh_t F 14)), .int (zi_n (zh_t F 4))]) ⟨hx, hb, hml, hown, hts⟩ (c_Hd_length l D hh q a cA F n hF (by omega) (by omega)) (cwV 0 hts gX0_holds_X0_length rfl rfl rfl (by decide +kernel) ⟨(Nat.le_of_ble_eq_true rfl), (Nat.le_of_ble_eq_true rfl)⟩) hP hK [0, 1, 2] [0] rfl rfl (ci := 2) rfl rfl rfl rfl hl.1 rfl (Nat.le_of_ble_eq_true rfl) dX0_holds_150 ⟨Nat.zero_le _, Nat.zero_le _⟩ (fun r hr1 => ?_)
  obtain ⟨rfl, b_3⟩ := hr1
  refine zc_S (As := [.int (zi_n (zh_t F 4)), .int (zi_n (zh_t F 14)), .int (zi_n (zh_len F n))]) (rest := []) ⟨hx, hb, hml, hown, hts⟩ (c_Hd_isWithin l (zh_t F 4) (zh_t F 14) (zh_len F n) (by omega) (by omega) (by omega)) (va_cwS 3 hts gX0_holds_X0_isWithin rfl rfl rfl (by decide +kernel) ⟨(Nat.le_of_ble_eq_true rfl), (Nat.le_of_ble_eq_true rfl)⟩) rfl hl.1 rfl (Nat.le_of_ble_eq_true rfl) dX0_holds_153 ⟨Nat.zero_le _, Nat.zero_le _⟩ (fun r hr1 => ?_)
  rcases hr1 with ⟨rfl, c_4⟩ | ⟨rfl, c_4⟩
  · exact W.zret (v := zi_n 1) (ty := .boolean) hx hb hr zl_b1 (fun t ht hW => ⟨_, rfl, zl_t (by first | assumption | (unfold zh_ok6; omega) | (unfold zh_ok6; (repeat' split) <;> omega) | (unfold zh_ok6; exact Or.inr (by assumption)) | (unfold zh_ok6; exact Or.inl (by assumption)) | (unfold zh_ok6; intro h; rcases h with h | h <;> first | omega | contradiction)), ht⟩) (fun q hq => nomatch hq) dX0_holds_156
  · exact W.zret (v := zi_n 0) (ty := .boolean) hx hb hr zl_b0 (fun t ht hW => ⟨_, rfl, zl_f (by first | assumption | (unfold zh_ok6; omega) | (unfold zh_ok6; (repeat' split) <;> omega) | (unfold zh_ok6; exact Or.inr (by assumption)) | (unfold zh_ok6; exact Or.inl (by assumption)) | (unfold zh_ok6; intro h; rcases h with h | h <;> first | omega | contradiction)), ht⟩) (fun q hq => nomatch hq) dX0_holds_156

set_option maxHeartbeats 4000000 in
set_option maxRecDepth 100000 in
theorem c_Hd_holds7 (l : Launch) (D : va_G) (hh q a : Nat) (cA : ClassId) (F : Nat → Int) (n : Int) (hF : zi_By F) (hn : 0 ≤ n ∧ n ≤ 600) (h64 : 64 ≤ n) : Met l yX0_holds wsX0_holds ({ frames := 2, cells := 0, slots := 0, locals := 41 }) (va_Pc [.ref hh, .int (zi_n 7)] (zp_Q D vwCl [(hh, .inr (2, [.ref q])), (q, .inr (3, [.ref a, .int (zi_n n)])), (a, .inl (cA, 600, .inl (zi_F F)))] [(cA, .int)])) (vp_Si (fun r => (r = zi_n 1 ∧ (zh_ok7 F n)) ∨ (r = zi_n 0 ∧ ¬ (zh_ok7 F n)))) 0 0 (fun _ => False) := by
  refine Met.ofW (cc := cX0_holds) (maxL := 2) (ret := (some .boolean)) (by decide) rfl ?_
  intro p e s m args below meth c s₁ B hml hv
  obtain ⟨rfl, hP, hK⟩ := hv
  have hx := B.exec
  have hb := B.bytes
  have hr := B.returns
  have hts := atoms_spec (ws := wsX0_holds) B.pre
  have hown : s.vm.findClass RX0 = some m.cls := findClass_of_methodNamed B.named
  have hlocks := B.notSynchronized
  have hl := lv_entry ([.ref hh, .int (zi_n 7)]) (n := 2) (Nat.le_of_ble_eq_true rfl)
  rw [lg_entry_eq]
  generalize (lg_sl ([.ref hh, .int (zi_n 7)]) ++ List.replicate (2 - (lg_sl ([.ref hh, .int (zi_n 7)])).length) Slot.unset).toArray = ls at hl ⊢
  have hl : lv_has ls 2 [(0, .ref hh), (1, .int (zi_n 7))] := hl
  refine lv_iload_n hx hb dX0_holds_0 rfl (lv_at hl 1 rfl) ?_
  refine zr_tabIn (tgt := 157) hx hb dX0_holds_1 (by decide) (by decide) (by decide) rfl (by decide) ?_
  refine lv_aload_n hx hb dX0_holds_157 rfl (lv_at hl 0 rfl) ?_
  refine zc_V (As := []) (rest := []) ⟨hx, hb, hml, hown, hts⟩ (c_Hd_globals l D hh q a cA F n hF (by omega) (by omega)) (cwV 0 hts gX0_holds_X0_globals rfl rfl rfl (by decide +kernel) ⟨(Nat.le_of_ble_eq_true rfl), (Nat.le_of_ble_eq_true rfl)⟩) hP hK [0, 1, 2] [0] rfl rfl (ci := 2) rfl rfl rfl rfl hl.1 rfl (Nat.le_of_ble_eq_true rfl) dX0_holds_158 ⟨Nat.zero_le _, Nat.zero_le _⟩ (fun r hr1 => ?_)
  obtain ⟨rfl, b_1⟩ := hr1
  refine zr_sipush hx hb dX0_holds_161 (by decide) ?_
  refine lv_aload_n hx hb dX0_holds_164 rfl (lv_at hl 0 rfl) ?_
  refine zc_V (As := []) (rest := [.int (zi_n 480), .int (zi_n (zh_t F 12))]) ⟨hx, hb, hml, hown, hts⟩ (c_Hd_staticFrom l D hh q a cA F n hF (by omega) (by omega)) (cwV 0 hts gX0_holds_X0_staticFrom rfl rfl rfl (by decide +kernel) ⟨(Nat.le_of_ble_eq_true rfl), (Nat.le_of_ble_eq_true rfl)⟩) hP hK [0, 1, 2] [0] rfl rfl (ci := 2) rfl rfl rfl rfl hl.1 rfl (Nat.le_of_ble_eq_true rfl) dX0_holds_165 ⟨Nat.zero_le _, Nat.zero_le _⟩ (fun r hr1 => ?_)
  obtain ⟨rfl, b_2⟩ := hr1
  refine zc_S (As := [.int (zi_n (zh_t F 12)), .int (zi_n 480), .int (zi_n (zh_t F 14))]) (rest := []) ⟨hx, hb, hml, hown, hts⟩ (c_Hd_fits l (zh_t F 12) 480 (zh_t F 14) (by omega) (by omega) (by omega) (by omega)) (va_cwS 3 hts gX0_holds_X0_fits rfl rfl rfl (by decide +kernel) ⟨(Nat.le_of_ble_eq_true rfl), (Nat.le_of_ble_eq_true rfl)⟩) rfl hl.1 rfl (Nat.le_of_ble_eq_true rfl) dX0_holds_168 ⟨Nat.zero_le _, Nat.zero_le _⟩ (fun r hr1 => ?_)
  rcases hr1 with ⟨rfl, c_3⟩ | ⟨rfl, c_3⟩
  · exact W.zret (v := zi_n 1) (ty := .boolean) hx hb hr zl_b1 (fun t ht hW => ⟨_, rfl, zl_t (by first | assumption | (unfold zh_ok7; omega) | (unfold zh_ok7; (repeat' split) <;> omega) | (unfold zh_ok7; exact Or.inr (by assumption)) | (unfold zh_ok7; exact Or.inl (by assumption)) | (unfold zh_ok7; intro h; rcases h with h | h <;> first | omega | contradiction)), ht⟩) (fun q hq => nomatch hq) dX0_holds_171
  · exact W.zret (v := zi_n 0) (ty := .boolean) hx hb hr zl_b0 (fun t ht hW => ⟨_, rfl, zl_f (by first | assumption | (unfold zh_ok7; omega) | (unfold zh_ok7; (repeat' split) <;> omega) | (unfold zh_ok7; exact Or.inr (by assumption)) | (unfold zh_ok7; exact Or.inl (by assumption)) | (unfold zh_ok7; intro h; rcases h with h | h <;> first | omega | contradiction)), ht⟩) (fun q hq => nomatch hq) dX0_holds_171

set_option maxHeartbeats 4000000 in
set_option maxRecDepth 100000 in
theorem c_Hd_holds8 (l : Launch) (D : va_G) (hh q a : Nat) (cA : ClassId) (F : Nat → Int) (n : Int) (hF : zi_By F) (hn : 0 ≤ n ∧ n ≤ 600) (h64 : 64 ≤ n) : Met l yX0_holds wsX0_holds ({ frames := 2, cells := 0, slots := 0, locals := 41 }) (va_Pc [.ref hh, .int (zi_n 8)] (zp_Q D vwCl [(hh, .inr (2, [.ref q])), (q, .inr (3, [.ref a, .int (zi_n n)])), (a, .inl (cA, 600, .inl (zi_F F)))] [(cA, .int)])) (vp_Si (fun r => (r = zi_n 1 ∧ (zh_ok8 F n)) ∨ (r = zi_n 0 ∧ ¬ (zh_ok8 F n)))) 0 0 (fun _ => False) := by
  refine Met.ofW (cc := cX0_holds) (maxL := 2) (ret := (some .boolean)) (by decide) rfl ?_
  intro p e s m args below meth c s₁ B hml hv
  obtain ⟨rfl, hP, hK⟩ := hv
  have hx := B.exec
  have hb := B.bytes
  have hr := B.returns
  have hts := atoms_spec (ws := wsX0_holds) B.pre
  have hown : s.vm.findClass RX0 = some m.cls := findClass_of_methodNamed B.named
  have hlocks := B.notSynchronized
  have hl := lv_entry ([.ref hh, .int (zi_n 8)]) (n := 2) (Nat.le_of_ble_eq_true rfl)
  rw [lg_entry_eq]
  generalize (lg_sl ([.ref hh, .int (zi_n 8)]) ++ List.replicate (2 - (lg_sl ([.ref hh, .int (zi_n 8)])).length) Slot.unset).toArray = ls at hl ⊢
  have hl : lv_has ls 2 [(0, .ref hh), (1, .int (zi_n 8))] := hl
  refine lv_iload_n hx hb dX0_holds_0 rfl (lv_at hl 1 rfl) ?_
  refine zr_tabIn (tgt := 172) hx hb dX0_holds_1 (by decide) (by decide) (by decide) rfl (by decide) ?_
  refine lv_aload_n hx hb dX0_holds_172 rfl (lv_at hl 0 rfl) ?_
  refine zc_V (As := []) (rest := []) ⟨hx, hb, hml, hown, hts⟩ (c_Hd_objects l D hh q a cA F n hF (by omega) (by omega)) (cwV 0 hts gX0_holds_X0_objects rfl rfl rfl (by decide +kernel) ⟨(Nat.le_of_ble_eq_true rfl), (Nat.le_of_ble_eq_true rfl)⟩) hP hK [0, 1, 2] [0] rfl rfl (ci := 2) rfl rfl rfl rfl hl.1 rfl (Nat.le_of_ble_eq_true rfl) dX0_holds_173 ⟨Nat.zero_le _, Nat.zero_le _⟩ (fun r hr1 => ?_)
  obtain ⟨rfl, b_1⟩ := hr1
  refine lv_aload_n hx hb dX0_holds_176 rfl (lv_at hl 0 rfl) ?_
  refine zc_V (As := []) (rest := [.int (zi_n (zh_t F 10))]) ⟨hx, hb, hml, hown, hts⟩ (c_Hd_version l D hh q a cA F n hF (by omega) (by omega)) (cwV 0 hts gX0_holds_X0_version rfl rfl rfl (by decide +kernel) ⟨(Nat.le_of_ble_eq_true rfl), (Nat.le_of_ble_eq_true rfl)⟩) hP hK [0, 1, 2] [0] rfl rfl (ci := 2) rfl rfl rfl rfl hl.1 rfl (Nat.le_of_ble_eq_true rfl) dX0_holds_177 ⟨Nat.zero_le _, Nat.zero_le _⟩ (fun r hr1 => ?_)
  obtain ⟨rfl, b_2⟩ := hr1
  refine zr_iconst hx hb dX0_holds_180 ?_
  refine zr_icmp_gt (tgt := 189) hx hb dX0_holds_181 (by decide) (by omega) (by omega) (fun c_3 => ?_) (fun c_3 => ?_)
  · refine zr_bipush hx hb dX0_holds_189 (by decide) ?_
    refine lv_aload_n hx hb dX0_holds_191 rfl (lv_at hl 0 rfl) ?_
    refine zc_V (As := []) (rest := [.int (zi_n 126), .int (zi_n (zh_t F 10))]) ⟨hx, hb, hml, hown, hts⟩ (c_Hd_staticFrom l D hh q a cA F n hF (by omega) (by omega)) (cwV 0 hts gX0_holds_X0_staticFrom rfl rfl rfl (by decide +kernel) ⟨(Nat.le_of_ble_eq_true rfl), (Nat.le_of_ble_eq_true rfl)⟩) hP hK [0, 1, 2] [0] rfl rfl (ci := 2) rfl rfl rfl rfl hl.1 rfl (Nat.le_of_ble_eq_true rfl) dX0_holds_192 ⟨Nat.zero_le _, Nat.zero_le _⟩ (fun r hr1 => ?_)
    obtain ⟨rfl, b_4⟩ := hr1
    refine zc_S (As := [.int (zi_n (zh_t F 10)), .int (zi_n 126), .int (zi_n (zh_t F 14))]) (rest := []) ⟨hx, hb, hml, hown, hts⟩ (c_Hd_fits l (zh_t F 10) 126 (zh_t F 14) (by omega) (by omega) (by omega) (by omega)) (va_cwS 3 hts gX0_holds_X0_fits rfl rfl rfl (by decide +kernel) ⟨(Nat.le_of_ble_eq_true rfl), (Nat.le_of_ble_eq_true rfl)⟩) rfl hl.1 rfl (Nat.le_of_ble_eq_true rfl) dX0_holds_195 ⟨Nat.zero_le _, Nat.zero_le _⟩ (fun r hr1 => ?_)
    rcases hr1 with ⟨rfl, c_5⟩ | ⟨rfl, c_5⟩
    · exact W.zret (v := zi_n 1) (ty := .boolean) hx hb hr zl_b1 (fun t ht hW => ⟨_, rfl, zl_t (by first | assumption | (unfold zh_ok8; omega) | (unfold zh_ok8; (repeat' split) <;> omega) | (unfold zh_ok8; exact Or.inr (by assumption)) | (unfold zh_ok8; exact Or.inl (by assumption)) | (unfold zh_ok8; intro h; rcases h with h | h <;> first | omega | contradiction)), ht⟩) (fun q hq => nomatch hq) dX0_holds_198
    · exact W.zret (v := zi_n 0) (ty := .boolean) hx hb hr zl_b0 (fun t ht hW => ⟨_, rfl, zl_f (by first | assumption | (unfold zh_ok8; omega) | (unfold zh_ok8; (repeat' split) <;> omega) | (unfold zh_ok8; exact Or.inr (by assumption)) | (unfold zh_ok8; exact Or.inl (by assumption)) | (unfold zh_ok8; intro h; rcases h with h | h <;> first | omega | contradiction)), ht⟩) (fun q hq => nomatch hq) dX0_holds_198
  · refine zr_bipush hx hb dX0_holds_184 (by decide) ?_
    refine lv_goto (tgt := 191) hx hb dX0_holds_186 (by decide) ?_
    refine lv_aload_n hx hb dX0_holds_191 rfl (lv_at hl 0 rfl) ?_
    refine zc_V (As := []) (rest := [.int (zi_n 62), .int (zi_n (zh_t F 10))]) ⟨hx, hb, hml, hown, hts⟩ (c_Hd_staticFrom l D hh q a cA F n hF (by omega) (by omega)) (cwV 0 hts gX0_holds_X0_staticFrom rfl rfl rfl (by decide +kernel) ⟨(Nat.le_of_ble_eq_true rfl), (Nat.le_of_ble_eq_true rfl)⟩) hP hK [0, 1, 2] [0] rfl rfl (ci := 2) rfl rfl rfl rfl hl.1 rfl (Nat.le_of_ble_eq_true rfl) dX0_holds_192 ⟨Nat.zero_le _, Nat.zero_le _⟩ (fun r hr1 => ?_)
    obtain ⟨rfl, b_6⟩ := hr1
    refine zc_S (As := [.int (zi_n (zh_t F 10)), .int (zi_n 62), .int (zi_n (zh_t F 14))]) (rest := []) ⟨hx, hb, hml, hown, hts⟩ (c_Hd_fits l (zh_t F 10) 62 (zh_t F 14) (by omega) (by omega) (by omega) (by omega)) (va_cwS 3 hts gX0_holds_X0_fits rfl rfl rfl (by decide +kernel) ⟨(Nat.le_of_ble_eq_true rfl), (Nat.le_of_ble_eq_true rfl)⟩) rfl hl.1 rfl (Nat.le_of_ble_eq_true rfl) dX0_holds_195 ⟨Nat.zero_le _, Nat.zero_le _⟩ (fun r hr1 => ?_)
    rcases hr1 with ⟨rfl, c_7⟩ | ⟨rfl, c_7⟩
    · exact W.zret (v := zi_n 1) (ty := .boolean) hx hb hr zl_b1 (fun t ht hW => ⟨_, rfl, zl_t (by first | assumption | (unfold zh_ok8; omega) | (unfold zh_ok8; (repeat' split) <;> omega) | (unfold zh_ok8; exact Or.inr (by assumption)) | (unfold zh_ok8; exact Or.inl (by assumption)) | (unfold zh_ok8; intro h; rcases h with h | h <;> first | omega | contradiction)), ht⟩) (fun q hq => nomatch hq) dX0_holds_198
    · exact W.zret (v := zi_n 0) (ty := .boolean) hx hb hr zl_b0 (fun t ht hW => ⟨_, rfl, zl_f (by first | assumption | (unfold zh_ok8; omega) | (unfold zh_ok8; (repeat' split) <;> omega) | (unfold zh_ok8; exact Or.inr (by assumption)) | (unfold zh_ok8; exact Or.inl (by assumption)) | (unfold zh_ok8; intro h; rcases h with h | h <;> first | omega | contradiction)), ht⟩) (fun q hq => nomatch hq) dX0_holds_198

set_option maxHeartbeats 4000000 in
set_option maxRecDepth 100000 in
theorem c_Hd_holds9 (l : Launch) (D : va_G) (hh q a : Nat) (cA : ClassId) (F : Nat → Int) (n : Int) (hF : zi_By F) (hn : 0 ≤ n ∧ n ≤ 600) (h64 : 64 ≤ n) : Met l yX0_holds wsX0_holds ({ frames := 5, cells := 0, slots := 0, locals := 108 }) (va_Pc [.ref hh, .int (zi_n 9)] (zp_Q D vwCl [(hh, .inr (2, [.ref q])), (q, .inr (3, [.ref a, .int (zi_n n)])), (a, .inl (cA, 600, .inl (zi_F F)))] [(cA, .int)])) (vp_Si (fun r => (r = zi_n 1 ∧ (zh_ok9 F n)) ∨ (r = zi_n 0 ∧ ¬ (zh_ok9 F n)))) 0 0 (fun _ => False) := by
  refine Met.ofW (cc := cX0_holds) (maxL := 2) (ret := (some .boolean)) (by decide) rfl ?_
  intro p e s m args below meth c s₁ B hml hv
  obtain ⟨rfl, hP, hK⟩ := hv
  have hx := B.exec
  have hb := B.bytes
  have hr := B.returns
  have hts := atoms_spec (ws := wsX0_holds) B.pre
  have hown : s.vm.findClass RX0 = some m.cls := findClass_of_methodNamed B.named
  have hlocks := B.notSynchronized
  have hl := lv_entry ([.ref hh, .int (zi_n 9)]) (n := 2) (Nat.le_of_ble_eq_true rfl)
  rw [lg_entry_eq]
  generalize (lg_sl ([.ref hh, .int (zi_n 9)]) ++ List.replicate (2 - (lg_sl ([.ref hh, .int (zi_n 9)])).length) Slot.unset).toArray = ls at hl ⊢
  have hl : lv_has ls 2 [(0, .ref hh), (1, .int (zi_n 9))] := hl
  refine lv_iload_n hx hb dX0_holds_0 rfl (lv_at hl 1 rfl) ?_
  refine zr_tabIn (tgt := 199) hx hb dX0_holds_1 (by decide) (by decide) (by decide) rfl (by decide) ?_
  refine lv_aload_n hx hb dX0_holds_199 rfl (lv_at hl 0 rfl) ?_
  refine zc_V (As := []) (rest := []) ⟨hx, hb, hml, hown, hts⟩ (c_Hd_wordsHold l D hh q a cA F n hF (by omega) (by omega)) (cwV 0 hts gX0_holds_X0_wordsHold rfl rfl rfl (by decide +kernel) ⟨(Nat.le_of_ble_eq_true rfl), (Nat.le_of_ble_eq_true rfl)⟩) hP hK [0, 1, 2] [0] rfl rfl (ci := 2) rfl rfl rfl rfl hl.1 rfl (Nat.le_of_ble_eq_true rfl) dX0_holds_200 ⟨Nat.zero_le _, Nat.zero_le _⟩ (fun r hr1 => ?_)
  rcases hr1 with ⟨rfl, c_1⟩ | ⟨rfl, c_1⟩
  · exact W.zret (v := zi_n 1) (ty := .boolean) hx hb hr zl_b1 (fun t ht hW => ⟨_, rfl, zl_t (by first | assumption | (unfold zh_ok9; omega) | (unfold zh_ok9; (repeat' split) <;> omega) | (unfold zh_ok9; exact Or.inr (by assumption)) | (unfold zh_ok9; exact Or.inl (by assumption)) | (unfold zh_ok9; intro h; rcases h with h | h <;> first | omega | contradiction)), ht⟩) (fun q hq => nomatch hq) dX0_holds_203
  · exact W.zret (v := zi_n 0) (ty := .boolean) hx hb hr zl_b0 (fun t ht hW => ⟨_, rfl, zl_f (by first | assumption | (unfold zh_ok9; omega) | (unfold zh_ok9; (repeat' split) <;> omega) | (unfold zh_ok9; exact Or.inr (by assumption)) | (unfold zh_ok9; exact Or.inl (by assumption)) | (unfold zh_ok9; intro h; rcases h with h | h <;> first | omega | contradiction)), ht⟩) (fun q hq => nomatch hq) dX0_holds_203

set_option maxHeartbeats 4000000 in
set_option maxRecDepth 100000 in
theorem c_Hd_holds10 (l : Launch) (D : va_G) (hh q a : Nat) (cA : ClassId) (F : Nat → Int) (n : Int) (hF : zi_By F) (hn : 0 ≤ n ∧ n ≤ 600) (h64 : 64 ≤ n) : Met l yX0_holds wsX0_holds ({ frames := 4, cells := 0, slots := 0, locals := 83 }) (va_Pc [.ref hh, .int (zi_n 10)] (zp_Q D vwCl [(hh, .inr (2, [.ref q])), (q, .inr (3, [.ref a, .int (zi_n n)])), (a, .inl (cA, 600, .inl (zi_F F)))] [(cA, .int)])) (vp_Si (fun r => (r = zi_n 1 ∧ (zh_ok10 F n)) ∨ (r = zi_n 0 ∧ ¬ (zh_ok10 F n)))) 0 0 (fun _ => False) := by
  refine Met.ofW (cc := cX0_holds) (maxL := 2) (ret := (some .boolean)) (by decide) rfl ?_
  intro p e s m args below meth c s₁ B hml hv
  obtain ⟨rfl, hP, hK⟩ := hv
  have hx := B.exec
  have hb := B.bytes
  have hr := B.returns
  have hts := atoms_spec (ws := wsX0_holds) B.pre
  have hown : s.vm.findClass RX0 = some m.cls := findClass_of_methodNamed B.named
  have hlocks := B.notSynchronized
  have hl := lv_entry ([.ref hh, .int (zi_n 10)]) (n := 2) (Nat.le_of_ble_eq_true rfl)
  rw [lg_entry_eq]
  generalize (lg_sl ([.ref hh, .int (zi_n 10)]) ++ List.replicate (2 - (lg_sl ([.ref hh, .int (zi_n 10)])).length) Slot.unset).toArray = ls at hl ⊢
  have hl : lv_has ls 2 [(0, .ref hh), (1, .int (zi_n 10))] := hl
  refine lv_iload_n hx hb dX0_holds_0 rfl (lv_at hl 1 rfl) ?_
  refine zr_tabIn (tgt := 204) hx hb dX0_holds_1 (by decide) (by decide) (by decide) rfl (by decide) ?_
  refine lv_aload_n hx hb dX0_holds_204 rfl (lv_at hl 0 rfl) ?_
  refine zc_V (As := []) (rest := []) ⟨hx, hb, hml, hown, hts⟩ (c_Hd_shorts l D hh q a cA F n hF (by omega) (by omega)) (cwV 0 hts gX0_holds_X0_shorts rfl rfl rfl (by decide +kernel) ⟨(Nat.le_of_ble_eq_true rfl), (Nat.le_of_ble_eq_true rfl)⟩) hP hK [0, 1, 2] [0] rfl rfl (ci := 2) rfl rfl rfl rfl hl.1 rfl (Nat.le_of_ble_eq_true rfl) dX0_holds_205 ⟨Nat.zero_le _, Nat.zero_le _⟩ (fun r hr1 => ?_)
  obtain ⟨rfl, b_1⟩ := hr1
  refine zr_if_eq (tgt := 241) hx hb dX0_holds_208 (by decide) (by omega) (fun c_2 => ?_) (fun c_2 => ?_)
  · refine zr_iconst hx hb dX0_holds_241 ?_
    refine lv_goto (tgt := 246) hx hb dX0_holds_242 (by decide) ?_
    exact W.zret (v := zi_n 1) (ty := .boolean) hx hb hr zl_b1 (fun t ht hW => ⟨_, rfl, zl_t (by first | assumption | (unfold zh_ok10; omega) | (unfold zh_ok10; (repeat' split) <;> omega) | (unfold zh_ok10; exact Or.inr (by assumption)) | (unfold zh_ok10; exact Or.inl (by assumption)) | (unfold zh_ok10; intro h; rcases h with h | h <;> first | omega | contradiction)), ht⟩) (fun q hq => nomatch hq) dX0_holds_246
  · refine lv_aload_n hx hb dX0_holds_211 rfl (lv_at hl 0 rfl) ?_
    refine zc_V (As := []) (rest := []) ⟨hx, hb, hml, hown, hts⟩ (c_Hd_shorts l D hh q a cA F n hF (by omega) (by omega)) (cwV 0 hts gX0_holds_X0_shorts rfl rfl rfl (by decide +kernel) ⟨(Nat.le_of_ble_eq_true rfl), (Nat.le_of_ble_eq_true rfl)⟩) hP hK [0, 1, 2] [0] rfl rfl (ci := 2) rfl rfl rfl rfl hl.1 rfl (Nat.le_of_ble_eq_true rfl) dX0_holds_212 ⟨Nat.zero_le _, Nat.zero_le _⟩ (fun r hr1 => ?_)
    obtain ⟨rfl, b_3⟩ := hr1
    refine lv_aload_n hx hb dX0_holds_215 rfl (lv_at hl 0 rfl) ?_
    refine zc_V (As := []) (rest := [.int (zi_n (zh_shorts F))]) ⟨hx, hb, hml, hown, hts⟩ (c_Hd_version l D hh q a cA F n hF (by omega) (by omega)) (cwV 0 hts gX0_holds_X0_version rfl rfl rfl (by decide +kernel) ⟨(Nat.le_of_ble_eq_true rfl), (Nat.le_of_ble_eq_true rfl)⟩) hP hK [0, 1, 2] [0] rfl rfl (ci := 2) rfl rfl rfl rfl hl.1 rfl (Nat.le_of_ble_eq_true rfl) dX0_holds_216 ⟨Nat.zero_le _, Nat.zero_le _⟩ (fun r hr1 => ?_)
    obtain ⟨rfl, b_4⟩ := hr1
    refine zr_iconst hx hb dX0_holds_219 ?_
    refine zr_icmp_ne (tgt := 228) hx hb dX0_holds_220 (by decide) (by omega) (by omega) (fun c_5 => ?_) (fun c_5 => ?_)
    · refine zr_sipush hx hb dX0_holds_228 (by decide) ?_
      refine lv_aload_n hx hb dX0_holds_231 rfl (lv_at hl 0 rfl) ?_
      refine zc_V (As := []) (rest := [.int (zi_n 192), .int (zi_n (zh_shorts F))]) ⟨hx, hb, hml, hown, hts⟩ (c_Hd_length l D hh q a cA F n hF (by omega) (by omega)) (cwV 0 hts gX0_holds_X0_length rfl rfl rfl (by decide +kernel) ⟨(Nat.le_of_ble_eq_true rfl), (Nat.le_of_ble_eq_true rfl)⟩) hP hK [0, 1, 2] [0] rfl rfl (ci := 2) rfl rfl rfl rfl hl.1 rfl (Nat.le_of_ble_eq_true rfl) dX0_holds_232 ⟨Nat.zero_le _, Nat.zero_le _⟩ (fun r hr1 => ?_)
      obtain ⟨rfl, b_6⟩ := hr1
      refine zc_S (As := [.int (zi_n (zh_shorts F)), .int (zi_n 192), .int (zi_n (zh_len F n))]) (rest := []) ⟨hx, hb, hml, hown, hts⟩ (c_Hd_fits l (zh_shorts F) 192 (zh_len F n) (by omega) (by omega) (by omega) (by omega)) (va_cwS 3 hts gX0_holds_X0_fits rfl rfl rfl (by decide +kernel) ⟨(Nat.le_of_ble_eq_true rfl), (Nat.le_of_ble_eq_true rfl)⟩) rfl hl.1 rfl (Nat.le_of_ble_eq_true rfl) dX0_holds_235 ⟨Nat.zero_le _, Nat.zero_le _⟩ (fun r hr1 => ?_)
      rcases hr1 with ⟨rfl, c_7⟩ | ⟨rfl, c_7⟩
      · refine zr_if_eq (tgt := 245) hx hb dX0_holds_238 (by decide) (by omega) (fun c => absurd c (by decide)) (fun c_8 => ?_)
        refine zr_iconst hx hb dX0_holds_241 ?_
        refine lv_goto (tgt := 246) hx hb dX0_holds_242 (by decide) ?_
        exact W.zret (v := zi_n 1) (ty := .boolean) hx hb hr zl_b1 (fun t ht hW => ⟨_, rfl, zl_t (by first | assumption | (unfold zh_ok10; omega) | (unfold zh_ok10; (repeat' split) <;> omega) | (unfold zh_ok10; exact Or.inr (by assumption)) | (unfold zh_ok10; exact Or.inl (by assumption)) | (unfold zh_ok10; intro h; rcases h with h | h <;> first | omega | contradiction)), ht⟩) (fun q hq => nomatch hq) dX0_holds_246
      · refine zr_if_eq (tgt := 245) hx hb dX0_holds_238 (by decide) (by omega) (fun c_9 => ?_) (fun c => absurd c (by decide))
        refine zr_iconst hx hb dX0_holds_245 ?_
        exact W.zret (v := zi_n 0) (ty := .boolean) hx hb hr zl_b0 (fun t ht hW => ⟨_, rfl, zl_f (by first | assumption | (unfold zh_ok10; omega) | (unfold zh_ok10; (repeat' split) <;> omega) | (unfold zh_ok10; exact Or.inr (by assumption)) | (unfold zh_ok10; exact Or.inl (by assumption)) | (unfold zh_ok10; intro h; rcases h with h | h <;> first | omega | contradiction)), ht⟩) (fun q hq => nomatch hq) dX0_holds_246
    · refine zr_bipush hx hb dX0_holds_223 (by decide) ?_
      refine lv_goto (tgt := 231) hx hb dX0_holds_225 (by decide) ?_
      refine lv_aload_n hx hb dX0_holds_231 rfl (lv_at hl 0 rfl) ?_
      refine zc_V (As := []) (rest := [.int (zi_n 64), .int (zi_n (zh_shorts F))]) ⟨hx, hb, hml, hown, hts⟩ (c_Hd_length l D hh q a cA F n hF (by omega) (by omega)) (cwV 0 hts gX0_holds_X0_length rfl rfl rfl (by decide +kernel) ⟨(Nat.le_of_ble_eq_true rfl), (Nat.le_of_ble_eq_true rfl)⟩) hP hK [0, 1, 2] [0] rfl rfl (ci := 2) rfl rfl rfl rfl hl.1 rfl (Nat.le_of_ble_eq_true rfl) dX0_holds_232 ⟨Nat.zero_le _, Nat.zero_le _⟩ (fun r hr1 => ?_)
      obtain ⟨rfl, b_10⟩ := hr1
      refine zc_S (As := [.int (zi_n (zh_shorts F)), .int (zi_n 64), .int (zi_n (zh_len F n))]) (rest := []) ⟨hx, hb, hml, hown, hts⟩ (c_Hd_fits l (zh_shorts F) 64 (zh_len F n) (by omega) (by omega) (by omega) (by omega)) (va_cwS 3 hts gX0_holds_X0_fits rfl rfl rfl (by decide +kernel) ⟨(Nat.le_of_ble_eq_true rfl), (Nat.le_of_ble_eq_true rfl)⟩) rfl hl.1 rfl (Nat.le_of_ble_eq_true rfl) dX0_holds_235 ⟨Nat.zero_le _, Nat.zero_le _⟩ (fun r hr1 => ?_)
      rcases hr1 with ⟨rfl, c_11⟩ | ⟨rfl, c_11⟩
      · refine zr_if_eq (tgt := 245) hx hb dX0_holds_238 (by decide) (by omega) (fun c => absurd c (by decide)) (fun c_12 => ?_)
        refine zr_iconst hx hb dX0_holds_241 ?_
        refine lv_goto (tgt := 246) hx hb dX0_holds_242 (by decide) ?_
        exact W.zret (v := zi_n 1) (ty := .boolean) hx hb hr zl_b1 (fun t ht hW => ⟨_, rfl, zl_t (by first | assumption | (unfold zh_ok10; omega) | (unfold zh_ok10; (repeat' split) <;> omega) | (unfold zh_ok10; exact Or.inr (by assumption)) | (unfold zh_ok10; exact Or.inl (by assumption)) | (unfold zh_ok10; intro h; rcases h with h | h <;> first | omega | contradiction)), ht⟩) (fun q hq => nomatch hq) dX0_holds_246
      · refine zr_if_eq (tgt := 245) hx hb dX0_holds_238 (by decide) (by omega) (fun c_13 => ?_) (fun c => absurd c (by decide))
        refine zr_iconst hx hb dX0_holds_245 ?_
        exact W.zret (v := zi_n 0) (ty := .boolean) hx hb hr zl_b0 (fun t ht hW => ⟨_, rfl, zl_f (by first | assumption | (unfold zh_ok10; omega) | (unfold zh_ok10; (repeat' split) <;> omega) | (unfold zh_ok10; exact Or.inr (by assumption)) | (unfold zh_ok10; exact Or.inl (by assumption)) | (unfold zh_ok10; intro h; rcases h with h | h <;> first | omega | contradiction)), ht⟩) (fun q hq => nomatch hq) dX0_holds_246

set_option maxHeartbeats 4000000 in
set_option maxRecDepth 100000 in
theorem c_Hd_holds11 (l : Launch) (D : va_G) (hh q a : Nat) (cA : ClassId) (F : Nat → Int) (n : Int) (hF : zi_By F) (hn : 0 ≤ n ∧ n ≤ 600) (h64 : 64 ≤ n) : Met l yX0_holds wsX0_holds ({ frames := 4, cells := 0, slots := 0, locals := 83 }) (va_Pc [.ref hh, .int (zi_n 11)] (zp_Q D vwCl [(hh, .inr (2, [.ref q])), (q, .inr (3, [.ref a, .int (zi_n n)])), (a, .inl (cA, 600, .inl (zi_F F)))] [(cA, .int)])) (vp_Si (fun r => (r = zi_n 1 ∧ (zh_ok11 F n)) ∨ (r = zi_n 0 ∧ ¬ (zh_ok11 F n)))) 0 0 (fun _ => False) := by
  refine Met.ofW (cc := cX0_holds) (maxL := 2) (ret := (some .boolean)) (by decide) rfl ?_
  intro p e s m args below meth c s₁ B hml hv
  obtain ⟨rfl, hP, hK⟩ := hv
  have hx := B.exec
  have hb := B.bytes
  have hr := B.returns
  have hts := atoms_spec (ws := wsX0_holds) B.pre
  have hown : s.vm.findClass RX0 = some m.cls := findClass_of_methodNamed B.named
  have hlocks := B.notSynchronized
  have hl := lv_entry ([.ref hh, .int (zi_n 11)]) (n := 2) (Nat.le_of_ble_eq_true rfl)
  rw [lg_entry_eq]
  generalize (lg_sl ([.ref hh, .int (zi_n 11)]) ++ List.replicate (2 - (lg_sl ([.ref hh, .int (zi_n 11)])).length) Slot.unset).toArray = ls at hl ⊢
  have hl : lv_has ls 2 [(0, .ref hh), (1, .int (zi_n 11))] := hl
  refine lv_iload_n hx hb dX0_holds_0 rfl (lv_at hl 1 rfl) ?_
  refine zr_tabIn (tgt := 247) hx hb dX0_holds_1 (by decide) (by decide) (by decide) rfl (by decide) ?_
  refine lv_aload_n hx hb dX0_holds_247 rfl (lv_at hl 0 rfl) ?_
  refine zc_V (As := []) (rest := []) ⟨hx, hb, hml, hown, hts⟩ (c_Hd_start l D hh q a cA F n hF (by omega) (by omega)) (cwV 0 hts gX0_holds_X0_start rfl rfl rfl (by decide +kernel) ⟨(Nat.le_of_ble_eq_true rfl), (Nat.le_of_ble_eq_true rfl)⟩) hP hK [0, 1, 2] [0] rfl rfl (ci := 2) rfl rfl rfl rfl hl.1 rfl (Nat.le_of_ble_eq_true rfl) dX0_holds_248 ⟨Nat.zero_le _, Nat.zero_le _⟩ (fun r hr1 => ?_)
  obtain ⟨rfl, b_1⟩ := hr1
  refine zr_bipush hx hb dX0_holds_251 (by decide) ?_
  refine lv_aload_n hx hb dX0_holds_253 rfl (lv_at hl 0 rfl) ?_
  refine zc_V (As := []) (rest := [.int (zi_n 64), .int (zi_n (zh_start F))]) ⟨hx, hb, hml, hown, hts⟩ (c_Hd_length l D hh q a cA F n hF (by omega) (by omega)) (cwV 0 hts gX0_holds_X0_length rfl rfl rfl (by decide +kernel) ⟨(Nat.le_of_ble_eq_true rfl), (Nat.le_of_ble_eq_true rfl)⟩) hP hK [0, 1, 2] [0] rfl rfl (ci := 2) rfl rfl rfl rfl hl.1 rfl (Nat.le_of_ble_eq_true rfl) dX0_holds_254 ⟨Nat.zero_le _, Nat.zero_le _⟩ (fun r hr1 => ?_)
  obtain ⟨rfl, b_2⟩ := hr1
  refine zr_iconst hx hb dX0_holds_257 ?_
  refine zr_isub hx hb dX0_holds_258 ?_
  refine zc_S (As := [.int (zi_n (zh_start F)), .int (zi_n 64), .int (zi_n ((zh_len F n) - 1))]) (rest := []) ⟨hx, hb, hml, hown, hts⟩ (c_Hd_isWithin l (zh_start F) 64 ((zh_len F n) - 1) (by omega) (by omega) (by omega)) (va_cwS 3 hts gX0_holds_X0_isWithin rfl rfl rfl (by decide +kernel) ⟨(Nat.le_of_ble_eq_true rfl), (Nat.le_of_ble_eq_true rfl)⟩) rfl hl.1 rfl (Nat.le_of_ble_eq_true rfl) dX0_holds_259 ⟨Nat.zero_le _, Nat.zero_le _⟩ (fun r hr1 => ?_)
  rcases hr1 with ⟨rfl, c_3⟩ | ⟨rfl, c_3⟩
  · exact W.zret (v := zi_n 1) (ty := .boolean) hx hb hr zl_b1 (fun t ht hW => ⟨_, rfl, zl_t (by first | assumption | (unfold zh_ok11; omega) | (unfold zh_ok11; (repeat' split) <;> omega) | (unfold zh_ok11; exact Or.inr (by assumption)) | (unfold zh_ok11; exact Or.inl (by assumption)) | (unfold zh_ok11; intro h; rcases h with h | h <;> first | omega | contradiction)), ht⟩) (fun q hq => nomatch hq) dX0_holds_262
  · exact W.zret (v := zi_n 0) (ty := .boolean) hx hb hr zl_b0 (fun t ht hW => ⟨_, rfl, zl_f (by first | assumption | (unfold zh_ok11; omega) | (unfold zh_ok11; (repeat' split) <;> omega) | (unfold zh_ok11; exact Or.inr (by assumption)) | (unfold zh_ok11; exact Or.inl (by assumption)) | (unfold zh_ok11; intro h; rcases h with h | h <;> first | omega | contradiction)), ht⟩) (fun q hq => nomatch hq) dX0_holds_262

set_option maxHeartbeats 4000000 in
set_option maxRecDepth 100000 in
theorem c_Hd_holds12 (l : Launch) (D : va_G) (hh q a : Nat) (cA : ClassId) (F : Nat → Int) (n : Int) (hF : zi_By F) (hn : 0 ≤ n ∧ n ≤ 600) (h64 : 64 ≤ n) : Met l yX0_holds wsX0_holds ({ frames := 4, cells := 0, slots := 0, locals := 83 }) (va_Pc [.ref hh, .int (zi_n 12)] (zp_Q D vwCl [(hh, .inr (2, [.ref q])), (q, .inr (3, [.ref a, .int (zi_n n)])), (a, .inl (cA, 600, .inl (zi_F F)))] [(cA, .int)])) (vp_Si (fun r => (r = zi_n 1 ∧ (zh_ok12 F n)) ∨ (r = zi_n 0 ∧ ¬ (zh_ok12 F n)))) 0 0 (fun _ => False) := by
  refine Met.ofW (cc := cX0_holds) (maxL := 2) (ret := (some .boolean)) (by decide) rfl ?_
  intro p e s m args below meth c s₁ B hml hv
  obtain ⟨rfl, hP, hK⟩ := hv
  have hx := B.exec
  have hb := B.bytes
  have hr := B.returns
  have hts := atoms_spec (ws := wsX0_holds) B.pre
  have hown : s.vm.findClass RX0 = some m.cls := findClass_of_methodNamed B.named
  have hlocks := B.notSynchronized
  have hl := lv_entry ([.ref hh, .int (zi_n 12)]) (n := 2) (Nat.le_of_ble_eq_true rfl)
  rw [lg_entry_eq]
  generalize (lg_sl ([.ref hh, .int (zi_n 12)]) ++ List.replicate (2 - (lg_sl ([.ref hh, .int (zi_n 12)])).length) Slot.unset).toArray = ls at hl ⊢
  have hl : lv_has ls 2 [(0, .ref hh), (1, .int (zi_n 12))] := hl
  refine lv_iload_n hx hb dX0_holds_0 rfl (lv_at hl 1 rfl) ?_
  refine zr_tabIn (tgt := 263) hx hb dX0_holds_1 (by decide) (by decide) (by decide) rfl (by decide) ?_
  refine lv_aload_n hx hb dX0_holds_263 rfl (lv_at hl 0 rfl) ?_
  refine zc_V (As := []) (rest := []) ⟨hx, hb, hml, hown, hts⟩ (c_Hd_letters l D hh q a cA F n hF (by omega) (by omega)) (cwV 0 hts gX0_holds_X0_letters rfl rfl rfl (by decide +kernel) ⟨(Nat.le_of_ble_eq_true rfl), (Nat.le_of_ble_eq_true rfl)⟩) hP hK [0, 1, 2] [0] rfl rfl (ci := 2) rfl rfl rfl rfl hl.1 rfl (Nat.le_of_ble_eq_true rfl) dX0_holds_264 ⟨Nat.zero_le _, Nat.zero_le _⟩ (fun r hr1 => ?_)
  obtain ⟨rfl, b_1⟩ := hr1
  refine zr_if_eq (tgt := 286) hx hb dX0_holds_267 (by decide) (by omega) (fun c_2 => ?_) (fun c_2 => ?_)
  · refine zr_iconst hx hb dX0_holds_286 ?_
    refine lv_goto (tgt := 291) hx hb dX0_holds_287 (by decide) ?_
    exact W.zret (v := zi_n 1) (ty := .boolean) hx hb hr zl_b1 (fun t ht hW => ⟨_, rfl, zl_t (by first | assumption | (unfold zh_ok12; omega) | (unfold zh_ok12; (repeat' split) <;> omega) | (unfold zh_ok12; exact Or.inr (by assumption)) | (unfold zh_ok12; exact Or.inl (by assumption)) | (unfold zh_ok12; intro h; rcases h with h | h <;> first | omega | contradiction)), ht⟩) (fun q hq => nomatch hq) dX0_holds_291
  · refine lv_aload_n hx hb dX0_holds_270 rfl (lv_at hl 0 rfl) ?_
    refine zc_V (As := []) (rest := []) ⟨hx, hb, hml, hown, hts⟩ (c_Hd_letters l D hh q a cA F n hF (by omega) (by omega)) (cwV 0 hts gX0_holds_X0_letters rfl rfl rfl (by decide +kernel) ⟨(Nat.le_of_ble_eq_true rfl), (Nat.le_of_ble_eq_true rfl)⟩) hP hK [0, 1, 2] [0] rfl rfl (ci := 2) rfl rfl rfl rfl hl.1 rfl (Nat.le_of_ble_eq_true rfl) dX0_holds_271 ⟨Nat.zero_le _, Nat.zero_le _⟩ (fun r hr1 => ?_)
    obtain ⟨rfl, b_3⟩ := hr1
    refine zr_bipush hx hb dX0_holds_274 (by decide) ?_
    refine lv_aload_n hx hb dX0_holds_276 rfl (lv_at hl 0 rfl) ?_
    refine zc_V (As := []) (rest := [.int (zi_n 78), .int (zi_n (zh_letters F))]) ⟨hx, hb, hml, hown, hts⟩ (c_Hd_length l D hh q a cA F n hF (by omega) (by omega)) (cwV 0 hts gX0_holds_X0_length rfl rfl rfl (by decide +kernel) ⟨(Nat.le_of_ble_eq_true rfl), (Nat.le_of_ble_eq_true rfl)⟩) hP hK [0, 1, 2] [0] rfl rfl (ci := 2) rfl rfl rfl rfl hl.1 rfl (Nat.le_of_ble_eq_true rfl) dX0_holds_277 ⟨Nat.zero_le _, Nat.zero_le _⟩ (fun r hr1 => ?_)
    obtain ⟨rfl, b_4⟩ := hr1
    refine zc_S (As := [.int (zi_n (zh_letters F)), .int (zi_n 78), .int (zi_n (zh_len F n))]) (rest := []) ⟨hx, hb, hml, hown, hts⟩ (c_Hd_fits l (zh_letters F) 78 (zh_len F n) (by omega) (by omega) (by omega) (by omega)) (va_cwS 3 hts gX0_holds_X0_fits rfl rfl rfl (by decide +kernel) ⟨(Nat.le_of_ble_eq_true rfl), (Nat.le_of_ble_eq_true rfl)⟩) rfl hl.1 rfl (Nat.le_of_ble_eq_true rfl) dX0_holds_280 ⟨Nat.zero_le _, Nat.zero_le _⟩ (fun r hr1 => ?_)
    rcases hr1 with ⟨rfl, c_5⟩ | ⟨rfl, c_5⟩
    · refine zr_if_eq (tgt := 290) hx hb dX0_holds_283 (by decide) (by omega) (fun c => absurd c (by decide)) (fun c_6 => ?_)
      refine zr_iconst hx hb dX0_holds_286 ?_
      refine lv_goto (tgt := 291) hx hb dX0_holds_287 (by decide) ?_
      exact W.zret (v := zi_n 1) (ty := .boolean) hx hb hr zl_b1 (fun t ht hW => ⟨_, rfl, zl_t (by first | assumption | (unfold zh_ok12; omega) | (unfold zh_ok12; (repeat' split) <;> omega) | (unfold zh_ok12; exact Or.inr (by assumption)) | (unfold zh_ok12; exact Or.inl (by assumption)) | (unfold zh_ok12; intro h; rcases h with h | h <;> first | omega | contradiction)), ht⟩) (fun q hq => nomatch hq) dX0_holds_291
    · refine zr_if_eq (tgt := 290) hx hb dX0_holds_283 (by decide) (by omega) (fun c_7 => ?_) (fun c => absurd c (by decide))
      refine zr_iconst hx hb dX0_holds_290 ?_
      exact W.zret (v := zi_n 0) (ty := .boolean) hx hb hr zl_b0 (fun t ht hW => ⟨_, rfl, zl_f (by first | assumption | (unfold zh_ok12; omega) | (unfold zh_ok12; (repeat' split) <;> omega) | (unfold zh_ok12; exact Or.inr (by assumption)) | (unfold zh_ok12; exact Or.inl (by assumption)) | (unfold zh_ok12; intro h; rcases h with h | h <;> first | omega | contradiction)), ht⟩) (fun q hq => nomatch hq) dX0_holds_291

set_option maxHeartbeats 4000000 in
set_option maxRecDepth 100000 in
theorem c_Hd_holds13 (l : Launch) (D : va_G) (hh q a : Nat) (cA : ClassId) (F : Nat → Int) (n : Int) (hF : zi_By F) (hn : 0 ≤ n ∧ n ≤ 600) (h64 : 64 ≤ n) (hL : zh_len F n ≤ n) : Met l yX0_holds wsX0_holds ({ frames := 5, cells := 0, slots := 0, locals := 106 }) (va_Pc [.ref hh, .int (zi_n 13)] (zp_Q D vwCl [(hh, .inr (2, [.ref q])), (q, .inr (3, [.ref a, .int (zi_n n)])), (a, .inl (cA, 600, .inl (zi_F F)))] [(cA, .int)])) (vp_Si (fun r => (r = zi_n 1 ∧ (zh_ok13 F n)) ∨ (r = zi_n 0 ∧ ¬ (zh_ok13 F n)))) 0 0 (fun _ => False) := by
  refine Met.ofW (cc := cX0_holds) (maxL := 2) (ret := (some .boolean)) (by decide) rfl ?_
  intro p e s m args below meth c s₁ B hml hv
  obtain ⟨rfl, hP, hK⟩ := hv
  have hx := B.exec
  have hb := B.bytes
  have hr := B.returns
  have hts := atoms_spec (ws := wsX0_holds) B.pre
  have hown : s.vm.findClass RX0 = some m.cls := findClass_of_methodNamed B.named
  have hlocks := B.notSynchronized
  have hl := lv_entry ([.ref hh, .int (zi_n 13)]) (n := 2) (Nat.le_of_ble_eq_true rfl)
  rw [lg_entry_eq]
  generalize (lg_sl ([.ref hh, .int (zi_n 13)]) ++ List.replicate (2 - (lg_sl ([.ref hh, .int (zi_n 13)])).length) Slot.unset).toArray = ls at hl ⊢
  have hl : lv_has ls 2 [(0, .ref hh), (1, .int (zi_n 13))] := hl
  refine lv_iload_n hx hb dX0_holds_0 rfl (lv_at hl 1 rfl) ?_
  refine zr_tabIn (tgt := 292) hx hb dX0_holds_1 (by decide) (by decide) (by decide) rfl (by decide) ?_
  refine lv_aload_n hx hb dX0_holds_292 rfl (lv_at hl 0 rfl) ?_
  refine zc_V (As := []) (rest := []) ⟨hx, hb, hml, hown, hts⟩ (c_Hd_ends l D hh q a cA F n hF (by omega) (by omega)) (cwV 0 hts gX0_holds_X0_ends rfl rfl rfl (by decide +kernel) ⟨(Nat.le_of_ble_eq_true rfl), (Nat.le_of_ble_eq_true rfl)⟩) hP hK [0, 1, 2] [0] rfl rfl (ci := 2) rfl rfl rfl rfl hl.1 rfl (Nat.le_of_ble_eq_true rfl) dX0_holds_293 ⟨Nat.zero_le _, Nat.zero_le _⟩ (fun r hr1 => ?_)
  obtain ⟨rfl, b_1⟩ := hr1
  refine zr_if_eq (tgt := 306) hx hb dX0_holds_296 (by decide) (by omega) (fun c_2 => ?_) (fun c_2 => ?_)
  · refine zr_iconst hx hb dX0_holds_306 ?_
    refine lv_goto (tgt := 311) hx hb dX0_holds_307 (by decide) ?_
    exact W.zret (v := zi_n 1) (ty := .boolean) hx hb hr zl_b1 (fun t ht hW => ⟨_, rfl, zl_t (by first | assumption | (unfold zh_ok13; omega) | (unfold zh_ok13; (repeat' split) <;> omega) | (unfold zh_ok13; exact Or.inr (by assumption)) | (unfold zh_ok13; exact Or.inl (by assumption)) | (unfold zh_ok13; intro h; rcases h with h | h <;> first | omega | contradiction)), ht⟩) (fun q hq => nomatch hq) dX0_holds_311
  · refine lv_aload_n hx hb dX0_holds_299 rfl (lv_at hl 0 rfl) ?_
    refine zc_V (As := []) (rest := []) ⟨hx, hb, hml, hown, hts⟩ (c_Hd_endsHold l D hh q a cA F n hF (by omega) (by omega) (by omega)) (cwV 0 hts gX0_holds_X0_endsHold rfl rfl rfl (by decide +kernel) ⟨(Nat.le_of_ble_eq_true rfl), (Nat.le_of_ble_eq_true rfl)⟩) hP hK [0, 1, 2] [0] rfl rfl (ci := 2) rfl rfl rfl rfl hl.1 rfl (Nat.le_of_ble_eq_true rfl) dX0_holds_300 ⟨Nat.zero_le _, Nat.zero_le _⟩ (fun r hr1 => ?_)
    rcases hr1 with ⟨rfl, c_3⟩ | ⟨rfl, c_3⟩
    · refine zr_if_eq (tgt := 310) hx hb dX0_holds_303 (by decide) (by omega) (fun c => absurd c (by decide)) (fun c_4 => ?_)
      refine zr_iconst hx hb dX0_holds_306 ?_
      refine lv_goto (tgt := 311) hx hb dX0_holds_307 (by decide) ?_
      exact W.zret (v := zi_n 1) (ty := .boolean) hx hb hr zl_b1 (fun t ht hW => ⟨_, rfl, zl_t (by first | assumption | (unfold zh_ok13; omega) | (unfold zh_ok13; (repeat' split) <;> omega) | (unfold zh_ok13; exact Or.inr (by assumption)) | (unfold zh_ok13; exact Or.inl (by assumption)) | (unfold zh_ok13; intro h; rcases h with h | h <;> first | omega | contradiction)), ht⟩) (fun q hq => nomatch hq) dX0_holds_311
    · refine zr_if_eq (tgt := 310) hx hb dX0_holds_303 (by decide) (by omega) (fun c_5 => ?_) (fun c => absurd c (by decide))
      refine zr_iconst hx hb dX0_holds_310 ?_
      exact W.zret (v := zi_n 0) (ty := .boolean) hx hb hr zl_b0 (fun t ht hW => ⟨_, rfl, zl_f (by first | assumption | (unfold zh_ok13; omega) | (unfold zh_ok13; (repeat' split) <;> omega) | (unfold zh_ok13; exact Or.inr (by assumption)) | (unfold zh_ok13; exact Or.inl (by assumption)) | (unfold zh_ok13; intro h; rcases h with h | h <;> first | omega | contradiction)), ht⟩) (fun q hq => nomatch hq) dX0_holds_311

set_option maxHeartbeats 4000000 in
set_option maxRecDepth 100000 in
theorem c_Hd_holds14 (l : Launch) (D : va_G) (hh q a : Nat) (cA : ClassId) (F : Nat → Int) (n : Int) (hF : zi_By F) (hn : 0 ≤ n ∧ n ≤ 600) (h64 : 64 ≤ n) : Met l yX0_holds wsX0_holds ({ frames := 5, cells := 0, slots := 0, locals := 104 }) (va_Pc [.ref hh, .int (zi_n 14)] (zp_Q D vwCl [(hh, .inr (2, [.ref q])), (q, .inr (3, [.ref a, .int (zi_n n)])), (a, .inl (cA, 600, .inl (zi_F F)))] [(cA, .int)])) (vp_Si (fun r => (r = zi_n 1 ∧ (zh_ok14 F n)) ∨ (r = zi_n 0 ∧ ¬ (zh_ok14 F n)))) 0 0 (fun _ => False) := by
  refine Met.ofW (cc := cX0_holds) (maxL := 2) (ret := (some .boolean)) (by decide) rfl ?_
  intro p e s m args below meth c s₁ B hml hv
  obtain ⟨rfl, hP, hK⟩ := hv
  have hx := B.exec
  have hb := B.bytes
  have hr := B.returns
  have hts := atoms_spec (ws := wsX0_holds) B.pre
  have hown : s.vm.findClass RX0 = some m.cls := findClass_of_methodNamed B.named
  have hlocks := B.notSynchronized
  have hl := lv_entry ([.ref hh, .int (zi_n 14)]) (n := 2) (Nat.le_of_ble_eq_true rfl)
  rw [lg_entry_eq]
  generalize (lg_sl ([.ref hh, .int (zi_n 14)]) ++ List.replicate (2 - (lg_sl ([.ref hh, .int (zi_n 14)])).length) Slot.unset).toArray = ls at hl ⊢
  have hl : lv_has ls 2 [(0, .ref hh), (1, .int (zi_n 14))] := hl
  refine lv_iload_n hx hb dX0_holds_0 rfl (lv_at hl 1 rfl) ?_
  refine zr_tabIn (tgt := 312) hx hb dX0_holds_1 (by decide) (by decide) (by decide) rfl (by decide) ?_
  refine lv_aload_n hx hb dX0_holds_312 rfl (lv_at hl 0 rfl) ?_
  refine zc_V (As := []) (rest := []) ⟨hx, hb, hml, hown, hts⟩ (c_Hd_more l D hh q a cA F n hF (by omega) (by omega)) (cwV 0 hts gX0_holds_X0_more rfl rfl rfl (by decide +kernel) ⟨(Nat.le_of_ble_eq_true rfl), (Nat.le_of_ble_eq_true rfl)⟩) hP hK [0, 1, 2] [0] rfl rfl (ci := 2) rfl rfl rfl rfl hl.1 rfl (Nat.le_of_ble_eq_true rfl) dX0_holds_313 ⟨Nat.zero_le _, Nat.zero_le _⟩ (fun r hr1 => ?_)
  obtain ⟨rfl, b_1⟩ := hr1
  refine zr_if_eq (tgt := 326) hx hb dX0_holds_316 (by decide) (by omega) (fun c_2 => ?_) (fun c_2 => ?_)
  · refine zr_iconst hx hb dX0_holds_326 ?_
    refine lv_goto (tgt := 331) hx hb dX0_holds_327 (by decide) ?_
    exact W.zret (v := zi_n 1) (ty := .boolean) hx hb hr zl_b1 (fun t ht hW => ⟨_, rfl, zl_t (by first | assumption | (unfold zh_ok14; omega) | (unfold zh_ok14; (repeat' split) <;> omega) | (unfold zh_ok14; exact Or.inr (by assumption)) | (unfold zh_ok14; exact Or.inl (by assumption)) | (unfold zh_ok14; intro h; rcases h with h | h <;> first | omega | contradiction)), ht⟩) (fun q hq => nomatch hq) dX0_holds_331
  · refine lv_aload_n hx hb dX0_holds_319 rfl (lv_at hl 0 rfl) ?_
    refine zc_V (As := []) (rest := []) ⟨hx, hb, hml, hown, hts⟩ (c_Hd_moreHolds l D hh q a cA F n hF (by omega) (by omega)) (cwV 0 hts gX0_holds_X0_moreHolds rfl rfl rfl (by decide +kernel) ⟨(Nat.le_of_ble_eq_true rfl), (Nat.le_of_ble_eq_true rfl)⟩) hP hK [0, 1, 2] [0] rfl rfl (ci := 2) rfl rfl rfl rfl hl.1 rfl (Nat.le_of_ble_eq_true rfl) dX0_holds_320 ⟨Nat.zero_le _, Nat.zero_le _⟩ (fun r hr1 => ?_)
    rcases hr1 with ⟨rfl, c_3⟩ | ⟨rfl, c_3⟩
    · refine zr_if_eq (tgt := 330) hx hb dX0_holds_323 (by decide) (by omega) (fun c => absurd c (by decide)) (fun c_4 => ?_)
      refine zr_iconst hx hb dX0_holds_326 ?_
      refine lv_goto (tgt := 331) hx hb dX0_holds_327 (by decide) ?_
      exact W.zret (v := zi_n 1) (ty := .boolean) hx hb hr zl_b1 (fun t ht hW => ⟨_, rfl, zl_t (by first | assumption | (unfold zh_ok14; omega) | (unfold zh_ok14; (repeat' split) <;> omega) | (unfold zh_ok14; exact Or.inr (by assumption)) | (unfold zh_ok14; exact Or.inl (by assumption)) | (unfold zh_ok14; intro h; rcases h with h | h <;> first | omega | contradiction)), ht⟩) (fun q hq => nomatch hq) dX0_holds_331
    · refine zr_if_eq (tgt := 330) hx hb dX0_holds_323 (by decide) (by omega) (fun c_5 => ?_) (fun c => absurd c (by decide))
      refine zr_iconst hx hb dX0_holds_330 ?_
      exact W.zret (v := zi_n 0) (ty := .boolean) hx hb hr zl_b0 (fun t ht hW => ⟨_, rfl, zl_f (by first | assumption | (unfold zh_ok14; omega) | (unfold zh_ok14; (repeat' split) <;> omega) | (unfold zh_ok14; exact Or.inr (by assumption)) | (unfold zh_ok14; exact Or.inl (by assumption)) | (unfold zh_ok14; intro h; rcases h with h | h <;> first | omega | contradiction)), ht⟩) (fun q hq => nomatch hq) dX0_holds_331

set_option maxHeartbeats 4000000 in
set_option maxRecDepth 100000 in
theorem c_Hd_holds15 (l : Launch) (D : va_G) (hh q a : Nat) (cA : ClassId) (F : Nat → Int) (n : Int) (hF : zi_By F) (hn : 0 ≤ n ∧ n ≤ 600) (h64 : 64 ≤ n) : Met l yX0_holds wsX0_holds ({ frames := 5, cells := 0, slots := 0, locals := 105 }) (va_Pc [.ref hh, .int (zi_n 15)] (zp_Q D vwCl [(hh, .inr (2, [.ref q])), (q, .inr (3, [.ref a, .int (zi_n n)])), (a, .inl (cA, 600, .inl (zi_F F)))] [(cA, .int)])) (vp_Si (fun r => (r = zi_n 1 ∧ (zh_ok15 F n)) ∨ (r = zi_n 0 ∧ ¬ (zh_ok15 F n)))) 0 0 (fun _ => False) := by
  refine Met.ofW (cc := cX0_holds) (maxL := 2) (ret := (some .boolean)) (by decide) rfl ?_
  intro p e s m args below meth c s₁ B hml hv
  obtain ⟨rfl, hP, hK⟩ := hv
  have hx := B.exec
  have hb := B.bytes
  have hr := B.returns
  have hts := atoms_spec (ws := wsX0_holds) B.pre
  have hown : s.vm.findClass RX0 = some m.cls := findClass_of_methodNamed B.named
  have hlocks := B.notSynchronized
  have hl := lv_entry ([.ref hh, .int (zi_n 15)]) (n := 2) (Nat.le_of_ble_eq_true rfl)
  rw [lg_entry_eq]
  generalize (lg_sl ([.ref hh, .int (zi_n 15)]) ++ List.replicate (2 - (lg_sl ([.ref hh, .int (zi_n 15)])).length) Slot.unset).toArray = ls at hl ⊢
  have hl : lv_has ls 2 [(0, .ref hh), (1, .int (zi_n 15))] := hl
  refine lv_iload_n hx hb dX0_holds_0 rfl (lv_at hl 1 rfl) ?_
  refine zr_tabOut (tgt := 332) hx hb dX0_holds_1 (by decide) (by decide) (by decide) ?_
  refine lv_aload_n hx hb dX0_holds_332 rfl (lv_at hl 0 rfl) ?_
  refine zc_V (As := []) (rest := []) ⟨hx, hb, hml, hown, hts⟩ (c_Hd_thirdWord l D hh q a cA F n hF (by omega) (by omega)) (cwV 0 hts gX0_holds_X0_thirdWord rfl rfl rfl (by decide +kernel) ⟨(Nat.le_of_ble_eq_true rfl), (Nat.le_of_ble_eq_true rfl)⟩) hP hK [0, 1, 2] [0] rfl rfl (ci := 2) rfl rfl rfl rfl hl.1 rfl (Nat.le_of_ble_eq_true rfl) dX0_holds_333 ⟨Nat.zero_le _, Nat.zero_le _⟩ (fun r hr1 => ?_)
  obtain ⟨rfl, b_1⟩ := hr1
  refine zr_if_eq (tgt := 346) hx hb dX0_holds_336 (by decide) (by omega) (fun c_2 => ?_) (fun c_2 => ?_)
  · refine zr_iconst hx hb dX0_holds_346 ?_
    refine lv_goto (tgt := 351) hx hb dX0_holds_347 (by decide) ?_
    exact W.zret (v := zi_n 1) (ty := .boolean) hx hb hr zl_b1 (fun t ht hW => ⟨_, rfl, zl_t (by first | assumption | (unfold zh_ok15; omega) | (unfold zh_ok15; (repeat' split) <;> omega) | (unfold zh_ok15; exact Or.inr (by assumption)) | (unfold zh_ok15; exact Or.inl (by assumption)) | (unfold zh_ok15; intro h; rcases h with h | h <;> first | omega | contradiction)), ht⟩) (fun q hq => nomatch hq) dX0_holds_351
  · refine lv_aload_n hx hb dX0_holds_339 rfl (lv_at hl 0 rfl) ?_
    refine zc_V (As := []) (rest := []) ⟨hx, hb, hml, hown, hts⟩ (c_Hd_thirdHolds l D hh q a cA F n hF (by omega) (by omega)) (cwV 0 hts gX0_holds_X0_thirdHolds rfl rfl rfl (by decide +kernel) ⟨(Nat.le_of_ble_eq_true rfl), (Nat.le_of_ble_eq_true rfl)⟩) hP hK [0, 1, 2] [0] rfl rfl (ci := 2) rfl rfl rfl rfl hl.1 rfl (Nat.le_of_ble_eq_true rfl) dX0_holds_340 ⟨Nat.zero_le _, Nat.zero_le _⟩ (fun r hr1 => ?_)
    rcases hr1 with ⟨rfl, c_3⟩ | ⟨rfl, c_3⟩
    · refine zr_if_eq (tgt := 350) hx hb dX0_holds_343 (by decide) (by omega) (fun c => absurd c (by decide)) (fun c_4 => ?_)
      refine zr_iconst hx hb dX0_holds_346 ?_
      refine lv_goto (tgt := 351) hx hb dX0_holds_347 (by decide) ?_
      exact W.zret (v := zi_n 1) (ty := .boolean) hx hb hr zl_b1 (fun t ht hW => ⟨_, rfl, zl_t (by first | assumption | (unfold zh_ok15; omega) | (unfold zh_ok15; (repeat' split) <;> omega) | (unfold zh_ok15; exact Or.inr (by assumption)) | (unfold zh_ok15; exact Or.inl (by assumption)) | (unfold zh_ok15; intro h; rcases h with h | h <;> first | omega | contradiction)), ht⟩) (fun q hq => nomatch hq) dX0_holds_351
    · refine zr_if_eq (tgt := 350) hx hb dX0_holds_343 (by decide) (by omega) (fun c_5 => ?_) (fun c => absurd c (by decide))
      refine zr_iconst hx hb dX0_holds_350 ?_
      exact W.zret (v := zi_n 0) (ty := .boolean) hx hb hr zl_b0 (fun t ht hW => ⟨_, rfl, zl_f (by first | assumption | (unfold zh_ok15; omega) | (unfold zh_ok15; (repeat' split) <;> omega) | (unfold zh_ok15; exact Or.inr (by assumption)) | (unfold zh_ok15; exact Or.inl (by assumption)) | (unfold zh_ok15; intro h; rcases h with h | h <;> first | omega | contradiction)), ht⟩) (fun q hq => nomatch hq) dX0_holds_351

set_option maxHeartbeats 4000000 in
set_option maxRecDepth 100000 in
theorem c_Hd_placeOf1 (l : Launch) (D : va_G) (hh q a : Nat) (cA : ClassId) (F : Nat → Int) (n : Int) (hF : zi_By F) (hn : 0 ≤ n ∧ n ≤ 600) : Met l yX0_placeOf wsX0_placeOf ({ frames := 0, cells := 0, slots := 0, locals := 0 }) (va_Pc [.ref hh, .int (zi_n 1)] (zp_Q D vwCl [(hh, .inr (2, [.ref q])), (q, .inr (3, [.ref a, .int (zi_n n)])), (a, .inl (cA, 600, .inl (zi_F F)))] [(cA, .int)])) (vp_Si (fun r => r = zi_n 0 ∧ 0 ≤ 0 ∧ 0 ≤ 65541)) 0 0 (fun _ => False) := by
  refine Met.ofW (cc := cX0_placeOf) (maxL := 2) (ret := (some .int)) (by decide) rfl ?_
  intro p e s m args below meth c s₁ B hml hv
  obtain ⟨rfl, hP, hK⟩ := hv
  have hx := B.exec
  have hb := B.bytes
  have hr := B.returns
  have hts := atoms_spec (ws := wsX0_placeOf) B.pre
  have hown : s.vm.findClass RX0 = some m.cls := findClass_of_methodNamed B.named
  have hlocks := B.notSynchronized
  have hl := lv_entry ([.ref hh, .int (zi_n 1)]) (n := 2) (Nat.le_of_ble_eq_true rfl)
  rw [lg_entry_eq]
  generalize (lg_sl ([.ref hh, .int (zi_n 1)]) ++ List.replicate (2 - (lg_sl ([.ref hh, .int (zi_n 1)])).length) Slot.unset).toArray = ls at hl ⊢
  have hl : lv_has ls 2 [(0, .ref hh), (1, .int (zi_n 1))] := hl
  refine lv_iload_n hx hb dX0_placeOf_0 rfl (lv_at hl 1 rfl) ?_
  refine zr_tabOut (tgt := 116) hx hb dX0_placeOf_1 (by decide) (by decide) (by decide) ?_
  refine zr_iconst hx hb dX0_placeOf_116 ?_
  exact W.iret (v := zi_n 0) hx hb hr (fun t ht hW => ⟨_, rfl, ⟨rfl, by omega⟩, ht⟩) (fun q hq => nomatch hq) dX0_placeOf_117

set_option maxHeartbeats 4000000 in
set_option maxRecDepth 100000 in
theorem c_Hd_placeOf2 (l : Launch) (D : va_G) (hh q a : Nat) (cA : ClassId) (F : Nat → Int) (n : Int) (hF : zi_By F) (hn : 0 ≤ n ∧ n ≤ 600) : Met l yX0_placeOf wsX0_placeOf ({ frames := 0, cells := 0, slots := 0, locals := 0 }) (va_Pc [.ref hh, .int (zi_n 2)] (zp_Q D vwCl [(hh, .inr (2, [.ref q])), (q, .inr (3, [.ref a, .int (zi_n n)])), (a, .inl (cA, 600, .inl (zi_F F)))] [(cA, .int)])) (vp_Si (fun r => r = zi_n 0 ∧ 0 ≤ 0 ∧ 0 ≤ 65541)) 0 0 (fun _ => False) := by
  refine Met.ofW (cc := cX0_placeOf) (maxL := 2) (ret := (some .int)) (by decide) rfl ?_
  intro p e s m args below meth c s₁ B hml hv
  obtain ⟨rfl, hP, hK⟩ := hv
  have hx := B.exec
  have hb := B.bytes
  have hr := B.returns
  have hts := atoms_spec (ws := wsX0_placeOf) B.pre
  have hown : s.vm.findClass RX0 = some m.cls := findClass_of_methodNamed B.named
  have hlocks := B.notSynchronized
  have hl := lv_entry ([.ref hh, .int (zi_n 2)]) (n := 2) (Nat.le_of_ble_eq_true rfl)
  rw [lg_entry_eq]
  generalize (lg_sl ([.ref hh, .int (zi_n 2)]) ++ List.replicate (2 - (lg_sl ([.ref hh, .int (zi_n 2)])).length) Slot.unset).toArray = ls at hl ⊢
  have hl : lv_has ls 2 [(0, .ref hh), (1, .int (zi_n 2))] := hl
  refine lv_iload_n hx hb dX0_placeOf_0 rfl (lv_at hl 1 rfl) ?_
  refine zr_tabOut (tgt := 116) hx hb dX0_placeOf_1 (by decide) (by decide) (by decide) ?_
  refine zr_iconst hx hb dX0_placeOf_116 ?_
  exact W.iret (v := zi_n 0) hx hb hr (fun t ht hW => ⟨_, rfl, ⟨rfl, by omega⟩, ht⟩) (fun q hq => nomatch hq) dX0_placeOf_117

theorem in_X0_placeOf_X0 : ∀ w ∈ u_ws RX0 TX0 1, w ∈ wsX0_placeOf := by decide +kernel
set_option maxHeartbeats 4000000 in
set_option maxRecDepth 100000 in
theorem c_Hd_placeOf3 (l : Launch) (D : va_G) (hh q a : Nat) (cA : ClassId) (F : Nat → Int) (n : Int) (hF : zi_By F) (hn : 0 ≤ n ∧ n ≤ 600) : Met l yX0_placeOf wsX0_placeOf ({ frames := 1, cells := 0, slots := 0, locals := 20 }) (va_Pc [.ref hh, .int (zi_n 3)] (zp_Q D vwCl [(hh, .inr (2, [.ref q])), (q, .inr (3, [.ref a, .int (zi_n n)])), (a, .inl (cA, 600, .inl (zi_F F)))] [(cA, .int)])) (vp_Si (fun r => r = zi_n n ∧ 0 ≤ n ∧ n ≤ 65541)) 0 0 (fun _ => False) := by
  refine Met.ofW (cc := cX0_placeOf) (maxL := 2) (ret := (some .int)) (by decide) rfl ?_
  intro p e s m args below meth c s₁ B hml hv
  obtain ⟨rfl, hP, hK⟩ := hv
  have hx := B.exec
  have hb := B.bytes
  have hr := B.returns
  have hts := atoms_spec (ws := wsX0_placeOf) B.pre
  have hown : s.vm.findClass RX0 = some m.cls := findClass_of_methodNamed B.named
  have hlocks := B.notSynchronized
  have hl := lv_entry ([.ref hh, .int (zi_n 3)]) (n := 2) (Nat.le_of_ble_eq_true rfl)
  rw [lg_entry_eq]
  generalize (lg_sl ([.ref hh, .int (zi_n 3)]) ++ List.replicate (2 - (lg_sl ([.ref hh, .int (zi_n 3)])).length) Slot.unset).toArray = ls at hl ⊢
  have hl : lv_has ls 2 [(0, .ref hh), (1, .int (zi_n 3))] := hl
  refine lv_iload_n hx hb dX0_placeOf_0 rfl (lv_at hl 1 rfl) ?_
  refine zr_tabIn (tgt := 68) hx hb dX0_placeOf_1 (by decide) (by decide) (by decide) rfl (by decide) ?_
  refine lv_aload_n hx hb dX0_placeOf_68 rfl (lv_at hl 0 rfl) ?_
  refine va_get (D := D) (ci := 2) (v := .ref q) (C := RX0) (T := TX0) (N := 1) hx hb hts in_X0_placeOf_X0 hown hK hP 0 rfl rfl 0 (by decide) (hts (.fieldLink RX0 9 "ZHeads$Head" "row" "LZHeads$Row;") (by decide +kernel)) (fun _ h9 => h9) rfl dX0_placeOf_69 ?_
  refine zc_V (As := []) (rest := []) ⟨hx, hb, hml, hown, hts⟩ (c_Row_count l D q a cA F n hF (by omega)) (cwV 0 hts gX0_placeOf_X2_count rfl rfl rfl (by decide +kernel) ⟨(Nat.le_of_ble_eq_true rfl), (Nat.le_of_ble_eq_true rfl)⟩) hP hK [1, 2] [0] rfl rfl (ci := 3) rfl rfl rfl rfl hl.1 rfl (Nat.le_of_ble_eq_true rfl) dX0_placeOf_72 ⟨Nat.zero_le _, Nat.zero_le _⟩ (fun r hr1 => ?_)
  obtain ⟨rfl, b_1⟩ := hr1
  exact W.iret (v := zi_n n) hx hb hr (fun t ht hW => ⟨_, rfl, ⟨rfl, by omega⟩, ht⟩) (fun q hq => nomatch hq) dX0_placeOf_75

set_option maxHeartbeats 4000000 in
set_option maxRecDepth 100000 in
theorem c_Hd_placeOf4 (l : Launch) (D : va_G) (hh q a : Nat) (cA : ClassId) (F : Nat → Int) (n : Int) (hF : zi_By F) (hn : 0 ≤ n ∧ n ≤ 600) : Met l yX0_placeOf wsX0_placeOf ({ frames := 0, cells := 0, slots := 0, locals := 0 }) (va_Pc [.ref hh, .int (zi_n 4)] (zp_Q D vwCl [(hh, .inr (2, [.ref q])), (q, .inr (3, [.ref a, .int (zi_n n)])), (a, .inl (cA, 600, .inl (zi_F F)))] [(cA, .int)])) (vp_Si (fun r => r = zi_n 26 ∧ 0 ≤ 26 ∧ 26 ≤ 65541)) 0 0 (fun _ => False) := by
  refine Met.ofW (cc := cX0_placeOf) (maxL := 2) (ret := (some .int)) (by decide) rfl ?_
  intro p e s m args below meth c s₁ B hml hv
  obtain ⟨rfl, hP, hK⟩ := hv
  have hx := B.exec
  have hb := B.bytes
  have hr := B.returns
  have hts := atoms_spec (ws := wsX0_placeOf) B.pre
  have hown : s.vm.findClass RX0 = some m.cls := findClass_of_methodNamed B.named
  have hlocks := B.notSynchronized
  have hl := lv_entry ([.ref hh, .int (zi_n 4)]) (n := 2) (Nat.le_of_ble_eq_true rfl)
  rw [lg_entry_eq]
  generalize (lg_sl ([.ref hh, .int (zi_n 4)]) ++ List.replicate (2 - (lg_sl ([.ref hh, .int (zi_n 4)])).length) Slot.unset).toArray = ls at hl ⊢
  have hl : lv_has ls 2 [(0, .ref hh), (1, .int (zi_n 4))] := hl
  refine lv_iload_n hx hb dX0_placeOf_0 rfl (lv_at hl 1 rfl) ?_
  refine zr_tabIn (tgt := 76) hx hb dX0_placeOf_1 (by decide) (by decide) (by decide) rfl (by decide) ?_
  refine zr_bipush hx hb dX0_placeOf_76 (by decide) ?_
  exact W.iret (v := zi_n 26) hx hb hr (fun t ht hW => ⟨_, rfl, ⟨rfl, by omega⟩, ht⟩) (fun q hq => nomatch hq) dX0_placeOf_78

set_option maxHeartbeats 4000000 in
set_option maxRecDepth 100000 in
theorem c_Hd_placeOf5 (l : Launch) (D : va_G) (hh q a : Nat) (cA : ClassId) (F : Nat → Int) (n : Int) (hF : zi_By F) (hn : 0 ≤ n ∧ n ≤ 600) : Met l yX0_placeOf wsX0_placeOf ({ frames := 0, cells := 0, slots := 0, locals := 0 }) (va_Pc [.ref hh, .int (zi_n 5)] (zp_Q D vwCl [(hh, .inr (2, [.ref q])), (q, .inr (3, [.ref a, .int (zi_n n)])), (a, .inl (cA, 600, .inl (zi_F F)))] [(cA, .int)])) (vp_Si (fun r => r = zi_n 14 ∧ 0 ≤ 14 ∧ 14 ≤ 65541)) 0 0 (fun _ => False) := by
  refine Met.ofW (cc := cX0_placeOf) (maxL := 2) (ret := (some .int)) (by decide) rfl ?_
  intro p e s m args below meth c s₁ B hml hv
  obtain ⟨rfl, hP, hK⟩ := hv
  have hx := B.exec
  have hb := B.bytes
  have hr := B.returns
  have hts := atoms_spec (ws := wsX0_placeOf) B.pre
  have hown : s.vm.findClass RX0 = some m.cls := findClass_of_methodNamed B.named
  have hlocks := B.notSynchronized
  have hl := lv_entry ([.ref hh, .int (zi_n 5)]) (n := 2) (Nat.le_of_ble_eq_true rfl)
  rw [lg_entry_eq]
  generalize (lg_sl ([.ref hh, .int (zi_n 5)]) ++ List.replicate (2 - (lg_sl ([.ref hh, .int (zi_n 5)])).length) Slot.unset).toArray = ls at hl ⊢
  have hl : lv_has ls 2 [(0, .ref hh), (1, .int (zi_n 5))] := hl
  refine lv_iload_n hx hb dX0_placeOf_0 rfl (lv_at hl 1 rfl) ?_
  refine zr_tabIn (tgt := 79) hx hb dX0_placeOf_1 (by decide) (by decide) (by decide) rfl (by decide) ?_
  refine zr_bipush hx hb dX0_placeOf_79 (by decide) ?_
  exact W.iret (v := zi_n 14) hx hb hr (fun t ht hW => ⟨_, rfl, ⟨rfl, by omega⟩, ht⟩) (fun q hq => nomatch hq) dX0_placeOf_81

set_option maxHeartbeats 4000000 in
set_option maxRecDepth 100000 in
theorem c_Hd_placeOf6 (l : Launch) (D : va_G) (hh q a : Nat) (cA : ClassId) (F : Nat → Int) (n : Int) (hF : zi_By F) (hn : 0 ≤ n ∧ n ≤ 600) : Met l yX0_placeOf wsX0_placeOf ({ frames := 0, cells := 0, slots := 0, locals := 0 }) (va_Pc [.ref hh, .int (zi_n 6)] (zp_Q D vwCl [(hh, .inr (2, [.ref q])), (q, .inr (3, [.ref a, .int (zi_n n)])), (a, .inl (cA, 600, .inl (zi_F F)))] [(cA, .int)])) (vp_Si (fun r => r = zi_n 4 ∧ 0 ≤ 4 ∧ 4 ≤ 65541)) 0 0 (fun _ => False) := by
  refine Met.ofW (cc := cX0_placeOf) (maxL := 2) (ret := (some .int)) (by decide) rfl ?_
  intro p e s m args below meth c s₁ B hml hv
  obtain ⟨rfl, hP, hK⟩ := hv
  have hx := B.exec
  have hb := B.bytes
  have hr := B.returns
  have hts := atoms_spec (ws := wsX0_placeOf) B.pre
  have hown : s.vm.findClass RX0 = some m.cls := findClass_of_methodNamed B.named
  have hlocks := B.notSynchronized
  have hl := lv_entry ([.ref hh, .int (zi_n 6)]) (n := 2) (Nat.le_of_ble_eq_true rfl)
  rw [lg_entry_eq]
  generalize (lg_sl ([.ref hh, .int (zi_n 6)]) ++ List.replicate (2 - (lg_sl ([.ref hh, .int (zi_n 6)])).length) Slot.unset).toArray = ls at hl ⊢
  have hl : lv_has ls 2 [(0, .ref hh), (1, .int (zi_n 6))] := hl
  refine lv_iload_n hx hb dX0_placeOf_0 rfl (lv_at hl 1 rfl) ?_
  refine zr_tabIn (tgt := 82) hx hb dX0_placeOf_1 (by decide) (by decide) (by decide) rfl (by decide) ?_
  refine zr_iconst hx hb dX0_placeOf_82 ?_
  exact W.iret (v := zi_n 4) hx hb hr (fun t ht hW => ⟨_, rfl, ⟨rfl, by omega⟩, ht⟩) (fun q hq => nomatch hq) dX0_placeOf_83

set_option maxHeartbeats 4000000 in
set_option maxRecDepth 100000 in
theorem c_Hd_placeOf7 (l : Launch) (D : va_G) (hh q a : Nat) (cA : ClassId) (F : Nat → Int) (n : Int) (hF : zi_By F) (hn : 0 ≤ n ∧ n ≤ 600) : Met l yX0_placeOf wsX0_placeOf ({ frames := 0, cells := 0, slots := 0, locals := 0 }) (va_Pc [.ref hh, .int (zi_n 7)] (zp_Q D vwCl [(hh, .inr (2, [.ref q])), (q, .inr (3, [.ref a, .int (zi_n n)])), (a, .inl (cA, 600, .inl (zi_F F)))] [(cA, .int)])) (vp_Si (fun r => r = zi_n 12 ∧ 0 ≤ 12 ∧ 12 ≤ 65541)) 0 0 (fun _ => False) := by
  refine Met.ofW (cc := cX0_placeOf) (maxL := 2) (ret := (some .int)) (by decide) rfl ?_
  intro p e s m args below meth c s₁ B hml hv
  obtain ⟨rfl, hP, hK⟩ := hv
  have hx := B.exec
  have hb := B.bytes
  have hr := B.returns
  have hts := atoms_spec (ws := wsX0_placeOf) B.pre
  have hown : s.vm.findClass RX0 = some m.cls := findClass_of_methodNamed B.named
  have hlocks := B.notSynchronized
  have hl := lv_entry ([.ref hh, .int (zi_n 7)]) (n := 2) (Nat.le_of_ble_eq_true rfl)
  rw [lg_entry_eq]
  generalize (lg_sl ([.ref hh, .int (zi_n 7)]) ++ List.replicate (2 - (lg_sl ([.ref hh, .int (zi_n 7)])).length) Slot.unset).toArray = ls at hl ⊢
  have hl : lv_has ls 2 [(0, .ref hh), (1, .int (zi_n 7))] := hl
  refine lv_iload_n hx hb dX0_placeOf_0 rfl (lv_at hl 1 rfl) ?_
  refine zr_tabIn (tgt := 84) hx hb dX0_placeOf_1 (by decide) (by decide) (by decide) rfl (by decide) ?_
  refine zr_bipush hx hb dX0_placeOf_84 (by decide) ?_
  exact W.iret (v := zi_n 12) hx hb hr (fun t ht hW => ⟨_, rfl, ⟨rfl, by omega⟩, ht⟩) (fun q hq => nomatch hq) dX0_placeOf_86

set_option maxHeartbeats 4000000 in
set_option maxRecDepth 100000 in
theorem c_Hd_placeOf8 (l : Launch) (D : va_G) (hh q a : Nat) (cA : ClassId) (F : Nat → Int) (n : Int) (hF : zi_By F) (hn : 0 ≤ n ∧ n ≤ 600) : Met l yX0_placeOf wsX0_placeOf ({ frames := 0, cells := 0, slots := 0, locals := 0 }) (va_Pc [.ref hh, .int (zi_n 8)] (zp_Q D vwCl [(hh, .inr (2, [.ref q])), (q, .inr (3, [.ref a, .int (zi_n n)])), (a, .inl (cA, 600, .inl (zi_F F)))] [(cA, .int)])) (vp_Si (fun r => r = zi_n 10 ∧ 0 ≤ 10 ∧ 10 ≤ 65541)) 0 0 (fun _ => False) := by
  refine Met.ofW (cc := cX0_placeOf) (maxL := 2) (ret := (some .int)) (by decide) rfl ?_
  intro p e s m args below meth c s₁ B hml hv
  obtain ⟨rfl, hP, hK⟩ := hv
  have hx := B.exec
  have hb := B.bytes
  have hr := B.returns
  have hts := atoms_spec (ws := wsX0_placeOf) B.pre
  have hown : s.vm.findClass RX0 = some m.cls := findClass_of_methodNamed B.named
  have hlocks := B.notSynchronized
  have hl := lv_entry ([.ref hh, .int (zi_n 8)]) (n := 2) (Nat.le_of_ble_eq_true rfl)
  rw [lg_entry_eq]
  generalize (lg_sl ([.ref hh, .int (zi_n 8)]) ++ List.replicate (2 - (lg_sl ([.ref hh, .int (zi_n 8)])).length) Slot.unset).toArray = ls at hl ⊢
  have hl : lv_has ls 2 [(0, .ref hh), (1, .int (zi_n 8))] := hl
  refine lv_iload_n hx hb dX0_placeOf_0 rfl (lv_at hl 1 rfl) ?_
  refine zr_tabIn (tgt := 87) hx hb dX0_placeOf_1 (by decide) (by decide) (by decide) rfl (by decide) ?_
  refine zr_bipush hx hb dX0_placeOf_87 (by decide) ?_
  exact W.iret (v := zi_n 10) hx hb hr (fun t ht hW => ⟨_, rfl, ⟨rfl, by omega⟩, ht⟩) (fun q hq => nomatch hq) dX0_placeOf_89

set_option maxHeartbeats 4000000 in
set_option maxRecDepth 100000 in
theorem c_Hd_placeOf9 (l : Launch) (D : va_G) (hh q a : Nat) (cA : ClassId) (F : Nat → Int) (n : Int) (hF : zi_By F) (hn : 0 ≤ n ∧ n ≤ 600) : Met l yX0_placeOf wsX0_placeOf ({ frames := 0, cells := 0, slots := 0, locals := 0 }) (va_Pc [.ref hh, .int (zi_n 9)] (zp_Q D vwCl [(hh, .inr (2, [.ref q])), (q, .inr (3, [.ref a, .int (zi_n n)])), (a, .inl (cA, 600, .inl (zi_F F)))] [(cA, .int)])) (vp_Si (fun r => r = zi_n 8 ∧ 0 ≤ 8 ∧ 8 ≤ 65541)) 0 0 (fun _ => False) := by
  refine Met.ofW (cc := cX0_placeOf) (maxL := 2) (ret := (some .int)) (by decide) rfl ?_
  intro p e s m args below meth c s₁ B hml hv
  obtain ⟨rfl, hP, hK⟩ := hv
  have hx := B.exec
  have hb := B.bytes
  have hr := B.returns
  have hts := atoms_spec (ws := wsX0_placeOf) B.pre
  have hown : s.vm.findClass RX0 = some m.cls := findClass_of_methodNamed B.named
  have hlocks := B.notSynchronized
  have hl := lv_entry ([.ref hh, .int (zi_n 9)]) (n := 2) (Nat.le_of_ble_eq_true rfl)
  rw [lg_entry_eq]
  generalize (lg_sl ([.ref hh, .int (zi_n 9)]) ++ List.replicate (2 - (lg_sl ([.ref hh, .int (zi_n 9)])).length) Slot.unset).toArray = ls at hl ⊢
  have hl : lv_has ls 2 [(0, .ref hh), (1, .int (zi_n 9))] := hl
  refine lv_iload_n hx hb dX0_placeOf_0 rfl (lv_at hl 1 rfl) ?_
  refine zr_tabIn (tgt := 90) hx hb dX0_placeOf_1 (by decide) (by decide) (by decide) rfl (by decide) ?_
  refine zr_bipush hx hb dX0_placeOf_90 (by decide) ?_
  exact W.iret (v := zi_n 8) hx hb hr (fun t ht hW => ⟨_, rfl, ⟨rfl, by omega⟩, ht⟩) (fun q hq => nomatch hq) dX0_placeOf_92

set_option maxHeartbeats 4000000 in
set_option maxRecDepth 100000 in
theorem c_Hd_placeOf10 (l : Launch) (D : va_G) (hh q a : Nat) (cA : ClassId) (F : Nat → Int) (n : Int) (hF : zi_By F) (hn : 0 ≤ n ∧ n ≤ 600) : Met l yX0_placeOf wsX0_placeOf ({ frames := 0, cells := 0, slots := 0, locals := 0 }) (va_Pc [.ref hh, .int (zi_n 10)] (zp_Q D vwCl [(hh, .inr (2, [.ref q])), (q, .inr (3, [.ref a, .int (zi_n n)])), (a, .inl (cA, 600, .inl (zi_F F)))] [(cA, .int)])) (vp_Si (fun r => r = zi_n 24 ∧ 0 ≤ 24 ∧ 24 ≤ 65541)) 0 0 (fun _ => False) := by
  refine Met.ofW (cc := cX0_placeOf) (maxL := 2) (ret := (some .int)) (by decide) rfl ?_
  intro p e s m args below meth c s₁ B hml hv
  obtain ⟨rfl, hP, hK⟩ := hv
  have hx := B.exec
  have hb := B.bytes
  have hr := B.returns
  have hts := atoms_spec (ws := wsX0_placeOf) B.pre
  have hown : s.vm.findClass RX0 = some m.cls := findClass_of_methodNamed B.named
  have hlocks := B.notSynchronized
  have hl := lv_entry ([.ref hh, .int (zi_n 10)]) (n := 2) (Nat.le_of_ble_eq_true rfl)
  rw [lg_entry_eq]
  generalize (lg_sl ([.ref hh, .int (zi_n 10)]) ++ List.replicate (2 - (lg_sl ([.ref hh, .int (zi_n 10)])).length) Slot.unset).toArray = ls at hl ⊢
  have hl : lv_has ls 2 [(0, .ref hh), (1, .int (zi_n 10))] := hl
  refine lv_iload_n hx hb dX0_placeOf_0 rfl (lv_at hl 1 rfl) ?_
  refine zr_tabIn (tgt := 93) hx hb dX0_placeOf_1 (by decide) (by decide) (by decide) rfl (by decide) ?_
  refine zr_bipush hx hb dX0_placeOf_93 (by decide) ?_
  exact W.iret (v := zi_n 24) hx hb hr (fun t ht hW => ⟨_, rfl, ⟨rfl, by omega⟩, ht⟩) (fun q hq => nomatch hq) dX0_placeOf_95

set_option maxHeartbeats 4000000 in
set_option maxRecDepth 100000 in
theorem c_Hd_placeOf11 (l : Launch) (D : va_G) (hh q a : Nat) (cA : ClassId) (F : Nat → Int) (n : Int) (hF : zi_By F) (hn : 0 ≤ n ∧ n ≤ 600) : Met l yX0_placeOf wsX0_placeOf ({ frames := 0, cells := 0, slots := 0, locals := 0 }) (va_Pc [.ref hh, .int (zi_n 11)] (zp_Q D vwCl [(hh, .inr (2, [.ref q])), (q, .inr (3, [.ref a, .int (zi_n n)])), (a, .inl (cA, 600, .inl (zi_F F)))] [(cA, .int)])) (vp_Si (fun r => r = zi_n 6 ∧ 0 ≤ 6 ∧ 6 ≤ 65541)) 0 0 (fun _ => False) := by
  refine Met.ofW (cc := cX0_placeOf) (maxL := 2) (ret := (some .int)) (by decide) rfl ?_
  intro p e s m args below meth c s₁ B hml hv
  obtain ⟨rfl, hP, hK⟩ := hv
  have hx := B.exec
  have hb := B.bytes
  have hr := B.returns
  have hts := atoms_spec (ws := wsX0_placeOf) B.pre
  have hown : s.vm.findClass RX0 = some m.cls := findClass_of_methodNamed B.named
  have hlocks := B.notSynchronized
  have hl := lv_entry ([.ref hh, .int (zi_n 11)]) (n := 2) (Nat.le_of_ble_eq_true rfl)
  rw [lg_entry_eq]
  generalize (lg_sl ([.ref hh, .int (zi_n 11)]) ++ List.replicate (2 - (lg_sl ([.ref hh, .int (zi_n 11)])).length) Slot.unset).toArray = ls at hl ⊢
  have hl : lv_has ls 2 [(0, .ref hh), (1, .int (zi_n 11))] := hl
  refine lv_iload_n hx hb dX0_placeOf_0 rfl (lv_at hl 1 rfl) ?_
  refine zr_tabIn (tgt := 96) hx hb dX0_placeOf_1 (by decide) (by decide) (by decide) rfl (by decide) ?_
  refine zr_bipush hx hb dX0_placeOf_96 (by decide) ?_
  exact W.iret (v := zi_n 6) hx hb hr (fun t ht hW => ⟨_, rfl, ⟨rfl, by omega⟩, ht⟩) (fun q hq => nomatch hq) dX0_placeOf_98

set_option maxHeartbeats 4000000 in
set_option maxRecDepth 100000 in
theorem c_Hd_placeOf12 (l : Launch) (D : va_G) (hh q a : Nat) (cA : ClassId) (F : Nat → Int) (n : Int) (hF : zi_By F) (hn : 0 ≤ n ∧ n ≤ 600) : Met l yX0_placeOf wsX0_placeOf ({ frames := 0, cells := 0, slots := 0, locals := 0 }) (va_Pc [.ref hh, .int (zi_n 12)] (zp_Q D vwCl [(hh, .inr (2, [.ref q])), (q, .inr (3, [.ref a, .int (zi_n n)])), (a, .inl (cA, 600, .inl (zi_F F)))] [(cA, .int)])) (vp_Si (fun r => r = zi_n 52 ∧ 0 ≤ 52 ∧ 52 ≤ 65541)) 0 0 (fun _ => False) := by
  refine Met.ofW (cc := cX0_placeOf) (maxL := 2) (ret := (some .int)) (by decide) rfl ?_
  intro p e s m args below meth c s₁ B hml hv
  obtain ⟨rfl, hP, hK⟩ := hv
  have hx := B.exec
  have hb := B.bytes
  have hr := B.returns
  have hts := atoms_spec (ws := wsX0_placeOf) B.pre
  have hown : s.vm.findClass RX0 = some m.cls := findClass_of_methodNamed B.named
  have hlocks := B.notSynchronized
  have hl := lv_entry ([.ref hh, .int (zi_n 12)]) (n := 2) (Nat.le_of_ble_eq_true rfl)
  rw [lg_entry_eq]
  generalize (lg_sl ([.ref hh, .int (zi_n 12)]) ++ List.replicate (2 - (lg_sl ([.ref hh, .int (zi_n 12)])).length) Slot.unset).toArray = ls at hl ⊢
  have hl : lv_has ls 2 [(0, .ref hh), (1, .int (zi_n 12))] := hl
  refine lv_iload_n hx hb dX0_placeOf_0 rfl (lv_at hl 1 rfl) ?_
  refine zr_tabIn (tgt := 99) hx hb dX0_placeOf_1 (by decide) (by decide) (by decide) rfl (by decide) ?_
  refine zr_bipush hx hb dX0_placeOf_99 (by decide) ?_
  exact W.iret (v := zi_n 52) hx hb hr (fun t ht hW => ⟨_, rfl, ⟨rfl, by omega⟩, ht⟩) (fun q hq => nomatch hq) dX0_placeOf_101

set_option maxHeartbeats 4000000 in
set_option maxRecDepth 100000 in
theorem c_Hd_placeOf13 (l : Launch) (D : va_G) (hh q a : Nat) (cA : ClassId) (F : Nat → Int) (n : Int) (hF : zi_By F) (hn : 0 ≤ n ∧ n ≤ 600) : Met l yX0_placeOf wsX0_placeOf ({ frames := 0, cells := 0, slots := 0, locals := 0 }) (va_Pc [.ref hh, .int (zi_n 13)] (zp_Q D vwCl [(hh, .inr (2, [.ref q])), (q, .inr (3, [.ref a, .int (zi_n n)])), (a, .inl (cA, 600, .inl (zi_F F)))] [(cA, .int)])) (vp_Si (fun r => r = zi_n 46 ∧ 0 ≤ 46 ∧ 46 ≤ 65541)) 0 0 (fun _ => False) := by
  refine Met.ofW (cc := cX0_placeOf) (maxL := 2) (ret := (some .int)) (by decide) rfl ?_
  intro p e s m args below meth c s₁ B hml hv
  obtain ⟨rfl, hP, hK⟩ := hv
  have hx := B.exec
  have hb := B.bytes
  have hr := B.returns
  have hts := atoms_spec (ws := wsX0_placeOf) B.pre
  have hown : s.vm.findClass RX0 = some m.cls := findClass_of_methodNamed B.named
  have hlocks := B.notSynchronized
  have hl := lv_entry ([.ref hh, .int (zi_n 13)]) (n := 2) (Nat.le_of_ble_eq_true rfl)
  rw [lg_entry_eq]
  generalize (lg_sl ([.ref hh, .int (zi_n 13)]) ++ List.replicate (2 - (lg_sl ([.ref hh, .int (zi_n 13)])).length) Slot.unset).toArray = ls at hl ⊢
  have hl : lv_has ls 2 [(0, .ref hh), (1, .int (zi_n 13))] := hl
  refine lv_iload_n hx hb dX0_placeOf_0 rfl (lv_at hl 1 rfl) ?_
  refine zr_tabIn (tgt := 102) hx hb dX0_placeOf_1 (by decide) (by decide) (by decide) rfl (by decide) ?_
  refine zr_bipush hx hb dX0_placeOf_102 (by decide) ?_
  exact W.iret (v := zi_n 46) hx hb hr (fun t ht hW => ⟨_, rfl, ⟨rfl, by omega⟩, ht⟩) (fun q hq => nomatch hq) dX0_placeOf_104

set_option maxHeartbeats 4000000 in
set_option maxRecDepth 100000 in
theorem c_Hd_placeOf14 (l : Launch) (D : va_G) (hh q a : Nat) (cA : ClassId) (F : Nat → Int) (n : Int) (hF : zi_By F) (hn : 0 ≤ n ∧ n ≤ 600) : Met l yX0_placeOf wsX0_placeOf ({ frames := 0, cells := 0, slots := 0, locals := 0 }) (va_Pc [.ref hh, .int (zi_n 14)] (zp_Q D vwCl [(hh, .inr (2, [.ref q])), (q, .inr (3, [.ref a, .int (zi_n n)])), (a, .inl (cA, 600, .inl (zi_F F)))] [(cA, .int)])) (vp_Si (fun r => r = zi_n 54 ∧ 0 ≤ 54 ∧ 54 ≤ 65541)) 0 0 (fun _ => False) := by
  refine Met.ofW (cc := cX0_placeOf) (maxL := 2) (ret := (some .int)) (by decide) rfl ?_
  intro p e s m args below meth c s₁ B hml hv
  obtain ⟨rfl, hP, hK⟩ := hv
  have hx := B.exec
  have hb := B.bytes
  have hr := B.returns
  have hts := atoms_spec (ws := wsX0_placeOf) B.pre
  have hown : s.vm.findClass RX0 = some m.cls := findClass_of_methodNamed B.named
  have hlocks := B.notSynchronized
  have hl := lv_entry ([.ref hh, .int (zi_n 14)]) (n := 2) (Nat.le_of_ble_eq_true rfl)
  rw [lg_entry_eq]
  generalize (lg_sl ([.ref hh, .int (zi_n 14)]) ++ List.replicate (2 - (lg_sl ([.ref hh, .int (zi_n 14)])).length) Slot.unset).toArray = ls at hl ⊢
  have hl : lv_has ls 2 [(0, .ref hh), (1, .int (zi_n 14))] := hl
  refine lv_iload_n hx hb dX0_placeOf_0 rfl (lv_at hl 1 rfl) ?_
  refine zr_tabIn (tgt := 105) hx hb dX0_placeOf_1 (by decide) (by decide) (by decide) rfl (by decide) ?_
  refine zr_bipush hx hb dX0_placeOf_105 (by decide) ?_
  exact W.iret (v := zi_n 54) hx hb hr (fun t ht hW => ⟨_, rfl, ⟨rfl, by omega⟩, ht⟩) (fun q hq => nomatch hq) dX0_placeOf_107

set_option maxHeartbeats 4000000 in
set_option maxRecDepth 100000 in
theorem c_Hd_placeOf15 (l : Launch) (D : va_G) (hh q a : Nat) (cA : ClassId) (F : Nat → Int) (n : Int) (hF : zi_By F) (hn : 0 ≤ n ∧ n ≤ 600) (h64 : 64 ≤ n) : Met l yX0_placeOf wsX0_placeOf ({ frames := 3, cells := 0, slots := 0, locals := 61 }) (va_Pc [.ref hh, .int (zi_n 15)] (zp_Q D vwCl [(hh, .inr (2, [.ref q])), (q, .inr (3, [.ref a, .int (zi_n n)])), (a, .inl (cA, 600, .inl (zi_F F)))] [(cA, .int)])) (vp_Si (fun r => r = zi_n (zh_more F + 6) ∧ 0 ≤ (zh_more F + 6) ∧ (zh_more F + 6) ≤ 65541)) 0 0 (fun _ => False) := by
  refine Met.ofW (cc := cX0_placeOf) (maxL := 2) (ret := (some .int)) (by decide) rfl ?_
  intro p e s m args below meth c s₁ B hml hv
  obtain ⟨rfl, hP, hK⟩ := hv
  have hx := B.exec
  have hb := B.bytes
  have hr := B.returns
  have hts := atoms_spec (ws := wsX0_placeOf) B.pre
  have hown : s.vm.findClass RX0 = some m.cls := findClass_of_methodNamed B.named
  have hlocks := B.notSynchronized
  have hl := lv_entry ([.ref hh, .int (zi_n 15)]) (n := 2) (Nat.le_of_ble_eq_true rfl)
  rw [lg_entry_eq]
  generalize (lg_sl ([.ref hh, .int (zi_n 15)]) ++ List.replicate (2 - (lg_sl ([.ref hh, .int (zi_n 15)])).length) Slot.unset).toArray = ls at hl ⊢
  have hl : lv_has ls 2 [(0, .ref hh), (1, .int (zi_n 15))] := hl
  refine lv_iload_n hx hb dX0_placeOf_0 rfl (lv_at hl 1 rfl) ?_
  refine zr_tabIn (tgt := 108) hx hb dX0_placeOf_1 (by decide) (by decide) (by decide) rfl (by decide) ?_
  refine lv_aload_n hx hb dX0_placeOf_108 rfl (lv_at hl 0 rfl) ?_
  refine zc_V (As := []) (rest := []) ⟨hx, hb, hml, hown, hts⟩ (c_Hd_more l D hh q a cA F n hF (by omega) (by omega)) (cwV 0 hts gX0_placeOf_X0_more rfl rfl rfl (by decide +kernel) ⟨(Nat.le_of_ble_eq_true rfl), (Nat.le_of_ble_eq_true rfl)⟩) hP hK [0, 1, 2] [0] rfl rfl (ci := 2) rfl rfl rfl rfl hl.1 rfl (Nat.le_of_ble_eq_true rfl) dX0_placeOf_109 ⟨Nat.zero_le _, Nat.zero_le _⟩ (fun r hr1 => ?_)
  obtain ⟨rfl, b_1⟩ := hr1
  refine zr_bipush hx hb dX0_placeOf_112 (by decide) ?_
  refine zr_iadd hx hb dX0_placeOf_114 ?_
  exact W.iret (v := zi_n ((zh_more F) + 6)) hx hb hr (fun t ht hW => ⟨_, rfl, zl_r (by omega) (by omega), ht⟩) (fun q hq => nomatch hq) dX0_placeOf_115

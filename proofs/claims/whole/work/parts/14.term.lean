theorem in_X0_term_X0 : ∀ w ∈ u_ws RX0 TX0 1, w ∈ wsX0_term := by decide +kernel
set_option maxHeartbeats 4000000 in
set_option maxRecDepth 100000 in
theorem c_Hd_term (l : Launch) (D : va_G) (hh q a : Nat) (cA : ClassId) (F : Nat → Int) (n : Int) (hF : zi_By F) (hn : 0 ≤ n ∧ n ≤ 600) (p0 : Int) (h64 : 64 ≤ n) (hp : 0 ≤ p0 ∧ p0 ≤ 17) : Met l yX0_term wsX0_term ({ frames := 4, cells := 0, slots := 0, locals := 83 }) (va_Pc [.ref hh, .int (zi_n p0)] (zp_Q D vwCl [(hh, .inr (2, [.ref q])), (q, .inr (3, [.ref a, .int (zi_n n)])), (a, .inl (cA, 600, .inl (zi_F F)))] [(cA, .int)])) (vp_Si (fun r => r = zi_n (zh_term F n p0) ∧ -32768 ≤ (zh_term F n p0) ∧ (zh_term F n p0) ≤ 786420)) 0 0 (fun _ => False) := by
  refine Met.ofW (cc := cX0_term) (maxL := 2) (ret := (some .int)) (by decide) rfl ?_
  intro p e s m args below meth c s₁ B hml hv
  obtain ⟨rfl, hP, hK⟩ := hv
  have hx := B.exec
  have hb := B.bytes
  have hr := B.returns
  have hts := atoms_spec (ws := wsX0_term) B.pre
  have hown : s.vm.findClass RX0 = some m.cls := findClass_of_methodNamed B.named
  have hlocks := B.notSynchronized
  have hl := lv_entry ([.ref hh, .int (zi_n p0)]) (n := 2) (Nat.le_of_ble_eq_true rfl)
  rw [lg_entry_eq]
  generalize (lg_sl ([.ref hh, .int (zi_n p0)]) ++ List.replicate (2 - (lg_sl ([.ref hh, .int (zi_n p0)])).length) Slot.unset).toArray = ls at hl ⊢
  have hl : lv_has ls 2 [(0, .ref hh), (1, .int (zi_n p0))] := hl
  refine lv_iload_n hx hb dX0_term_0 rfl (lv_at hl 1 rfl) ?_
  rcases (show p0 = 0 ∨ p0 = 1 ∨ p0 = 2 ∨ p0 = 3 ∨ p0 = 4 ∨ p0 = 5 ∨ p0 = 6 ∨ p0 = 7 ∨ p0 = 8 ∨ p0 = 9 ∨ p0 = 10 ∨ p0 = 11 ∨ p0 = 12 ∨ p0 = 13 ∨ p0 = 14 ∨ p0 = 15 ∨ p0 = 16 ∨ p0 = 17 by omega) with rfl | rfl | rfl | rfl | rfl | rfl | rfl | rfl | rfl | rfl | rfl | rfl | rfl | rfl | rfl | rfl | rfl | rfl
  · skip
    refine zr_tabIn (tgt := 84) hx hb dX0_term_1 (by decide) (by decide) (by decide) rfl (by decide) ?_
    refine lv_aload_n hx hb dX0_term_84 rfl (lv_at hl 0 rfl) ?_
    refine zc_V (As := []) (rest := []) ⟨hx, hb, hml, hown, hts⟩ (c_Hd_version l D hh q a cA F n hF (by omega) (by omega)) (cwV 0 hts gX0_term_X0_version rfl rfl rfl (by decide +kernel) ⟨(Nat.le_of_ble_eq_true rfl), (Nat.le_of_ble_eq_true rfl)⟩) hP hK [0, 1, 2] [0] rfl rfl (ci := 2) rfl rfl rfl rfl hl.1 rfl (Nat.le_of_ble_eq_true rfl) dX0_term_85 ⟨Nat.zero_le _, Nat.zero_le _⟩ (fun r hr1 => ?_)
    obtain ⟨rfl, b_2⟩ := hr1
    exact W.iret (v := zi_n (F 0)) hx hb hr (fun t ht hW => ⟨_, rfl, zl_r (by simp [zh_term]) (by omega), ht⟩) (fun q hq => nomatch hq) dX0_term_88
  · skip
    refine zr_tabIn (tgt := 89) hx hb dX0_term_1 (by decide) (by decide) (by decide) rfl (by decide) ?_
    refine lv_aload_n hx hb dX0_term_89 rfl (lv_at hl 0 rfl) ?_
    refine zc_V (As := []) (rest := []) ⟨hx, hb, hml, hown, hts⟩ (c_Hd_length l D hh q a cA F n hF (by omega) (by omega)) (cwV 0 hts gX0_term_X0_length rfl rfl rfl (by decide +kernel) ⟨(Nat.le_of_ble_eq_true rfl), (Nat.le_of_ble_eq_true rfl)⟩) hP hK [0, 1, 2] [0] rfl rfl (ci := 2) rfl rfl rfl rfl hl.1 rfl (Nat.le_of_ble_eq_true rfl) dX0_term_90 ⟨Nat.zero_le _, Nat.zero_le _⟩ (fun r hr1 => ?_)
    obtain ⟨rfl, b_3⟩ := hr1
    exact W.iret (v := zi_n (zh_len F n)) hx hb hr (fun t ht hW => ⟨_, rfl, zl_r (by simp [zh_term]) (by omega), ht⟩) (fun q hq => nomatch hq) dX0_term_93
  · skip
    refine zr_tabIn (tgt := 94) hx hb dX0_term_1 (by decide) (by decide) (by decide) rfl (by decide) ?_
    refine lv_aload_n hx hb dX0_term_94 rfl (lv_at hl 0 rfl) ?_
    refine zc_V (As := []) (rest := []) ⟨hx, hb, hml, hown, hts⟩ (c_Hd_staticFrom l D hh q a cA F n hF (by omega) (by omega)) (cwV 0 hts gX0_term_X0_staticFrom rfl rfl rfl (by decide +kernel) ⟨(Nat.le_of_ble_eq_true rfl), (Nat.le_of_ble_eq_true rfl)⟩) hP hK [0, 1, 2] [0] rfl rfl (ci := 2) rfl rfl rfl rfl hl.1 rfl (Nat.le_of_ble_eq_true rfl) dX0_term_95 ⟨Nat.zero_le _, Nat.zero_le _⟩ (fun r hr1 => ?_)
    obtain ⟨rfl, b_4⟩ := hr1
    exact W.iret (v := zi_n (zh_t F 14)) hx hb hr (fun t ht hW => ⟨_, rfl, zl_r (by simp [zh_term]) (by omega), ht⟩) (fun q hq => nomatch hq) dX0_term_98
  · skip
    refine zr_tabIn (tgt := 99) hx hb dX0_term_1 (by decide) (by decide) (by decide) rfl (by decide) ?_
    refine lv_aload_n hx hb dX0_term_99 rfl (lv_at hl 0 rfl) ?_
    refine zc_V (As := []) (rest := []) ⟨hx, hb, hml, hown, hts⟩ (c_Hd_high l D hh q a cA F n hF (by omega) (by omega)) (cwV 0 hts gX0_term_X0_high rfl rfl rfl (by decide +kernel) ⟨(Nat.le_of_ble_eq_true rfl), (Nat.le_of_ble_eq_true rfl)⟩) hP hK [0, 1, 2] [0] rfl rfl (ci := 2) rfl rfl rfl rfl hl.1 rfl (Nat.le_of_ble_eq_true rfl) dX0_term_100 ⟨Nat.zero_le _, Nat.zero_le _⟩ (fun r hr1 => ?_)
    obtain ⟨rfl, b_5⟩ := hr1
    exact W.iret (v := zi_n (zh_t F 4)) hx hb hr (fun t ht hW => ⟨_, rfl, zl_r (by simp [zh_term]) (by omega), ht⟩) (fun q hq => nomatch hq) dX0_term_103
  · skip
    refine zr_tabIn (tgt := 104) hx hb dX0_term_1 (by decide) (by decide) (by decide) rfl (by decide) ?_
    refine lv_aload_n hx hb dX0_term_104 rfl (lv_at hl 0 rfl) ?_
    refine zc_V (As := []) (rest := []) ⟨hx, hb, hml, hown, hts⟩ (c_Hd_globals l D hh q a cA F n hF (by omega) (by omega)) (cwV 0 hts gX0_term_X0_globals rfl rfl rfl (by decide +kernel) ⟨(Nat.le_of_ble_eq_true rfl), (Nat.le_of_ble_eq_true rfl)⟩) hP hK [0, 1, 2] [0] rfl rfl (ci := 2) rfl rfl rfl rfl hl.1 rfl (Nat.le_of_ble_eq_true rfl) dX0_term_105 ⟨Nat.zero_le _, Nat.zero_le _⟩ (fun r hr1 => ?_)
    obtain ⟨rfl, b_6⟩ := hr1
    exact W.iret (v := zi_n (zh_t F 12)) hx hb hr (fun t ht hW => ⟨_, rfl, zl_r (by simp [zh_term]) (by omega), ht⟩) (fun q hq => nomatch hq) dX0_term_108
  · skip
    refine zr_tabIn (tgt := 109) hx hb dX0_term_1 (by decide) (by decide) (by decide) rfl (by decide) ?_
    refine lv_aload_n hx hb dX0_term_109 rfl (lv_at hl 0 rfl) ?_
    refine zc_V (As := []) (rest := []) ⟨hx, hb, hml, hown, hts⟩ (c_Hd_objects l D hh q a cA F n hF (by omega) (by omega)) (cwV 0 hts gX0_term_X0_objects rfl rfl rfl (by decide +kernel) ⟨(Nat.le_of_ble_eq_true rfl), (Nat.le_of_ble_eq_true rfl)⟩) hP hK [0, 1, 2] [0] rfl rfl (ci := 2) rfl rfl rfl rfl hl.1 rfl (Nat.le_of_ble_eq_true rfl) dX0_term_110 ⟨Nat.zero_le _, Nat.zero_le _⟩ (fun r hr1 => ?_)
    obtain ⟨rfl, b_7⟩ := hr1
    exact W.iret (v := zi_n (zh_t F 10)) hx hb hr (fun t ht hW => ⟨_, rfl, zl_r (by simp [zh_term]) (by omega), ht⟩) (fun q hq => nomatch hq) dX0_term_113
  · skip
    refine zr_tabIn (tgt := 114) hx hb dX0_term_1 (by decide) (by decide) (by decide) rfl (by decide) ?_
    refine lv_aload_n hx hb dX0_term_114 rfl (lv_at hl 0 rfl) ?_
    refine zc_V (As := []) (rest := []) ⟨hx, hb, hml, hown, hts⟩ (c_Hd_words l D hh q a cA F n hF (by omega) (by omega)) (cwV 0 hts gX0_term_X0_words rfl rfl rfl (by decide +kernel) ⟨(Nat.le_of_ble_eq_true rfl), (Nat.le_of_ble_eq_true rfl)⟩) hP hK [0, 1, 2] [0] rfl rfl (ci := 2) rfl rfl rfl rfl hl.1 rfl (Nat.le_of_ble_eq_true rfl) dX0_term_115 ⟨Nat.zero_le _, Nat.zero_le _⟩ (fun r hr1 => ?_)
    obtain ⟨rfl, b_8⟩ := hr1
    exact W.iret (v := zi_n (zh_t F 8)) hx hb hr (fun t ht hW => ⟨_, rfl, zl_r (by simp [zh_term]) (by omega), ht⟩) (fun q hq => nomatch hq) dX0_term_118
  · skip
    refine zr_tabIn (tgt := 119) hx hb dX0_term_1 (by decide) (by decide) (by decide) rfl (by decide) ?_
    refine lv_aload_n hx hb dX0_term_119 rfl (lv_at hl 0 rfl) ?_
    refine zc_V (As := []) (rest := []) ⟨hx, hb, hml, hown, hts⟩ (c_Hd_shorts l D hh q a cA F n hF (by omega) (by omega)) (cwV 0 hts gX0_term_X0_shorts rfl rfl rfl (by decide +kernel) ⟨(Nat.le_of_ble_eq_true rfl), (Nat.le_of_ble_eq_true rfl)⟩) hP hK [0, 1, 2] [0] rfl rfl (ci := 2) rfl rfl rfl rfl hl.1 rfl (Nat.le_of_ble_eq_true rfl) dX0_term_120 ⟨Nat.zero_le _, Nat.zero_le _⟩ (fun r hr1 => ?_)
    obtain ⟨rfl, b_9⟩ := hr1
    exact W.iret (v := zi_n (zh_shorts F)) hx hb hr (fun t ht hW => ⟨_, rfl, zl_r (by simp [zh_term]) (by omega), ht⟩) (fun q hq => nomatch hq) dX0_term_123
  · skip
    refine zr_tabIn (tgt := 124) hx hb dX0_term_1 (by decide) (by decide) (by decide) rfl (by decide) ?_
    refine lv_aload_n hx hb dX0_term_124 rfl (lv_at hl 0 rfl) ?_
    refine zc_V (As := []) (rest := []) ⟨hx, hb, hml, hown, hts⟩ (c_Hd_start l D hh q a cA F n hF (by omega) (by omega)) (cwV 0 hts gX0_term_X0_start rfl rfl rfl (by decide +kernel) ⟨(Nat.le_of_ble_eq_true rfl), (Nat.le_of_ble_eq_true rfl)⟩) hP hK [0, 1, 2] [0] rfl rfl (ci := 2) rfl rfl rfl rfl hl.1 rfl (Nat.le_of_ble_eq_true rfl) dX0_term_125 ⟨Nat.zero_le _, Nat.zero_le _⟩ (fun r hr1 => ?_)
    obtain ⟨rfl, b_10⟩ := hr1
    exact W.iret (v := zi_n (zh_start F)) hx hb hr (fun t ht hW => ⟨_, rfl, zl_r (by simp [zh_term]) (by omega), ht⟩) (fun q hq => nomatch hq) dX0_term_128
  · skip
    refine zr_tabIn (tgt := 129) hx hb dX0_term_1 (by decide) (by decide) (by decide) rfl (by decide) ?_
    refine lv_aload_n hx hb dX0_term_129 rfl (lv_at hl 0 rfl) ?_
    refine zc_V (As := []) (rest := []) ⟨hx, hb, hml, hown, hts⟩ (c_Hd_letters l D hh q a cA F n hF (by omega) (by omega)) (cwV 0 hts gX0_term_X0_letters rfl rfl rfl (by decide +kernel) ⟨(Nat.le_of_ble_eq_true rfl), (Nat.le_of_ble_eq_true rfl)⟩) hP hK [0, 1, 2] [0] rfl rfl (ci := 2) rfl rfl rfl rfl hl.1 rfl (Nat.le_of_ble_eq_true rfl) dX0_term_130 ⟨Nat.zero_le _, Nat.zero_le _⟩ (fun r hr1 => ?_)
    obtain ⟨rfl, b_11⟩ := hr1
    exact W.iret (v := zi_n (zh_letters F)) hx hb hr (fun t ht hW => ⟨_, rfl, zl_r (by simp [zh_term]) (by omega), ht⟩) (fun q hq => nomatch hq) dX0_term_133
  · skip
    refine zr_tabIn (tgt := 134) hx hb dX0_term_1 (by decide) (by decide) (by decide) rfl (by decide) ?_
    refine lv_aload_n hx hb dX0_term_134 rfl (lv_at hl 0 rfl) ?_
    refine zc_V (As := []) (rest := []) ⟨hx, hb, hml, hown, hts⟩ (c_Hd_ends l D hh q a cA F n hF (by omega) (by omega)) (cwV 0 hts gX0_term_X0_ends rfl rfl rfl (by decide +kernel) ⟨(Nat.le_of_ble_eq_true rfl), (Nat.le_of_ble_eq_true rfl)⟩) hP hK [0, 1, 2] [0] rfl rfl (ci := 2) rfl rfl rfl rfl hl.1 rfl (Nat.le_of_ble_eq_true rfl) dX0_term_135 ⟨Nat.zero_le _, Nat.zero_le _⟩ (fun r hr1 => ?_)
    obtain ⟨rfl, b_12⟩ := hr1
    exact W.iret (v := zi_n (zh_ends F)) hx hb hr (fun t ht hW => ⟨_, rfl, zl_r (by simp [zh_term]) (by omega), ht⟩) (fun q hq => nomatch hq) dX0_term_138
  · skip
    refine zr_tabIn (tgt := 139) hx hb dX0_term_1 (by decide) (by decide) (by decide) rfl (by decide) ?_
    refine lv_aload_n hx hb dX0_term_139 rfl (lv_at hl 0 rfl) ?_
    refine zc_V (As := []) (rest := []) ⟨hx, hb, hml, hown, hts⟩ (c_Hd_moreWords l D hh q a cA F n hF (by omega) (by omega)) (cwV 0 hts gX0_term_X0_moreWords rfl rfl rfl (by decide +kernel) ⟨(Nat.le_of_ble_eq_true rfl), (Nat.le_of_ble_eq_true rfl)⟩) hP hK [0, 1, 2] [0] rfl rfl (ci := 2) rfl rfl rfl rfl hl.1 rfl (Nat.le_of_ble_eq_true rfl) dX0_term_140 ⟨Nat.zero_le _, Nat.zero_le _⟩ (fun r hr1 => ?_)
    obtain ⟨rfl, b_13⟩ := hr1
    exact W.iret (v := zi_n (zh_mw F n)) hx hb hr (fun t ht hW => ⟨_, rfl, zl_r (by simp [zh_term]) (by omega), ht⟩) (fun q hq => nomatch hq) dX0_term_143
  · skip
    refine zr_tabIn (tgt := 144) hx hb dX0_term_1 (by decide) (by decide) (by decide) rfl (by decide) ?_
    refine lv_aload_n hx hb dX0_term_144 rfl (lv_at hl 0 rfl) ?_
    refine zc_V (As := []) (rest := []) ⟨hx, hb, hml, hown, hts⟩ (c_Hd_thirdWord l D hh q a cA F n hF (by omega) (by omega)) (cwV 0 hts gX0_term_X0_thirdWord rfl rfl rfl (by decide +kernel) ⟨(Nat.le_of_ble_eq_true rfl), (Nat.le_of_ble_eq_true rfl)⟩) hP hK [0, 1, 2] [0] rfl rfl (ci := 2) rfl rfl rfl rfl hl.1 rfl (Nat.le_of_ble_eq_true rfl) dX0_term_145 ⟨Nat.zero_le _, Nat.zero_le _⟩ (fun r hr1 => ?_)
    obtain ⟨rfl, b_14⟩ := hr1
    exact W.iret (v := zi_n (zh_third F n)) hx hb hr (fun t ht hW => ⟨_, rfl, zl_r (by simp [zh_term]) (by omega), ht⟩) (fun q hq => nomatch hq) dX0_term_148
  · skip
    refine zr_tabIn (tgt := 149) hx hb dX0_term_1 (by decide) (by decide) (by decide) rfl (by decide) ?_
    refine lv_aload_n hx hb dX0_term_149 rfl (lv_at hl 0 rfl) ?_
    refine va_get (D := D) (ci := 2) (v := .ref q) (C := RX0) (T := TX0) (N := 1) hx hb hts in_X0_term_X0 hown hK hP 0 rfl rfl 0 (by decide) (hts (.fieldLink RX0 9 "ZHeads$Head" "row" "LZHeads$Row;") (by decide +kernel)) (fun _ h9 => h9) rfl dX0_term_150 ?_
    refine zr_iconst hx hb dX0_term_153 ?_
    refine zc_V (As := [.int (zi_n 2)]) (rest := []) ⟨hx, hb, hml, hown, hts⟩ (c_Row_two_k l D q a cA F n hF (by omega) 2 2 rfl (by omega)) (cwV 1 hts gX0_term_X2_two rfl rfl rfl (by decide +kernel) ⟨(Nat.le_of_ble_eq_true rfl), (Nat.le_of_ble_eq_true rfl)⟩) hP hK [1, 2] [0] rfl rfl (ci := 3) rfl rfl rfl rfl hl.1 rfl (Nat.le_of_ble_eq_true rfl) dX0_term_154 ⟨Nat.zero_le _, Nat.zero_le _⟩ (fun r hr1 => ?_)
    obtain ⟨rfl, b_15⟩ := hr1
    exact W.iret (v := zi_n (zh_t F 2)) hx hb hr (fun t ht hW => ⟨_, rfl, zl_r (by simp [zh_term]) (by omega), ht⟩) (fun q hq => nomatch hq) dX0_term_157
  · skip
    refine zr_tabIn (tgt := 158) hx hb dX0_term_1 (by decide) (by decide) (by decide) rfl (by decide) ?_
    refine lv_aload_n hx hb dX0_term_158 rfl (lv_at hl 0 rfl) ?_
    refine va_get (D := D) (ci := 2) (v := .ref q) (C := RX0) (T := TX0) (N := 1) hx hb hts in_X0_term_X0 hown hK hP 0 rfl rfl 0 (by decide) (hts (.fieldLink RX0 9 "ZHeads$Head" "row" "LZHeads$Row;") (by decide +kernel)) (fun _ h9 => h9) rfl dX0_term_159 ?_
    refine zr_bipush hx hb dX0_term_162 (by decide) ?_
    refine zc_V (As := [.int (zi_n 28)]) (rest := []) ⟨hx, hb, hml, hown, hts⟩ (c_Row_two_k l D q a cA F n hF (by omega) 28 28 rfl (by omega)) (cwV 1 hts gX0_term_X2_two rfl rfl rfl (by decide +kernel) ⟨(Nat.le_of_ble_eq_true rfl), (Nat.le_of_ble_eq_true rfl)⟩) hP hK [1, 2] [0] rfl rfl (ci := 3) rfl rfl rfl rfl hl.1 rfl (Nat.le_of_ble_eq_true rfl) dX0_term_164 ⟨Nat.zero_le _, Nat.zero_le _⟩ (fun r hr1 => ?_)
    obtain ⟨rfl, b_16⟩ := hr1
    exact W.iret (v := zi_n (zh_t F 28)) hx hb hr (fun t ht hW => ⟨_, rfl, zl_r (by simp [zh_term]) (by omega), ht⟩) (fun q hq => nomatch hq) dX0_term_167
  · skip
    refine zr_tabIn (tgt := 168) hx hb dX0_term_1 (by decide) (by decide) (by decide) rfl (by decide) ?_
    refine lv_aload_n hx hb dX0_term_168 rfl (lv_at hl 0 rfl) ?_
    refine zc_V (As := []) (rest := []) ⟨hx, hb, hml, hown, hts⟩ (c_Hd_entries l D hh q a cA F n hF (by omega) (by omega)) (cwV 0 hts gX0_term_X0_entries rfl rfl rfl (by decide +kernel) ⟨(Nat.le_of_ble_eq_true rfl), (Nat.le_of_ble_eq_true rfl)⟩) hP hK [0, 1, 2] [0] rfl rfl (ci := 2) rfl rfl rfl rfl hl.1 rfl (Nat.le_of_ble_eq_true rfl) dX0_term_169 ⟨Nat.zero_le _, Nat.zero_le _⟩ (fun r hr1 => ?_)
    obtain ⟨rfl, b_17⟩ := hr1
    exact W.iret (v := zi_n (zh_en F n)) hx hb hr (fun t ht hW => ⟨_, rfl, zl_r (by simp [zh_term]) (by omega), ht⟩) (fun q hq => nomatch hq) dX0_term_172
  · skip
    refine zr_tabIn (tgt := 173) hx hb dX0_term_1 (by decide) (by decide) (by decide) rfl (by decide) ?_
    refine lv_aload_n hx hb dX0_term_173 rfl (lv_at hl 0 rfl) ?_
    refine zc_V (As := []) (rest := []) ⟨hx, hb, hml, hown, hts⟩ (c_Hd_entryBytes l D hh q a cA F n hF (by omega) (by omega)) (cwV 0 hts gX0_term_X0_entryBytes rfl rfl rfl (by decide +kernel) ⟨(Nat.le_of_ble_eq_true rfl), (Nat.le_of_ble_eq_true rfl)⟩) hP hK [0, 1, 2] [0] rfl rfl (ci := 2) rfl rfl rfl rfl hl.1 rfl (Nat.le_of_ble_eq_true rfl) dX0_term_174 ⟨Nat.zero_le _, Nat.zero_le _⟩ (fun r hr1 => ?_)
    obtain ⟨rfl, b_18⟩ := hr1
    exact W.iret (v := zi_n (zh_eb F n)) hx hb hr (fun t ht hW => ⟨_, rfl, zl_r (by simp [zh_term]) (by omega), ht⟩) (fun q hq => nomatch hq) dX0_term_177
  · skip
    refine zr_tabOut (tgt := 178) hx hb dX0_term_1 (by decide) (by decide) (by decide) ?_
    refine lv_aload_n hx hb dX0_term_178 rfl (lv_at hl 0 rfl) ?_
    refine zc_V (As := []) (rest := []) ⟨hx, hb, hml, hown, hts⟩ (c_Hd_signs l D hh q a cA F n hF (by omega) (by omega)) (cwV 0 hts gX0_term_X0_signs rfl rfl rfl (by decide +kernel) ⟨(Nat.le_of_ble_eq_true rfl), (Nat.le_of_ble_eq_true rfl)⟩) hP hK [0, 1, 2] [0] rfl rfl (ci := 2) rfl rfl rfl rfl hl.1 rfl (Nat.le_of_ble_eq_true rfl) dX0_term_179 ⟨Nat.zero_le _, Nat.zero_le _⟩ (fun r hr1 => ?_)
    obtain ⟨rfl, b_19⟩ := hr1
    exact W.iret (v := zi_n (zh_sg F n)) hx hb hr (fun t ht hW => ⟨_, rfl, zl_r (by simp [zh_term]) (by omega), ht⟩) (fun q hq => nomatch hq) dX0_term_182

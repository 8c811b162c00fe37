set_option maxRecDepth 100000 in
theorem wn_A : ∀ w ∈ zn_A, w ∈ lw_tbl := by decide +kernel
set_option maxRecDepth 100000 in
theorem wn_R : ∀ w ∈ zn_R, w ∈ lw_tbl := by decide +kernel
theorem zl_Zl : ∀ cA : ClassId, vp_cell cA (1, .inr (.inl (fun _ => 0))) = arrV cA 1 (fun _ => defaultValue .long) := fun cA => by
  rw [vp_cell_l]
  exact congrArg (arrV cA 1) (funext fun _ => rfl)
theorem zl_1 : ¬ zi_n 1 < 0 := by
  rw [zi_0, zi_lt (by decide) zi_z]
  decide
theorem zl_1n : (zi_n 1).toNatClampNeg = 1 := zi_cl (by decide) (by decide)
theorem zl_1b : 1 * componentBytes .long ≤ 536870912 := by decide
set_option maxRecDepth 100000 in
theorem wi_J0 : ∀ w ∈ u_ws RJ0 TJ0 2, w ∈ lw_tbl := by decide +kernel
theorem zI_0 : zI zi_Z zi_Z zi_Z zi_Z 0 0 0 0 0 0 0 := ⟨⟨zi_Z_By, zi_Z_By, zi_Z_By, zi_Z_By⟩, ⟨by decide, by decide, Or.inl rfl, by decide, by decide, by decide, by decide⟩, fun h => absurd h (by decide)⟩
set_option maxHeartbeats 4000000 in
set_option maxRecDepth 100000 in
theorem whole_start {p : Program} {e : Env} {s : State} {m : MethodId} {below : List Frame} {meth : Method} {c : Code} (l : Launch) (htr : l.stackTraces = false) {b L : Nat} {xs : Nat → Int32} (hL : L ≤ 2560) (C0 : lw_At p s m meth c b L xs) : W p l e room_1 s m #[Value.ref b] below meth c s.heap [] 0 0 (lw_Z below #[Value.ref b] s) (entryFrame m ([Value.ref b] : List Value).toArray 7) := by
  obtain ⟨hx, hb, hr, hml, hown, hts0, hX, hbl, hlocks, hgv⟩ := id C0
  have hb : c.code = cL_law := hb
  have hown : s.vm.findClass RL = some m.cls := hown
  have hts : ∀ w ∈ wsL_law, w.before #[Value.ref b] s = true := fun w h => hts0 w (wsL_law_in w h)
  have hfl := flat_of_before _ hgv
  obtain ⟨c0, i0, k0⟩ := u_known (C := RJ0) (T := TJ0) (N := 2) (n := 4) hts0 wi_J0 (hts0 (.instantiable RJ0 4) (by decide +kernel))
  obtain ⟨c1, i1, k1⟩ := u_known (C := RJx00060) (T := TJx00060) (N := 6) (n := 6) hts0 wi_Jx00060 (hts0 (.instantiable RJx00060 6) (by decide +kernel))
  obtain ⟨c2, i2, k2⟩ := u_known (C := RX0) (T := TX0) (N := 1) (n := 1) hts0 wi_X0 (hts0 (.instantiable RX0 1) (by decide +kernel))
  obtain ⟨c3, i3, k3⟩ := u_known (C := RX2) (T := TX2) (N := 2) (n := 2) hts0 wi_X2 (hts0 (.instantiable RX2 2) (by decide +kernel))
  obtain ⟨c4, i4, k4⟩ := u_known (C := RX3) (T := TX3) (N := 5) (n := 5) hts0 wi_X3 (hts0 (.instantiable RX3 5) (by decide +kernel))
  obtain ⟨c5, i5, k5⟩ := u_known (C := RX4) (T := TX4) (N := 9) (n := 9) hts0 wi_X4 (hts0 (.instantiable RX4 9) (by decide +kernel))
  obtain ⟨D, hKc⟩ : ∃ D : va_G, ∀ (k : Nat) (q : vw_C), vwCl[k]? = some q → u_Kn s q.1 q.2.1 q.2.2 (D.1 k) (D.2 k) := by
    refine ⟨(fun k => if k = 0 then c0 else if k = 1 then c1 else if k = 2 then c2 else if k = 3 then c3 else if k = 4 then c4 else c5, fun k => if k = 0 then i0 else if k = 1 then i1 else if k = 2 then i2 else if k = 3 then i3 else if k = 4 then i4 else i5), ?_⟩
    intro k q hq
    match k, hq with
    | 0, hq => cases hq; exact k0
    | 1, hq => cases hq; exact k1
    | 2, hq => cases hq; exact k2
    | 3, hq => cases hq; exact k3
    | 4, hq => cases hq; exact k4
    | 5, hq => cases hq; exact k5
    | k + 6, hq => simp [vwCl] at hq
  obtain ⟨A, hA, hA2⟩ : ∃ A : Nat → Prop, (∀ q : Nat, s.heap.size ≤ q → A q) ∧ (∀ q : Nat, A q → s.heap.size ≤ q) := ⟨fun q => s.heap.size ≤ q, fun _ h => h, fun _ h => h⟩
  have hbA : ¬ A b := fun h => absurd (hA2 b h) (Nat.not_le.mpr hbl)
  have hAn : ∀ a : Nat, a < s.heap.size → ¬ A a := fun a h1 h2 => absurd (hA2 a h2) (Nat.not_le.mpr h1)
  have hZU : vx_Zq Bundle.tN "UNASSIGNED_STACK" Bundle.steD A s s.heap := vx_Zqof (args := #[Value.ref b]) (hts0 (.laysStatic Bundle.tN "UNASSIGNED_STACK" Bundle.steD) (by decide +kernel)) (hts0 (.initialized Bundle.tN) (by decide +kernel)) (hfl (.isRef (.static Bundle.tN "UNASSIGNED_STACK" Bundle.steD)) (by decide +kernel)) hAn
  have hZN : vx_Zq Bundle.tN "SUPPRESSED_SENTINEL" Bundle.listD A s s.heap := vx_Zqof (args := #[Value.ref b]) (hts0 (.laysStatic Bundle.tN "SUPPRESSED_SENTINEL" Bundle.listD) (by decide +kernel)) (hts0 (.initialized Bundle.tN) (by decide +kernel)) (hfl (.isRef (.static Bundle.tN "SUPPRESSED_SENTINEL" Bundle.listD)) (by decide +kernel)) hAn
  have hcaA : zn_P zn_A s := fun w hw => va_Nw.of (A := #[Value.ref b]) (zn_tab (List.all_eq_true.mp (show zn_A.all zn_ok = true from rfl) w hw)) (hts0 w (wn_A w hw))
  have hcaR : zn_P zn_R s := fun w hw => va_Nw.of (A := #[Value.ref b]) (zn_tab (List.all_eq_true.mp (show zn_R.all zn_ok = true from rfl) w hw)) (hts0 w (wn_R w hw))
  have hnw : va_Nw (.methodLinkNest RX3 9 yX2_init RX3) s := va_Nw.of (A := #[Value.ref b]) rfl (hts0 (.methodLinkNest RX3 9 yX2_init RX3) (by decide +kernel))
  obtain ⟨sa8, -, -, -, e8, -⟩ := Cond.exactly_spec (args := #[Value.ref b]) (first := s) (o := none) (s := s) (idx := []) (t := .string RX3 88) (cls := "java/lang/String") (hfl (.exactly (.string RX3 88) "java/lang/String") (by decide +kernel))
  have hs8 : vk_R RX3 88 "the serial has bytes 0 to 5" sa8 s := vk_R.of (A := #[Value.ref b]) (hts0 (.stringRef RX3 88 "the serial has bytes 0 to 5") (by decide +kernel)) e8
  obtain ⟨sa9, -, -, -, e9, -⟩ := Cond.exactly_spec (args := #[Value.ref b]) (first := s) (o := none) (s := s) (idx := []) (t := .string RX3 93) (cls := "java/lang/String") (hfl (.exactly (.string RX3 93) "java/lang/String") (by decide +kernel))
  have hs9 : vk_R RX3 93 "there are globals 0 to 239" sa9 s := vk_R.of (A := #[Value.ref b]) (hts0 (.stringRef RX3 93 "there are globals 0 to 239") (by decide +kernel)) e9
  obtain ⟨sa10, -, -, -, e10, -⟩ := Cond.exactly_spec (args := #[Value.ref b]) (first := s) (o := none) (s := s) (idx := []) (t := .string RX3 101) (cls := "java/lang/String") (hfl (.exactly (.string RX3 101) "java/lang/String") (by decide +kernel))
  have hs10 : vk_R RX3 101 "the place is not there" sa10 s := vk_R.of (A := #[Value.ref b]) (hts0 (.stringRef RX3 101 "the place is not there") (by decide +kernel)) e10
  obtain ⟨sa13, -, -, -, e13, -⟩ := Cond.exactly_spec (args := #[Value.ref b]) (first := s) (o := none) (s := s) (idx := []) (t := .string RX3 113) (cls := "java/lang/String") (hfl (.exactly (.string RX3 113) "java/lang/String") (by decide +kernel))
  have hs13 : vk_R RX3 113 "the packed place is not there" sa13 s := vk_R.of (A := #[Value.ref b]) (hts0 (.stringRef RX3 113 "the packed place is not there") (by decide +kernel)) e13
  obtain ⟨sa20, -, -, -, e20, -⟩ := Cond.exactly_spec (args := #[Value.ref b]) (first := s) (o := none) (s := s) (idx := []) (t := .string RX3 154) (cls := "java/lang/String") (hfl (.exactly (.string RX3 154) "java/lang/String") (by decide +kernel))
  have hs20 : vk_R RX3 154 "there is no such sign" sa20 s := vk_R.of (A := #[Value.ref b]) (hts0 (.stringRef RX3 154 "there is no such sign") (by decide +kernel)) e20
  obtain ⟨sa21, -, -, -, e21, -⟩ := Cond.exactly_spec (args := #[Value.ref b]) (first := s) (o := none) (s := s) (idx := []) (t := .string RX3 167) (cls := "java/lang/String") (hfl (.exactly (.string RX3 167) "java/lang/String") (by decide +kernel))
  have hs21 : vk_R RX3 167 "there are 0 entries" sa21 s := vk_R.of (A := #[Value.ref b]) (hts0 (.stringRef RX3 167 "there are 0 entries") (by decide +kernel)) e21
  have hS : va_S A s.heap s.heap [] := va_S.rf
  have hK : va_K D vwCl [] s := ⟨hKc, fun k q h => by simp at h⟩
  have hP : va_P D vwCl [] s.heap := fun k q h => by simp at h
  have hD : va_D A [] := ⟨fun i j p q h => by simp at h, fun k q h => by simp at h⟩
  have hl := lv_entry ([.ref b]) (n := 7) (Nat.le_of_ble_eq_true rfl)
  rw [lg_entry_eq]
  generalize (lg_sl ([.ref b]) ++ List.replicate (7 - (lg_sl ([.ref b])).length) Slot.unset).toArray = ls at hl ⊢
  have hl : lv_has ls 7 [(0, .ref b)] := hl
  refine va_new (ci := 4) (fs := [.null, .null, .null, .int (zi_n 0), .int (zi_n 0)]) (C := RX3) (T := TX3) (N := 5) hx hb hts0 wi_X3 tyX3 tyX3_ok hown (hts (.classLink RL 8 RX3) (by decide +kernel)) (hts (.instantiable RX3 5) (by decide +kernel)) (hts (.initialized RX3) (by decide +kernel)) hK hP hD hS hA rfl (fun j hj => by rcases (show j = 0 ∨ j = 1 ∨ j = 2 ∨ j = 3 ∨ j = 4 by omega) with rfl | rfl | rfl | rfl | rfl <;> rfl) (Nat.le_of_ble_eq_true rfl) (Nat.le_of_ble_eq_true rfl) dL_law_0 (fun x H hP hD hS => ?_)
  have hP : va_P D vwCl [(x, .inr (4, [.null, .null, .null, .int (zi_n 0), .int (zi_n 0)]))] H := hP
  have hD : va_D A [(x, .inr (4, [.null, .null, .null, .int (zi_n 0), .int (zi_n 0)]))] := hD
  refine W.widen (k := 1) (n := 5) (by omega) (by omega) ?_
  refine lv_dup hx hb dL_law_3 rfl ?_
  have hPc := hP.sub (ws' := [(x, .inr (4, [.null, .null, .null, .int (zi_n 0), .int (zi_n 0)]))]) [0] rfl
  have hDc := hD.sub (ws' := [(x, .inr (4, [.null, .null, .null, .int (zi_n 0), .int (zi_n 0)]))]) [0] (by decide) rfl
  have hKc9 := hK.sub (tys' := []) [] rfl
  have hFc := va_free (wc := [(x, .inr (4, [.null, .null, .null, .int (zi_n 0), .int (zi_n 0)]))]) hD hS hA [0] rfl
  refine va_callv (va_runI (As := []) (rest := [.ref x]) ⟨hx, hb, hml, hown, hts⟩ (c_Z_init l D x H.size) (cwI 0 hts gL_law_X3_init rfl rfl rfl (hts (.initialized RX3) (by decide +kernel)) (hts (.methodLink RL 34 yX3_init) (by decide +kernel)) (hts (.instanceMethod yX3_init) (by decide +kernel)) rfl (by decide +kernel) ⟨(Nat.le_of_ble_eq_true rfl), (Nat.le_of_ble_eq_true rfl)⟩) ⟨fun a U g mk q => by obtain ⟨q0, qn, q1, qP, qK, qD⟩ := q; exact ⟨q0, va_Nw.same (u := U) (U := U.calling g mk a) rfl rfl qn, q1, qP, va_K.moved (u := U) (U := U.calling g mk a) (Vm.Alike.refl U.vm) qK, qD⟩, fun U hU hW => ⟨rfl, va_Nw.warmM hW hnw, by rw [hU], by rw [hU]; exact hPc, va_K.moved hW.alike hKc9, hDc.weaken (fun _ _ _ _ => trivial)⟩⟩ rfl rfl hl.1 rfl (lv_room (Nat.le_of_ble_eq_true rfl)) dL_law_4 ⟨(Nat.le_of_ble_eq_true rfl), (Nat.le_of_ble_eq_true rfl)⟩) hS (fun q _ h => hFc q h) hFc (fun u t H1 locs ht hvm hw hB hz1 hk1 hS => ?_)
  obtain ⟨q, q2, hh, a, a2, cA, cB⟩ := u
  obtain ⟨hP1, hK1, hD1⟩ := hB
  rw [ht] at hP1
  have hK1 := va_K.moved hvm.symm hK1
  obtain ⟨hP, hD⟩ := va_join (wr := []) (w1 := [(x, .inr (4, [.ref q, .ref q2, .ref hh, .int (zi_n 0), .int (zi_n 0)])), (q, .inr (3, [.ref a, .int (zi_n 0)])), (q2, .inr (3, [.ref a2, .int (zi_n 0)])), (hh, .inr (2, [.ref q])), (a, .inl (cA, 600, .inl (zi_F zi_Z))), (a2, .inl (cB, 600, .inl (zi_F zi_Z)))]) hP hD [0] [] rfl rfl (by decide) (by decide) hk1 hFc hP1 hD1
  have hK := hK.app hK1
  generalize H1 = H at hP hS ⊢
  have hP : va_P D vwCl [(x, .inr (4, [.ref q, .ref q2, .ref hh, .int (zi_n 0), .int (zi_n 0)])), (q, .inr (3, [.ref a, .int (zi_n 0)])), (q2, .inr (3, [.ref a2, .int (zi_n 0)])), (hh, .inr (2, [.ref q])), (a, .inl (cA, 600, .inl (zi_F zi_Z))), (a2, .inl (cB, 600, .inl (zi_F zi_Z)))] H := hP
  have hD : va_D A [(x, .inr (4, [.ref q, .ref q2, .ref hh, .int (zi_n 0), .int (zi_n 0)])), (q, .inr (3, [.ref a, .int (zi_n 0)])), (q2, .inr (3, [.ref a2, .int (zi_n 0)])), (hh, .inr (2, [.ref q])), (a, .inl (cA, 600, .inl (zi_F zi_Z))), (a2, .inl (cB, 600, .inl (zi_F zi_Z)))] := hD
  have hK : va_K D vwCl [(cA, .int), (cB, .int)] s := hK
  refine W.widen (k := 6) (n := 1210) (by omega) (by omega) ?_
  refine lv_astore_n (lv' := [(1, .ref x), (0, .ref b)]) hx hb dL_law_7 rfl hl (by decide) rfl (fun ls hl => ?_)
  refine va_new (ci := 5) (fs := [.int (zi_n 0), .null, .int (zi_n 0), .int (zi_n 0), .int (zi_n 0), .null, .null, .int (zi_n 0), .int (zi_n 0)]) (C := RX4) (T := TX4) (N := 9) hx hb hts0 wi_X4 tyX4 tyX4_ok hown (hts (.classLink RL 35 RX4) (by decide +kernel)) (hts (.instantiable RX4 9) (by decide +kernel)) (hts (.initialized RX4) (by decide +kernel)) hK hP hD hS hA rfl (fun j hj => by rcases (show j = 0 ∨ j = 1 ∨ j = 2 ∨ j = 3 ∨ j = 4 ∨ j = 5 ∨ j = 6 ∨ j = 7 ∨ j = 8 by omega) with rfl | rfl | rfl | rfl | rfl | rfl | rfl | rfl | rfl <;> rfl) (Nat.le_of_ble_eq_true rfl) (Nat.le_of_ble_eq_true rfl) dL_law_8 (fun y H hP hD hS => ?_)
  have hP : va_P D vwCl [(x, .inr (4, [.ref q, .ref q2, .ref hh, .int (zi_n 0), .int (zi_n 0)])), (q, .inr (3, [.ref a, .int (zi_n 0)])), (q2, .inr (3, [.ref a2, .int (zi_n 0)])), (hh, .inr (2, [.ref q])), (a, .inl (cA, 600, .inl (zi_F zi_Z))), (a2, .inl (cB, 600, .inl (zi_F zi_Z))), (y, .inr (5, [.int (zi_n 0), .null, .int (zi_n 0), .int (zi_n 0), .int (zi_n 0), .null, .null, .int (zi_n 0), .int (zi_n 0)]))] H := hP
  have hD : va_D A [(x, .inr (4, [.ref q, .ref q2, .ref hh, .int (zi_n 0), .int (zi_n 0)])), (q, .inr (3, [.ref a, .int (zi_n 0)])), (q2, .inr (3, [.ref a2, .int (zi_n 0)])), (hh, .inr (2, [.ref q])), (a, .inl (cA, 600, .inl (zi_F zi_Z))), (a2, .inl (cB, 600, .inl (zi_F zi_Z))), (y, .inr (5, [.int (zi_n 0), .null, .int (zi_n 0), .int (zi_n 0), .int (zi_n 0), .null, .null, .int (zi_n 0), .int (zi_n 0)]))] := hD
  refine W.widen (k := 7) (n := 1219) (by omega) (by omega) ?_
  refine lv_dup hx hb dL_law_11 rfl ?_
  have hPc := hP.sub (ws' := [(y, .inr (5, [.int (zi_n 0), .null, .int (zi_n 0), .int (zi_n 0), .int (zi_n 0), .null, .null, .int (zi_n 0), .int (zi_n 0)]))]) [6] rfl
  have hDc := hD.sub (ws' := [(y, .inr (5, [.int (zi_n 0), .null, .int (zi_n 0), .int (zi_n 0), .int (zi_n 0), .null, .null, .int (zi_n 0), .int (zi_n 0)]))]) [6] (by decide) rfl
  have hKc9 := hK.sub (tys' := []) [] rfl
  have hFc := va_free (wc := [(y, .inr (5, [.int (zi_n 0), .null, .int (zi_n 0), .int (zi_n 0), .int (zi_n 0), .null, .null, .int (zi_n 0), .int (zi_n 0)]))]) hD hS hA [6] rfl
  refine va_callv (va_runI (As := []) (rest := [.ref y]) ⟨hx, hb, hml, hown, hts⟩ (c_Model_init l D y H.size) (cwI 0 hts gL_law_X4_init rfl rfl rfl (hts (.initialized RX4) (by decide +kernel)) (hts (.methodLink RL 37 yX4_init) (by decide +kernel)) (hts (.instanceMethod yX4_init) (by decide +kernel)) rfl (by decide +kernel) ⟨(Nat.le_of_ble_eq_true rfl), (Nat.le_of_ble_eq_true rfl)⟩) ⟨fun a U g mk q => by obtain ⟨q0, q1, qP, qK, qD⟩ := q; exact ⟨q0, q1, qP, va_K.moved (u := U) (U := U.calling g mk a) (Vm.Alike.refl U.vm) qK, qD⟩, fun U hU hW => ⟨rfl, by rw [hU], by rw [hU]; exact hPc, va_K.moved hW.alike hKc9, hDc.weaken (fun _ _ _ _ => trivial)⟩⟩ rfl rfl hl.1 rfl (lv_room (Nat.le_of_ble_eq_true rfl)) dL_law_12 ⟨(Nat.le_of_ble_eq_true rfl), (Nat.le_of_ble_eq_true rfl)⟩) hS (fun q _ h => hFc q h) hFc (fun u t H1 locs ht hvm hw hB hz1 hk1 hS => ?_)
  obtain ⟨b1, b2, b3, cC, cD, cE⟩ := u
  obtain ⟨hP1, hK1, hD1⟩ := hB
  rw [ht] at hP1
  have hK1 := va_K.moved hvm.symm hK1
  obtain ⟨hP, hD⟩ := va_join (wr := [(x, .inr (4, [.ref q, .ref q2, .ref hh, .int (zi_n 0), .int (zi_n 0)])), (q, .inr (3, [.ref a, .int (zi_n 0)])), (q2, .inr (3, [.ref a2, .int (zi_n 0)])), (hh, .inr (2, [.ref q])), (a, .inl (cA, 600, .inl (zi_F zi_Z))), (a2, .inl (cB, 600, .inl (zi_F zi_Z)))]) (w1 := [(y, .inr (5, [.int (zi_n 0), .ref b1, .int (zi_n 0), .int (zi_n 0), .int (zi_n 0), .ref b2, .ref b3, .int (zi_n 0), .int (zi_n 0)])), (b1, .inl (cC, 600, .inl (zi_F zi_Z))), (b2, .inl (cD, 600, .inl (zi_F zi_Z))), (b3, .inl (cE, 600, .inl (zi_F zi_Z)))]) hP hD [6] [0, 1, 2, 3, 4, 5] rfl rfl (by decide) (by decide) hk1 hFc hP1 hD1
  have hK := hK.app hK1
  generalize H1 = H at hP hS ⊢
  have hP : va_P D vwCl [(x, .inr (4, [.ref q, .ref q2, .ref hh, .int (zi_n 0), .int (zi_n 0)])), (q, .inr (3, [.ref a, .int (zi_n 0)])), (q2, .inr (3, [.ref a2, .int (zi_n 0)])), (hh, .inr (2, [.ref q])), (a, .inl (cA, 600, .inl (zi_F zi_Z))), (a2, .inl (cB, 600, .inl (zi_F zi_Z))), (y, .inr (5, [.int (zi_n 0), .ref b1, .int (zi_n 0), .int (zi_n 0), .int (zi_n 0), .ref b2, .ref b3, .int (zi_n 0), .int (zi_n 0)])), (b1, .inl (cC, 600, .inl (zi_F zi_Z))), (b2, .inl (cD, 600, .inl (zi_F zi_Z))), (b3, .inl (cE, 600, .inl (zi_F zi_Z)))] H := hP
  have hD : va_D A [(x, .inr (4, [.ref q, .ref q2, .ref hh, .int (zi_n 0), .int (zi_n 0)])), (q, .inr (3, [.ref a, .int (zi_n 0)])), (q2, .inr (3, [.ref a2, .int (zi_n 0)])), (hh, .inr (2, [.ref q])), (a, .inl (cA, 600, .inl (zi_F zi_Z))), (a2, .inl (cB, 600, .inl (zi_F zi_Z))), (y, .inr (5, [.int (zi_n 0), .ref b1, .int (zi_n 0), .int (zi_n 0), .int (zi_n 0), .ref b2, .ref b3, .int (zi_n 0), .int (zi_n 0)])), (b1, .inl (cC, 600, .inl (zi_F zi_Z))), (b2, .inl (cD, 600, .inl (zi_F zi_Z))), (b3, .inl (cE, 600, .inl (zi_F zi_Z)))] := hD
  have hK : va_K D vwCl [(cA, .int), (cB, .int), (cC, .int), (cD, .int), (cE, .int)] s := hK
  refine W.widen (k := 10) (n := 3019) (by omega) (by omega) ?_
  refine lv_astore_n (lv' := [(2, .ref y), (1, .ref x), (0, .ref b)]) hx hb dL_law_15 rfl hl (by decide) rfl (fun ls hl => ?_)
  refine zr_iconst hx hb dL_law_16 ?_
  refine va_newa (atype := .long) (N' := 1) (n := zi_n 1) (a0 := (1, .inr (.inl (fun _ => 0)))) (ty := .long) hx hb (hts (.arrayClass .long) (by decide +kernel)) rfl hK hP hD hS hA zl_Zl zl_1 zl_1n zl_1b (Nat.le_of_ble_eq_true rfl) (Nat.le_of_ble_eq_true rfl) dL_law_17 (fun o cO H hK hP hD hS => ?_)
  have hP : va_P D vwCl [(x, .inr (4, [.ref q, .ref q2, .ref hh, .int (zi_n 0), .int (zi_n 0)])), (q, .inr (3, [.ref a, .int (zi_n 0)])), (q2, .inr (3, [.ref a2, .int (zi_n 0)])), (hh, .inr (2, [.ref q])), (a, .inl (cA, 600, .inl (zi_F zi_Z))), (a2, .inl (cB, 600, .inl (zi_F zi_Z))), (y, .inr (5, [.int (zi_n 0), .ref b1, .int (zi_n 0), .int (zi_n 0), .int (zi_n 0), .ref b2, .ref b3, .int (zi_n 0), .int (zi_n 0)])), (b1, .inl (cC, 600, .inl (zi_F zi_Z))), (b2, .inl (cD, 600, .inl (zi_F zi_Z))), (b3, .inl (cE, 600, .inl (zi_F zi_Z))), (o, .inl (cO, 1, .inr (.inl (fun _ => 0))))] H := hP
  have hD : va_D A [(x, .inr (4, [.ref q, .ref q2, .ref hh, .int (zi_n 0), .int (zi_n 0)])), (q, .inr (3, [.ref a, .int (zi_n 0)])), (q2, .inr (3, [.ref a2, .int (zi_n 0)])), (hh, .inr (2, [.ref q])), (a, .inl (cA, 600, .inl (zi_F zi_Z))), (a2, .inl (cB, 600, .inl (zi_F zi_Z))), (y, .inr (5, [.int (zi_n 0), .ref b1, .int (zi_n 0), .int (zi_n 0), .int (zi_n 0), .ref b2, .ref b3, .int (zi_n 0), .int (zi_n 0)])), (b1, .inl (cC, 600, .inl (zi_F zi_Z))), (b2, .inl (cD, 600, .inl (zi_F zi_Z))), (b3, .inl (cE, 600, .inl (zi_F zi_Z))), (o, .inl (cO, 1, .inr (.inl (fun _ => 0))))] := hD
  have hK : va_K D vwCl [(cA, .int), (cB, .int), (cC, .int), (cD, .int), (cE, .int), (cO, .long)] s := hK
  refine W.widen (k := 11) (n := 3020) (by omega) (by omega) ?_
  refine lv_astore_n (lv' := [(3, .ref o), (2, .ref y), (1, .ref x), (0, .ref b)]) hx hb dL_law_19 rfl hl (by decide) rfl (fun ls hl => ?_)
  refine zr_iconst hx hb dL_law_20 ?_
  refine lv_istore (lv' := [(4, .int (zi_n 0)), (3, .ref o), (2, .ref y), (1, .ref x), (0, .ref b)]) hx hb dL_law_21 hl (by decide) rfl (fun ls hl => ?_)
  exact law_loop htr hL C0 hA hA2 hbA hcaA hcaR hs8 hs9 hs10 hs13 hs20 hs21 hZU hZN hK (L + 6) 0 (by omega) (by omega) (by omega) zi_Z zi_Z zi_Z zi_Z 0 0 0 0 0 0 0 (fun _ => 0) zI_0 H _ 11 3020 (by omega) (by omega) hP hD hS _ (lv_sub hl [4, 3, 2, 1, 0] rfl)

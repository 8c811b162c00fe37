/-! The class's throws. -/
def zn_ok (w : Cond) : Bool := match w with
  | .castable _ _ => true
  | .declares _ => true
  | _ => false
theorem zn_tab {w : Cond} (h : zn_ok w = true) : w.onTables = true := by cases w <;> first | rfl | (simp [zn_ok] at h; done)
theorem zn_warm {w : Cond} (h : zn_ok w = true) {s U : State} (hW : s.WarmedH U.vm) (hZ : va_Nw w s) : va_Nw w U := by cases w <;> first | exact va_Nw.warmC hW hZ | exact va_Nw.warmD hW hZ | (simp [zn_ok] at h; done)
abbrev zn_P (B : List Cond) (U : State) : Prop := ∀ w ∈ B, va_Nw w U
theorem zn_P_warm {B : List Cond} (hB : B.all zn_ok = true) {s U : State} (hW : s.WarmedH U.vm) (h : zn_P B s) : zn_P B U := fun w hw => zn_warm (List.all_eq_true.mp hB w hw) hW (h w hw)
def zn_A : List Cond := [.castable RJx00060 RJx00060, .declares (Bundle.initS "java/lang/IndexOutOfBoundsException"), .declares (Bundle.initS "java/lang/RuntimeException"), .declares (Bundle.initS "java/lang/Exception"), .declares (Bundle.initS Bundle.tN)]
def zn_R : List Cond := [.castable "java/lang/ArithmeticException" "java/lang/ArithmeticException", .declares (Bundle.initS "java/lang/RuntimeException"), .declares (Bundle.initS "java/lang/Exception"), .declares (Bundle.initS Bundle.tN)]
abbrev zp_X (D : va_G) (cl : List vw_C) (sz : Nat) (wc : va_W) (tc : List (ClassId × FieldType)) (B : List Cond) (k : Nat) (tx : String) (sa : Nat) : State → Prop := fun U => zp_P D cl sz wc tc U ∧ zn_P B U ∧ vk_R RX3 k tx sa U ∧ vx_Zq Bundle.tN "UNASSIGNED_STACK" Bundle.steD (va_A wc sz) U U.heap ∧ vx_Zq Bundle.tN "SUPPRESSED_SENTINEL" Bundle.listD (va_A wc sz) U U.heap
theorem zp_X_blind {D : va_G} {cl : List vw_C} {sz : Nat} {wc : va_W} {tc : List (ClassId × FieldType)} {B : List Cond} {k : Nat} {tx : String} {sa : Nat} {As : List Value} (hB : B.all zn_ok = true) : FrameBlind (va_Pc As (zp_X D cl sz wc tc B k tx sa)) := by
  intro a U g mk q
  obtain ⟨q0, ⟨q1, qP, qK, qD⟩, qc, qr, qU, qN⟩ := q
  exact ⟨q0, ⟨q1, qP, va_K.moved (u := U) (U := U.calling g mk a) (Vm.Alike.refl U.vm) qK, qD⟩, fun w hw => va_Nw.same (u := U) (U := U.calling g mk a) (zn_tab (List.all_eq_true.mp hB w hw)) rfl (qc w hw), vk_R.same (u := U) rfl qr, vx_Zq.moved (u := U) (U := U.calling g mk a) (Vm.Alike.refl U.vm) qU, vx_Zq.moved (u := U) (U := U.calling g mk a) (Vm.Alike.refl U.vm) qN⟩
theorem zg_sub {big ws : List Cond} (h : ∀ w ∈ ws, w ∈ big) (g : ws.all goodWord = true) : GoodIn big ws := fun w hw => ⟨h w hw, good_of_word (List.all_eq_true.mp g w hw)⟩
set_option maxRecDepth 20000 in
theorem zt_goodA : ∀ w ∈ Cond.classLink RX3 86 RJx00060 :: Cond.initialized RJx00060 :: vx_atS RX3 90 RJx00060 ["java/lang/IndexOutOfBoundsException", "java/lang/RuntimeException", "java/lang/Exception"], vx_ot w = true := by decide +kernel
set_option maxRecDepth 20000 in
theorem zt_goodR : ∀ w ∈ Cond.classLink RX3 165 "java/lang/ArithmeticException" :: Cond.initialized "java/lang/ArithmeticException" :: vx_atS RX3 169 "java/lang/ArithmeticException" ["java/lang/RuntimeException", "java/lang/Exception"], vx_ot w = true := by decide +kernel
set_option maxRecDepth 20000 in
theorem zt_ngA : ∀ w ∈ (vx_atS RX3 90 RJx00060 ["java/lang/IndexOutOfBoundsException", "java/lang/RuntimeException", "java/lang/Exception"]).filter (fun w => !goodWord w), w ∈ zn_A := by decide +kernel
set_option maxRecDepth 20000 in
theorem zt_ngR : ∀ w ∈ (vx_atS RX3 169 "java/lang/ArithmeticException" ["java/lang/RuntimeException", "java/lang/Exception"]).filter (fun w => !goodWord w), w ∈ zn_R := by decide +kernel
def wtX3_serial : List Cond := .code yX3_serial cX3_serial 2 (some .int) :: (.methodLink RX3 90 (Bundle.initS RJx00060) :: wsX3_serial)
set_option maxRecDepth 20000 in
theorem zt_in_serial : ∀ w ∈ (vx_atS RX3 90 RJx00060 ["java/lang/IndexOutOfBoundsException", "java/lang/RuntimeException", "java/lang/Exception"]).filter goodWord, w ∈ wtX3_serial := by decide +kernel
set_option maxHeartbeats 4000000 in
set_option maxRecDepth 100000 in
theorem t_Z_serial (l : Launch) (htr : l.stackTraces = false) (D : va_G) (x q q2 hh a a2 : Nat) (cA cB : ClassId) (F G : Nat → Int) (n k rd br : Int) (hF : zi_By F) (hn : 0 ≤ n ∧ n ≤ 600) (hG : zi_By G) (hk : 0 ≤ k ∧ k ≤ 600) (hrd : rd = 0 ∨ rd = 1) (hbr : 0 ≤ br ∧ br ≤ 15) (sz : Nat) (p0 : Int) (hR : rd = 1 → (64 ≤ n ∧ k = n) ∧ (1 ≤ F 0 ∧ F 0 ≤ 8) ∧ (64 ≤ zh_len F n ∧ zh_len F n ≤ n) ∧ (64 ≤ zh_t F 14 ∧ zh_t F 14 ≤ zh_len F n) ∧ (64 ≤ zh_t F 12 ∧ zh_t F 12 + 480 ≤ zh_t F 14) ∧ (64 ≤ zh_t F 8 ∧ 0 ≤ zh_sg F n ∧ 4 ≤ zh_eb F n))  (rp0 : zi_R p0) (hp : rd = 1 ∧ (¬ (0 ≤ p0 ∧ p0 ≤ 5))) (sa : Nat) : vx_Met l yX3_serial wtX3_serial ({ frames := 7, cells := 1, slots := 6, locals := 95 }) (va_Pc [.ref x, .int (zi_n p0)] (zp_X D vwCl sz [(x, .inr (4, [.ref q, .ref q2, .ref hh, .int (zi_n rd), .int (zi_n br)])), (q, .inr (3, [.ref a, .int (zi_n n)])), (q2, .inr (3, [.ref a2, .int (zi_n k)])), (hh, .inr (2, [.ref q])), (a, .inl (cA, 600, .inl (zi_F F))), (a2, .inl (cB, 600, .inl (zi_F G)))] [(cA, .int), (cB, .int)] zn_A 88 "the serial has bytes 0 to 5" sa)) (va_Qi (fun (_ : Int32) (_ : Unit) => False) (fun _ _ => True) (fun _ => False)) (vx_X (fun _ : Unit => True) (fun E _ _ => E = RJx00060) (fun q => sz ≤ q)) 1 6 (va_A [(x, .inr (4, [.ref q, .ref q2, .ref hh, .int (zi_n rd), .int (zi_n br)])), (q, .inr (3, [.ref a, .int (zi_n n)])), (q2, .inr (3, [.ref a2, .int (zi_n k)])), (hh, .inr (2, [.ref q])), (a, .inl (cA, 600, .inl (zi_F F))), (a2, .inl (cB, 600, .inl (zi_F G)))] sz) := by
  refine vx_ofW (cc := cX3_serial) (maxL := 2) (ret := some .int) (by decide) rfl ?_
  intro p e s m args below meth c s₁ B hml htb hv
  obtain ⟨rfl, ⟨hsz, hP, hK, hD0⟩, hca, hstr, hZU, hZN⟩ := hv
  have hx := B.exec
  have hb := B.bytes
  have hr := B.returns
  have hts0 := atoms_spec (ws := wtX3_serial) B.pre
  have hts : ∀ w ∈ wsX3_serial, w.before (([.ref x, .int (zi_n p0)] : List Value).toArray) s = true := fun w h => hts0 w (List.mem_cons_of_mem _ (List.mem_cons_of_mem _ h))
  have hown : s.vm.findClass RX3 = some m.cls := findClass_of_methodNamed B.named
  have hlocks := B.notSynchronized
  subst hsz
  generalize hAe : va_A [(x, .inr (4, [.ref q, .ref q2, .ref hh, .int (zi_n rd), .int (zi_n br)])), (q, .inr (3, [.ref a, .int (zi_n n)])), (q2, .inr (3, [.ref a2, .int (zi_n k)])), (hh, .inr (2, [.ref q])), (a, .inl (cA, 600, .inl (zi_F F))), (a2, .inl (cB, 600, .inl (zi_F G)))] s.heap.size = A at hZU hZN ⊢
  have hP : va_P D vwCl [(x, .inr (4, [.ref q, .ref q2, .ref hh, .int (zi_n rd), .int (zi_n br)])), (q, .inr (3, [.ref a, .int (zi_n n)])), (q2, .inr (3, [.ref a2, .int (zi_n k)])), (hh, .inr (2, [.ref q])), (a, .inl (cA, 600, .inl (zi_F F))), (a2, .inl (cB, 600, .inl (zi_F G)))] s.heap := hP
  have hl := lv_entry ([.ref x, .int (zi_n p0)]) (n := 2) (Nat.le_of_ble_eq_true rfl)
  rw [lg_entry_eq]
  generalize (lg_sl ([.ref x, .int (zi_n p0)]) ++ List.replicate (2 - (lg_sl ([.ref x, .int (zi_n p0)])).length) Slot.unset).toArray = ls at hl ⊢
  have hl : lv_has ls 2 [(0, .ref x), (1, .int (zi_n p0))] := hl
  refine lv_aload_n hx hb dX3_serial_0 rfl (lv_at hl 0 rfl) ?_
  refine va_get (D := D) (ci := 4) (v := .int (zi_n rd)) (C := RX3) (T := TX3) (N := 5) hx hb hts in_X3_serial_X3 hown hK hP 0 rfl rfl 3 (by decide) (hts (.fieldLink RX3 28 "ZHeads" "isRead" "Z") (by decide +kernel)) (fun _ h9 => h9) rfl dX3_serial_1 ?_
  refine zr_if_ne (tgt := 10) hx hb dX3_serial_4 (by decide) (by omega) (fun c_1 => ?_) (fun c_1 => ?_)
  · have hR1 := hR (by omega)
    refine lv_iload_n hx hb dX3_serial_10 rfl (lv_at hl 1 rfl) ?_
    refine zr_if_lt (tgt := 20) hx hb dX3_serial_11 (by decide) (by omega) (fun c_2 => ?_) (fun c_2 => ?_)
    · exact vx_throwS (own := RX3) (cls := RJx00060) (text := "the serial has bytes 0 to 5") (names := ["java/lang/IndexOutOfBoundsException", "java/lang/RuntimeException", "java/lang/Exception"]) (ik := 86) (is := 88) (ic := 90) (sa := sa) (A := A) hx hb htr hown (by decide) (by decide) (hts (.classLink RX3 86 RJx00060) (by decide +kernel)) (hts (.initialized RJx00060) (by decide +kernel)) hstr (vx_hat (B := zn_A) (fun w hw => hts0 w (zt_in_serial w hw)) zt_ngA (fun w hw => va_Nw.use (zn_tab (List.all_eq_true.mp (show zn_A.all zn_ok = true from rfl) w hw)) (hca w hw))) zt_goodA hZU hZN va_S.rf (hl.1.trans hml.symm) dX3_serial_20 dX3_serial_23 dX3_serial_24 dX3_serial_26 dX3_serial_29 (fun x9 h9 => (htb x9 h9).elim) (Nat.le_of_ble_eq_true rfl) (Nat.le_of_ble_eq_true rfl) (Nat.le_of_ble_eq_true rfl) (Nat.le_of_ble_eq_true rfl) hlocks (fun t hal h1 h2 => ⟨(), trivial, rfl, h1, fun q h3 _ => h2 q h3⟩) (fun z hz => nomatch hz) (Nat.le_of_ble_eq_true rfl) (Nat.le_of_ble_eq_true rfl)
    · refine lv_iload_n hx hb dX3_serial_14 rfl (lv_at hl 1 rfl) ?_
      refine zr_bipush hx hb dX3_serial_15 (by decide) ?_
      refine zr_icmp_lt (tgt := 30) hx hb dX3_serial_17 (by decide) (by omega) (by omega) (fun c_3 => ?_) (fun c_3 => ?_)
      · exfalso; omega
      · exact vx_throwS (own := RX3) (cls := RJx00060) (text := "the serial has bytes 0 to 5") (names := ["java/lang/IndexOutOfBoundsException", "java/lang/RuntimeException", "java/lang/Exception"]) (ik := 86) (is := 88) (ic := 90) (sa := sa) (A := A) hx hb htr hown (by decide) (by decide) (hts (.classLink RX3 86 RJx00060) (by decide +kernel)) (hts (.initialized RJx00060) (by decide +kernel)) hstr (vx_hat (B := zn_A) (fun w hw => hts0 w (zt_in_serial w hw)) zt_ngA (fun w hw => va_Nw.use (zn_tab (List.all_eq_true.mp (show zn_A.all zn_ok = true from rfl) w hw)) (hca w hw))) zt_goodA hZU hZN va_S.rf (hl.1.trans hml.symm) dX3_serial_20 dX3_serial_23 dX3_serial_24 dX3_serial_26 dX3_serial_29 (fun x9 h9 => (htb x9 h9).elim) (Nat.le_of_ble_eq_true rfl) (Nat.le_of_ble_eq_true rfl) (Nat.le_of_ble_eq_true rfl) (Nat.le_of_ble_eq_true rfl) hlocks (fun t hal h1 h2 => ⟨(), trivial, rfl, h1, fun q h3 _ => h2 q h3⟩) (fun z hz => nomatch hz) (Nat.le_of_ble_eq_true rfl) (Nat.le_of_ble_eq_true rfl)
  · refine zr_bipush hx hb dX3_serial_7 (by decide) ?_
    exfalso; omega
def wtX3_global : List Cond := .code yX3_global cX3_global 2 (some .int) :: (.methodLink RX3 90 (Bundle.initS RJx00060) :: wsX3_global)
set_option maxRecDepth 20000 in
theorem zt_in_global : ∀ w ∈ (vx_atS RX3 90 RJx00060 ["java/lang/IndexOutOfBoundsException", "java/lang/RuntimeException", "java/lang/Exception"]).filter goodWord, w ∈ wtX3_global := by decide +kernel
set_option maxHeartbeats 4000000 in
set_option maxRecDepth 100000 in
theorem t_Z_global (l : Launch) (htr : l.stackTraces = false) (D : va_G) (x q q2 hh a a2 : Nat) (cA cB : ClassId) (F G : Nat → Int) (n k rd br : Int) (hF : zi_By F) (hn : 0 ≤ n ∧ n ≤ 600) (hG : zi_By G) (hk : 0 ≤ k ∧ k ≤ 600) (hrd : rd = 0 ∨ rd = 1) (hbr : 0 ≤ br ∧ br ≤ 15) (sz : Nat) (p0 : Int) (hR : rd = 1 → (64 ≤ n ∧ k = n) ∧ (1 ≤ F 0 ∧ F 0 ≤ 8) ∧ (64 ≤ zh_len F n ∧ zh_len F n ≤ n) ∧ (64 ≤ zh_t F 14 ∧ zh_t F 14 ≤ zh_len F n) ∧ (64 ≤ zh_t F 12 ∧ zh_t F 12 + 480 ≤ zh_t F 14) ∧ (64 ≤ zh_t F 8 ∧ 0 ≤ zh_sg F n ∧ 4 ≤ zh_eb F n))  (rp0 : zi_R p0) (hp : rd = 1 ∧ (¬ (0 ≤ p0 ∧ p0 ≤ 239))) (sa : Nat) : vx_Met l yX3_global wtX3_global ({ frames := 7, cells := 1, slots := 6, locals := 95 }) (va_Pc [.ref x, .int (zi_n p0)] (zp_X D vwCl sz [(x, .inr (4, [.ref q, .ref q2, .ref hh, .int (zi_n rd), .int (zi_n br)])), (q, .inr (3, [.ref a, .int (zi_n n)])), (q2, .inr (3, [.ref a2, .int (zi_n k)])), (hh, .inr (2, [.ref q])), (a, .inl (cA, 600, .inl (zi_F F))), (a2, .inl (cB, 600, .inl (zi_F G)))] [(cA, .int), (cB, .int)] zn_A 93 "there are globals 0 to 239" sa)) (va_Qi (fun (_ : Int32) (_ : Unit) => False) (fun _ _ => True) (fun _ => False)) (vx_X (fun _ : Unit => True) (fun E _ _ => E = RJx00060) (fun q => sz ≤ q)) 1 6 (va_A [(x, .inr (4, [.ref q, .ref q2, .ref hh, .int (zi_n rd), .int (zi_n br)])), (q, .inr (3, [.ref a, .int (zi_n n)])), (q2, .inr (3, [.ref a2, .int (zi_n k)])), (hh, .inr (2, [.ref q])), (a, .inl (cA, 600, .inl (zi_F F))), (a2, .inl (cB, 600, .inl (zi_F G)))] sz) := by
  refine vx_ofW (cc := cX3_global) (maxL := 2) (ret := some .int) (by decide) rfl ?_
  intro p e s m args below meth c s₁ B hml htb hv
  obtain ⟨rfl, ⟨hsz, hP, hK, hD0⟩, hca, hstr, hZU, hZN⟩ := hv
  have hx := B.exec
  have hb := B.bytes
  have hr := B.returns
  have hts0 := atoms_spec (ws := wtX3_global) B.pre
  have hts : ∀ w ∈ wsX3_global, w.before (([.ref x, .int (zi_n p0)] : List Value).toArray) s = true := fun w h => hts0 w (List.mem_cons_of_mem _ (List.mem_cons_of_mem _ h))
  have hown : s.vm.findClass RX3 = some m.cls := findClass_of_methodNamed B.named
  have hlocks := B.notSynchronized
  subst hsz
  generalize hAe : va_A [(x, .inr (4, [.ref q, .ref q2, .ref hh, .int (zi_n rd), .int (zi_n br)])), (q, .inr (3, [.ref a, .int (zi_n n)])), (q2, .inr (3, [.ref a2, .int (zi_n k)])), (hh, .inr (2, [.ref q])), (a, .inl (cA, 600, .inl (zi_F F))), (a2, .inl (cB, 600, .inl (zi_F G)))] s.heap.size = A at hZU hZN ⊢
  have hP : va_P D vwCl [(x, .inr (4, [.ref q, .ref q2, .ref hh, .int (zi_n rd), .int (zi_n br)])), (q, .inr (3, [.ref a, .int (zi_n n)])), (q2, .inr (3, [.ref a2, .int (zi_n k)])), (hh, .inr (2, [.ref q])), (a, .inl (cA, 600, .inl (zi_F F))), (a2, .inl (cB, 600, .inl (zi_F G)))] s.heap := hP
  have hl := lv_entry ([.ref x, .int (zi_n p0)]) (n := 2) (Nat.le_of_ble_eq_true rfl)
  rw [lg_entry_eq]
  generalize (lg_sl ([.ref x, .int (zi_n p0)]) ++ List.replicate (2 - (lg_sl ([.ref x, .int (zi_n p0)])).length) Slot.unset).toArray = ls at hl ⊢
  have hl : lv_has ls 2 [(0, .ref x), (1, .int (zi_n p0))] := hl
  refine lv_aload_n hx hb dX3_global_0 rfl (lv_at hl 0 rfl) ?_
  refine va_get (D := D) (ci := 4) (v := .int (zi_n rd)) (C := RX3) (T := TX3) (N := 5) hx hb hts in_X3_global_X3 hown hK hP 0 rfl rfl 3 (by decide) (hts (.fieldLink RX3 28 "ZHeads" "isRead" "Z") (by decide +kernel)) (fun _ h9 => h9) rfl dX3_global_1 ?_
  refine zr_if_ne (tgt := 10) hx hb dX3_global_4 (by decide) (by omega) (fun c_1 => ?_) (fun c_1 => ?_)
  · have hR1 := hR (by omega)
    refine lv_iload_n hx hb dX3_global_10 rfl (lv_at hl 1 rfl) ?_
    refine zr_if_lt (tgt := 21) hx hb dX3_global_11 (by decide) (by omega) (fun c_2 => ?_) (fun c_2 => ?_)
    · exact vx_throwS (own := RX3) (cls := RJx00060) (text := "there are globals 0 to 239") (names := ["java/lang/IndexOutOfBoundsException", "java/lang/RuntimeException", "java/lang/Exception"]) (ik := 86) (is := 93) (ic := 90) (sa := sa) (A := A) hx hb htr hown (by decide) (by decide) (hts (.classLink RX3 86 RJx00060) (by decide +kernel)) (hts (.initialized RJx00060) (by decide +kernel)) hstr (vx_hat (B := zn_A) (fun w hw => hts0 w (zt_in_global w hw)) zt_ngA (fun w hw => va_Nw.use (zn_tab (List.all_eq_true.mp (show zn_A.all zn_ok = true from rfl) w hw)) (hca w hw))) zt_goodA hZU hZN va_S.rf (hl.1.trans hml.symm) dX3_global_21 dX3_global_24 dX3_global_25 dX3_global_27 dX3_global_30 (fun x9 h9 => (htb x9 h9).elim) (Nat.le_of_ble_eq_true rfl) (Nat.le_of_ble_eq_true rfl) (Nat.le_of_ble_eq_true rfl) (Nat.le_of_ble_eq_true rfl) hlocks (fun t hal h1 h2 => ⟨(), trivial, rfl, h1, fun q h3 _ => h2 q h3⟩) (fun z hz => nomatch hz) (Nat.le_of_ble_eq_true rfl) (Nat.le_of_ble_eq_true rfl)
    · refine lv_iload_n hx hb dX3_global_14 rfl (lv_at hl 1 rfl) ?_
      refine zr_sipush hx hb dX3_global_15 (by decide) ?_
      refine zr_icmp_lt (tgt := 31) hx hb dX3_global_18 (by decide) (by omega) (by omega) (fun c_3 => ?_) (fun c_3 => ?_)
      · exfalso; omega
      · exact vx_throwS (own := RX3) (cls := RJx00060) (text := "there are globals 0 to 239") (names := ["java/lang/IndexOutOfBoundsException", "java/lang/RuntimeException", "java/lang/Exception"]) (ik := 86) (is := 93) (ic := 90) (sa := sa) (A := A) hx hb htr hown (by decide) (by decide) (hts (.classLink RX3 86 RJx00060) (by decide +kernel)) (hts (.initialized RJx00060) (by decide +kernel)) hstr (vx_hat (B := zn_A) (fun w hw => hts0 w (zt_in_global w hw)) zt_ngA (fun w hw => va_Nw.use (zn_tab (List.all_eq_true.mp (show zn_A.all zn_ok = true from rfl) w hw)) (hca w hw))) zt_goodA hZU hZN va_S.rf (hl.1.trans hml.symm) dX3_global_21 dX3_global_24 dX3_global_25 dX3_global_27 dX3_global_30 (fun x9 h9 => (htb x9 h9).elim) (Nat.le_of_ble_eq_true rfl) (Nat.le_of_ble_eq_true rfl) (Nat.le_of_ble_eq_true rfl) (Nat.le_of_ble_eq_true rfl) hlocks (fun t hal h1 h2 => ⟨(), trivial, rfl, h1, fun q h3 _ => h2 q h3⟩) (fun z hz => nomatch hz) (Nat.le_of_ble_eq_true rfl) (Nat.le_of_ble_eq_true rfl)
  · refine zr_bipush hx hb dX3_global_7 (by decide) ?_
    exfalso; omega
def wtX3_load : List Cond := .code yX3_load cX3_load 2 (some .int) :: (.methodLink RX3 90 (Bundle.initS RJx00060) :: wsX3_load)
set_option maxRecDepth 20000 in
theorem zt_in_load : ∀ w ∈ (vx_atS RX3 90 RJx00060 ["java/lang/IndexOutOfBoundsException", "java/lang/RuntimeException", "java/lang/Exception"]).filter goodWord, w ∈ wtX3_load := by decide +kernel
set_option maxHeartbeats 4000000 in
set_option maxRecDepth 100000 in
theorem t_Z_load (l : Launch) (htr : l.stackTraces = false) (D : va_G) (x q q2 hh a a2 : Nat) (cA cB : ClassId) (F G : Nat → Int) (n k rd br : Int) (hF : zi_By F) (hn : 0 ≤ n ∧ n ≤ 600) (hG : zi_By G) (hk : 0 ≤ k ∧ k ≤ 600) (hrd : rd = 0 ∨ rd = 1) (hbr : 0 ≤ br ∧ br ≤ 15) (sz : Nat) (p0 : Int) (hR : rd = 1 → (64 ≤ n ∧ k = n) ∧ (1 ≤ F 0 ∧ F 0 ≤ 8) ∧ (64 ≤ zh_len F n ∧ zh_len F n ≤ n) ∧ (64 ≤ zh_t F 14 ∧ zh_t F 14 ≤ zh_len F n) ∧ (64 ≤ zh_t F 12 ∧ zh_t F 12 + 480 ≤ zh_t F 14) ∧ (64 ≤ zh_t F 8 ∧ 0 ≤ zh_sg F n ∧ 4 ≤ zh_eb F n)) (rp0 : zi_R p0) (hp : rd = 1 ∧ (¬ (0 ≤ p0 ∧ p0 < k))) (sa : Nat) : vx_Met l yX3_load wtX3_load ({ frames := 7, cells := 1, slots := 6, locals := 95 }) (va_Pc [.ref x, .int (zi_n p0)] (zp_X D vwCl sz [(x, .inr (4, [.ref q, .ref q2, .ref hh, .int (zi_n rd), .int (zi_n br)])), (q, .inr (3, [.ref a, .int (zi_n n)])), (q2, .inr (3, [.ref a2, .int (zi_n k)])), (hh, .inr (2, [.ref q])), (a, .inl (cA, 600, .inl (zi_F F))), (a2, .inl (cB, 600, .inl (zi_F G)))] [(cA, .int), (cB, .int)] zn_A 101 "the place is not there" sa)) (va_Qi (fun (_ : Int32) (_ : Unit) => False) (fun _ _ => True) (fun _ => False)) (vx_X (fun _ : Unit => True) (fun E _ _ => E = RJx00060) (fun q => sz ≤ q)) 1 6 (va_A [(x, .inr (4, [.ref q, .ref q2, .ref hh, .int (zi_n rd), .int (zi_n br)])), (q, .inr (3, [.ref a, .int (zi_n n)])), (q2, .inr (3, [.ref a2, .int (zi_n k)])), (hh, .inr (2, [.ref q])), (a, .inl (cA, 600, .inl (zi_F F))), (a2, .inl (cB, 600, .inl (zi_F G)))] sz) := by
  refine vx_ofW (cc := cX3_load) (maxL := 2) (ret := some .int) (by decide) rfl ?_
  intro p e s m args below meth c s₁ B hml htb hv
  obtain ⟨rfl, ⟨hsz, hP, hK, hD0⟩, hca, hstr, hZU, hZN⟩ := hv
  have hx := B.exec
  have hb := B.bytes
  have hr := B.returns
  have hts0 := atoms_spec (ws := wtX3_load) B.pre
  have hts : ∀ w ∈ wsX3_load, w.before (([.ref x, .int (zi_n p0)] : List Value).toArray) s = true := fun w h => hts0 w (List.mem_cons_of_mem _ (List.mem_cons_of_mem _ h))
  have hown : s.vm.findClass RX3 = some m.cls := findClass_of_methodNamed B.named
  have hlocks := B.notSynchronized
  subst hsz
  generalize hAe : va_A [(x, .inr (4, [.ref q, .ref q2, .ref hh, .int (zi_n rd), .int (zi_n br)])), (q, .inr (3, [.ref a, .int (zi_n n)])), (q2, .inr (3, [.ref a2, .int (zi_n k)])), (hh, .inr (2, [.ref q])), (a, .inl (cA, 600, .inl (zi_F F))), (a2, .inl (cB, 600, .inl (zi_F G)))] s.heap.size = A at hZU hZN ⊢
  have hP : va_P D vwCl [(x, .inr (4, [.ref q, .ref q2, .ref hh, .int (zi_n rd), .int (zi_n br)])), (q, .inr (3, [.ref a, .int (zi_n n)])), (q2, .inr (3, [.ref a2, .int (zi_n k)])), (hh, .inr (2, [.ref q])), (a, .inl (cA, 600, .inl (zi_F F))), (a2, .inl (cB, 600, .inl (zi_F G)))] s.heap := hP
  have hl := lv_entry ([.ref x, .int (zi_n p0)]) (n := 2) (Nat.le_of_ble_eq_true rfl)
  rw [lg_entry_eq]
  generalize (lg_sl ([.ref x, .int (zi_n p0)]) ++ List.replicate (2 - (lg_sl ([.ref x, .int (zi_n p0)])).length) Slot.unset).toArray = ls at hl ⊢
  have hl : lv_has ls 2 [(0, .ref x), (1, .int (zi_n p0))] := hl
  refine lv_aload_n hx hb dX3_load_0 rfl (lv_at hl 0 rfl) ?_
  refine va_get (D := D) (ci := 4) (v := .int (zi_n rd)) (C := RX3) (T := TX3) (N := 5) hx hb hts in_X3_load_X3 hown hK hP 0 rfl rfl 3 (by decide) (hts (.fieldLink RX3 28 "ZHeads" "isRead" "Z") (by decide +kernel)) (fun _ h9 => h9) rfl dX3_load_1 ?_
  refine zr_if_ne (tgt := 10) hx hb dX3_load_4 (by decide) (by omega) (fun c_1 => ?_) (fun c_1 => ?_)
  · have hR1 := hR (by omega)
    refine lv_aload_n hx hb dX3_load_10 rfl (lv_at hl 0 rfl) ?_
    refine va_get (D := D) (ci := 4) (v := .ref q2) (C := RX3) (T := TX3) (N := 5) hx hb hts in_X3_load_X3 hown hK hP 0 rfl rfl 1 (by decide) (hts (.fieldLink RX3 16 "ZHeads" "memory" "LZHeads$Row;") (by decide +kernel)) (fun _ h9 => h9) rfl dX3_load_11 ?_
    refine lv_iload_n hx hb dX3_load_14 rfl (lv_at hl 1 rfl) ?_
    refine zc_V (As := [.int (zi_n p0)]) (rest := []) ⟨hx, hb, hml, hown, hts⟩ (c_Row_has l D q2 a2 cB G k hG (by omega) p0 (by omega)) (cwV 1 hts gX3_load_X2_has rfl rfl rfl (by decide +kernel) ⟨(Nat.le_of_ble_eq_true rfl), (Nat.le_of_ble_eq_true rfl)⟩) hP hK [2, 5] [1] rfl rfl (ci := 3) rfl rfl rfl rfl hl.1 rfl (Nat.le_of_ble_eq_true rfl) dX3_load_15 ⟨Nat.zero_le _, Nat.zero_le _⟩ (fun r hr1 => ?_)
    rcases hr1 with ⟨rfl, c_2⟩ | ⟨rfl, c_2⟩
    · refine zr_if_ne (tgt := 31) hx hb dX3_load_18 (by decide) (by omega) (fun c_3 => ?_) (fun c => absurd c (by decide))
      exfalso; omega
    · refine zr_if_ne (tgt := 31) hx hb dX3_load_18 (by decide) (by omega) (fun c => absurd c (by decide)) (fun c_4 => ?_)
      exact vx_throwS (own := RX3) (cls := RJx00060) (text := "the place is not there") (names := ["java/lang/IndexOutOfBoundsException", "java/lang/RuntimeException", "java/lang/Exception"]) (ik := 86) (is := 101) (ic := 90) (sa := sa) (A := A) hx hb htr hown (by decide) (by decide) (hts (.classLink RX3 86 RJx00060) (by decide +kernel)) (hts (.initialized RJx00060) (by decide +kernel)) hstr (vx_hat (B := zn_A) (fun w hw => hts0 w (zt_in_load w hw)) zt_ngA (fun w hw => va_Nw.use (zn_tab (List.all_eq_true.mp (show zn_A.all zn_ok = true from rfl) w hw)) (hca w hw))) zt_goodA hZU hZN va_S.rf (hl.1.trans hml.symm) dX3_load_21 dX3_load_24 dX3_load_25 dX3_load_27 dX3_load_30 (fun x9 h9 => (htb x9 h9).elim) (Nat.le_of_ble_eq_true rfl) (Nat.le_of_ble_eq_true rfl) (Nat.le_of_ble_eq_true rfl) (Nat.le_of_ble_eq_true rfl) hlocks (fun t hal h1 h2 => ⟨(), trivial, rfl, h1, fun q h3 _ => h2 q h3⟩) (fun z hz => nomatch hz) (Nat.le_of_ble_eq_true rfl) (Nat.le_of_ble_eq_true rfl)
  · refine zr_bipush hx hb dX3_load_7 (by decide) ?_
    exfalso; omega
def wtX3_first : List Cond := .code yX3_first cX3_first 4 (some .int) :: (.methodLink RX3 90 (Bundle.initS RJx00060) :: wsX3_first)
set_option maxRecDepth 20000 in
theorem zt_in_first : ∀ w ∈ (vx_atS RX3 90 RJx00060 ["java/lang/IndexOutOfBoundsException", "java/lang/RuntimeException", "java/lang/Exception"]).filter goodWord, w ∈ wtX3_first := by decide +kernel
set_option maxHeartbeats 4000000 in
set_option maxRecDepth 100000 in
theorem t_Z_first (l : Launch) (htr : l.stackTraces = false) (D : va_G) (x q q2 hh a a2 : Nat) (cA cB : ClassId) (F G : Nat → Int) (n k rd br : Int) (hF : zi_By F) (hn : 0 ≤ n ∧ n ≤ 600) (hG : zi_By G) (hk : 0 ≤ k ∧ k ≤ 600) (hrd : rd = 0 ∨ rd = 1) (hbr : 0 ≤ br ∧ br ≤ 15) (sz : Nat) (p0 p1 : Int) (hR : rd = 1 → (64 ≤ n ∧ k = n) ∧ (1 ≤ F 0 ∧ F 0 ≤ 8) ∧ (64 ≤ zh_len F n ∧ zh_len F n ≤ n) ∧ (64 ≤ zh_t F 14 ∧ zh_t F 14 ≤ zh_len F n) ∧ (64 ≤ zh_t F 12 ∧ zh_t F 12 + 480 ≤ zh_t F 14) ∧ (64 ≤ zh_t F 8 ∧ 0 ≤ zh_sg F n ∧ 4 ≤ zh_eb F n)) (rp0 : zi_R p0) (bp1 : p1 = 0 ∨ p1 = 1) (hp : rd = 1 ∧ ((0 ≤ p0 ∧ p0 ≤ 65535) ∧ ¬ (0 ≤ zh_unp F p0 p1 ∧ zh_unp F p0 p1 < k))) (sa : Nat) : vx_Met l yX3_first wtX3_first ({ frames := 7, cells := 1, slots := 6, locals := 95 }) (va_Pc [.ref x, .int (zi_n p0), .int (zi_n p1)] (zp_X D vwCl sz [(x, .inr (4, [.ref q, .ref q2, .ref hh, .int (zi_n rd), .int (zi_n br)])), (q, .inr (3, [.ref a, .int (zi_n n)])), (q2, .inr (3, [.ref a2, .int (zi_n k)])), (hh, .inr (2, [.ref q])), (a, .inl (cA, 600, .inl (zi_F F))), (a2, .inl (cB, 600, .inl (zi_F G)))] [(cA, .int), (cB, .int)] zn_A 113 "the packed place is not there" sa)) (va_Qi (fun (_ : Int32) (_ : Unit) => False) (fun _ _ => True) (fun _ => False)) (vx_X (fun _ : Unit => True) (fun E _ _ => E = RJx00060) (fun q => sz ≤ q)) 1 6 (va_A [(x, .inr (4, [.ref q, .ref q2, .ref hh, .int (zi_n rd), .int (zi_n br)])), (q, .inr (3, [.ref a, .int (zi_n n)])), (q2, .inr (3, [.ref a2, .int (zi_n k)])), (hh, .inr (2, [.ref q])), (a, .inl (cA, 600, .inl (zi_F F))), (a2, .inl (cB, 600, .inl (zi_F G)))] sz) := by
  refine vx_ofW (cc := cX3_first) (maxL := 4) (ret := some .int) (by decide) rfl ?_
  intro p e s m args below meth c s₁ B hml htb hv
  obtain ⟨rfl, ⟨hsz, hP, hK, hD0⟩, hca, hstr, hZU, hZN⟩ := hv
  have hx := B.exec
  have hb := B.bytes
  have hr := B.returns
  have hts0 := atoms_spec (ws := wtX3_first) B.pre
  have hts : ∀ w ∈ wsX3_first, w.before (([.ref x, .int (zi_n p0), .int (zi_n p1)] : List Value).toArray) s = true := fun w h => hts0 w (List.mem_cons_of_mem _ (List.mem_cons_of_mem _ h))
  have hown : s.vm.findClass RX3 = some m.cls := findClass_of_methodNamed B.named
  have hlocks := B.notSynchronized
  subst hsz
  generalize hAe : va_A [(x, .inr (4, [.ref q, .ref q2, .ref hh, .int (zi_n rd), .int (zi_n br)])), (q, .inr (3, [.ref a, .int (zi_n n)])), (q2, .inr (3, [.ref a2, .int (zi_n k)])), (hh, .inr (2, [.ref q])), (a, .inl (cA, 600, .inl (zi_F F))), (a2, .inl (cB, 600, .inl (zi_F G)))] s.heap.size = A at hZU hZN ⊢
  have hP : va_P D vwCl [(x, .inr (4, [.ref q, .ref q2, .ref hh, .int (zi_n rd), .int (zi_n br)])), (q, .inr (3, [.ref a, .int (zi_n n)])), (q2, .inr (3, [.ref a2, .int (zi_n k)])), (hh, .inr (2, [.ref q])), (a, .inl (cA, 600, .inl (zi_F F))), (a2, .inl (cB, 600, .inl (zi_F G)))] s.heap := hP
  have hl := lv_entry ([.ref x, .int (zi_n p0), .int (zi_n p1)]) (n := 4) (Nat.le_of_ble_eq_true rfl)
  rw [lg_entry_eq]
  generalize (lg_sl ([.ref x, .int (zi_n p0), .int (zi_n p1)]) ++ List.replicate (4 - (lg_sl ([.ref x, .int (zi_n p0), .int (zi_n p1)])).length) Slot.unset).toArray = ls at hl ⊢
  have hl : lv_has ls 4 [(0, .ref x), (1, .int (zi_n p0)), (2, .int (zi_n p1))] := hl
  refine lv_aload_n hx hb dX3_first_0 rfl (lv_at hl 0 rfl) ?_
  refine va_get (D := D) (ci := 4) (v := .int (zi_n rd)) (C := RX3) (T := TX3) (N := 5) hx hb hts in_X3_first_X3 hown hK hP 0 rfl rfl 3 (by decide) (hts (.fieldLink RX3 28 "ZHeads" "isRead" "Z") (by decide +kernel)) (fun _ h9 => h9) rfl dX3_first_1 ?_
  refine zr_if_ne (tgt := 10) hx hb dX3_first_4 (by decide) (by omega) (fun c_1 => ?_) (fun c_1 => ?_)
  · have hR1 := hR (by omega)
    refine lv_iload_n hx hb dX3_first_10 rfl (lv_at hl 1 rfl) ?_
    refine zc_S (As := [.int (zi_n p0)]) (rest := []) ⟨hx, hb, hml, hown, hts⟩ (c_Z_isTwo l p0 (by omega)) (va_cwS 1 hts gX3_first_X3_isTwo rfl rfl rfl (by decide +kernel) ⟨(Nat.le_of_ble_eq_true rfl), (Nat.le_of_ble_eq_true rfl)⟩) rfl hl.1 rfl (Nat.le_of_ble_eq_true rfl) dX3_first_11 ⟨Nat.zero_le _, Nat.zero_le _⟩ (fun r hr1 => ?_)
    rcases hr1 with ⟨rfl, c_2⟩ | ⟨rfl, c_2⟩
    · refine zr_if_ne (tgt := 20) hx hb dX3_first_14 (by decide) (by omega) (fun c_3 => ?_) (fun c => absurd c (by decide))
      refine lv_aload_n hx hb dX3_first_20 rfl (lv_at hl 0 rfl) ?_
      refine va_get (D := D) (ci := 4) (v := .ref hh) (C := RX3) (T := TX3) (N := 5) hx hb hts in_X3_first_X3 hown hK hP 0 rfl rfl 2 (by decide) (hts (.fieldLink RX3 24 "ZHeads" "head" "LZHeads$Head;") (by decide +kernel)) (fun _ h9 => h9) rfl dX3_first_21 ?_
      refine lv_iload_n hx hb dX3_first_24 rfl (lv_at hl 1 rfl) ?_
      refine lv_iload_n hx hb dX3_first_25 rfl (lv_at hl 2 rfl) ?_
      refine zc_V (As := [.int (zi_n p0), .int (zi_n p1)]) (rest := []) ⟨hx, hb, hml, hown, hts⟩ (c_Hd_unpacked l D hh q a cA F n hF (by omega) p0 p1 (by omega) (by omega) (by omega)) (cwV 2 hts gX3_first_X0_unpacked rfl rfl rfl (by decide +kernel) ⟨(Nat.le_of_ble_eq_true rfl), (Nat.le_of_ble_eq_true rfl)⟩) hP hK [3, 1, 4] [0] rfl rfl (ci := 2) rfl rfl rfl rfl hl.1 rfl (Nat.le_of_ble_eq_true rfl) dX3_first_26 ⟨Nat.zero_le _, Nat.zero_le _⟩ (fun r hr1 => ?_)
      obtain ⟨rfl, b_4⟩ := hr1
      refine lv_istore_n (lv' := [(3, .int (zi_n (zh_unp F p0 p1))), (0, .ref x), (1, .int (zi_n p0)), (2, .int (zi_n p1))]) hx hb dX3_first_29 rfl hl (by decide) rfl (fun ls hl => ?_)
      refine lv_aload_n hx hb dX3_first_30 rfl (lv_at hl 1 rfl) ?_
      refine va_get (D := D) (ci := 4) (v := .ref q2) (C := RX3) (T := TX3) (N := 5) hx hb hts in_X3_first_X3 hown hK hP 0 rfl rfl 1 (by decide) (hts (.fieldLink RX3 16 "ZHeads" "memory" "LZHeads$Row;") (by decide +kernel)) (fun _ h9 => h9) rfl dX3_first_31 ?_
      refine lv_iload_n hx hb dX3_first_34 rfl (lv_at hl 0 rfl) ?_
      refine zc_V (As := [.int (zi_n (zh_unp F p0 p1))]) (rest := []) ⟨hx, hb, hml, hown, hts⟩ (c_Row_has l D q2 a2 cB G k hG (by omega) (zh_unp F p0 p1) (by omega)) (cwV 1 hts gX3_first_X2_has rfl rfl rfl (by decide +kernel) ⟨(Nat.le_of_ble_eq_true rfl), (Nat.le_of_ble_eq_true rfl)⟩) hP hK [2, 5] [1] rfl rfl (ci := 3) rfl rfl rfl rfl hl.1 rfl (Nat.le_of_ble_eq_true rfl) dX3_first_35 ⟨Nat.zero_le _, Nat.zero_le _⟩ (fun r hr1 => ?_)
      rcases hr1 with ⟨rfl, c_5⟩ | ⟨rfl, c_5⟩
      · refine zr_if_ne (tgt := 51) hx hb dX3_first_38 (by decide) (by omega) (fun c_6 => ?_) (fun c => absurd c (by decide))
        exfalso; omega
      · refine zr_if_ne (tgt := 51) hx hb dX3_first_38 (by decide) (by omega) (fun c => absurd c (by decide)) (fun c_7 => ?_)
        exact vx_throwS (own := RX3) (cls := RJx00060) (text := "the packed place is not there") (names := ["java/lang/IndexOutOfBoundsException", "java/lang/RuntimeException", "java/lang/Exception"]) (ik := 86) (is := 113) (ic := 90) (sa := sa) (A := A) hx hb htr hown (by decide) (by decide) (hts (.classLink RX3 86 RJx00060) (by decide +kernel)) (hts (.initialized RJx00060) (by decide +kernel)) hstr (vx_hat (B := zn_A) (fun w hw => hts0 w (zt_in_first w hw)) zt_ngA (fun w hw => va_Nw.use (zn_tab (List.all_eq_true.mp (show zn_A.all zn_ok = true from rfl) w hw)) (hca w hw))) zt_goodA hZU hZN va_S.rf (hl.1.trans hml.symm) dX3_first_41 dX3_first_44 dX3_first_45 dX3_first_47 dX3_first_50 (fun x9 h9 => (htb x9 h9).elim) (Nat.le_of_ble_eq_true rfl) (Nat.le_of_ble_eq_true rfl) (Nat.le_of_ble_eq_true rfl) (Nat.le_of_ble_eq_true rfl) hlocks (fun t hal h1 h2 => ⟨(), trivial, rfl, h1, fun q h3 _ => h2 q h3⟩) (fun z hz => nomatch hz) (Nat.le_of_ble_eq_true rfl) (Nat.le_of_ble_eq_true rfl)
    · refine zr_if_ne (tgt := 20) hx hb dX3_first_14 (by decide) (by omega) (fun c => absurd c (by decide)) (fun c_8 => ?_)
      refine zr_bipush hx hb dX3_first_17 (by decide) ?_
      exfalso; omega
  · refine zr_bipush hx hb dX3_first_7 (by decide) ?_
    exfalso; omega
def wtX3_sign : List Cond := .code yX3_sign cX3_sign 2 (some .int) :: (.methodLink RX3 90 (Bundle.initS RJx00060) :: wsX3_sign)
set_option maxRecDepth 20000 in
theorem zt_in_sign : ∀ w ∈ (vx_atS RX3 90 RJx00060 ["java/lang/IndexOutOfBoundsException", "java/lang/RuntimeException", "java/lang/Exception"]).filter goodWord, w ∈ wtX3_sign := by decide +kernel
set_option maxHeartbeats 4000000 in
set_option maxRecDepth 100000 in
theorem t_Z_sign (l : Launch) (htr : l.stackTraces = false) (D : va_G) (x q q2 hh a a2 : Nat) (cA cB : ClassId) (F G : Nat → Int) (n k rd br : Int) (hF : zi_By F) (hn : 0 ≤ n ∧ n ≤ 600) (hG : zi_By G) (hk : 0 ≤ k ∧ k ≤ 600) (hrd : rd = 0 ∨ rd = 1) (hbr : 0 ≤ br ∧ br ≤ 15) (sz : Nat) (p0 : Int) (hR : rd = 1 → (64 ≤ n ∧ k = n) ∧ (1 ≤ F 0 ∧ F 0 ≤ 8) ∧ (64 ≤ zh_len F n ∧ zh_len F n ≤ n) ∧ (64 ≤ zh_t F 14 ∧ zh_t F 14 ≤ zh_len F n) ∧ (64 ≤ zh_t F 12 ∧ zh_t F 12 + 480 ≤ zh_t F 14) ∧ (64 ≤ zh_t F 8 ∧ 0 ≤ zh_sg F n ∧ 4 ≤ zh_eb F n)) (rp0 : zi_R p0) (hp : rd = 1 ∧ (¬ (0 ≤ p0 ∧ p0 < zh_sg F n))) (sa : Nat) : vx_Met l yX3_sign wtX3_sign ({ frames := 7, cells := 1, slots := 6, locals := 95 }) (va_Pc [.ref x, .int (zi_n p0)] (zp_X D vwCl sz [(x, .inr (4, [.ref q, .ref q2, .ref hh, .int (zi_n rd), .int (zi_n br)])), (q, .inr (3, [.ref a, .int (zi_n n)])), (q2, .inr (3, [.ref a2, .int (zi_n k)])), (hh, .inr (2, [.ref q])), (a, .inl (cA, 600, .inl (zi_F F))), (a2, .inl (cB, 600, .inl (zi_F G)))] [(cA, .int), (cB, .int)] zn_A 154 "there is no such sign" sa)) (va_Qi (fun (_ : Int32) (_ : Unit) => False) (fun _ _ => True) (fun _ => False)) (vx_X (fun _ : Unit => True) (fun E _ _ => E = RJx00060) (fun q => sz ≤ q)) 1 6 (va_A [(x, .inr (4, [.ref q, .ref q2, .ref hh, .int (zi_n rd), .int (zi_n br)])), (q, .inr (3, [.ref a, .int (zi_n n)])), (q2, .inr (3, [.ref a2, .int (zi_n k)])), (hh, .inr (2, [.ref q])), (a, .inl (cA, 600, .inl (zi_F F))), (a2, .inl (cB, 600, .inl (zi_F G)))] sz) := by
  refine vx_ofW (cc := cX3_sign) (maxL := 2) (ret := some .int) (by decide) rfl ?_
  intro p e s m args below meth c s₁ B hml htb hv
  obtain ⟨rfl, ⟨hsz, hP, hK, hD0⟩, hca, hstr, hZU, hZN⟩ := hv
  have hx := B.exec
  have hb := B.bytes
  have hr := B.returns
  have hts0 := atoms_spec (ws := wtX3_sign) B.pre
  have hts : ∀ w ∈ wsX3_sign, w.before (([.ref x, .int (zi_n p0)] : List Value).toArray) s = true := fun w h => hts0 w (List.mem_cons_of_mem _ (List.mem_cons_of_mem _ h))
  have hown : s.vm.findClass RX3 = some m.cls := findClass_of_methodNamed B.named
  have hlocks := B.notSynchronized
  subst hsz
  generalize hAe : va_A [(x, .inr (4, [.ref q, .ref q2, .ref hh, .int (zi_n rd), .int (zi_n br)])), (q, .inr (3, [.ref a, .int (zi_n n)])), (q2, .inr (3, [.ref a2, .int (zi_n k)])), (hh, .inr (2, [.ref q])), (a, .inl (cA, 600, .inl (zi_F F))), (a2, .inl (cB, 600, .inl (zi_F G)))] s.heap.size = A at hZU hZN ⊢
  have hP : va_P D vwCl [(x, .inr (4, [.ref q, .ref q2, .ref hh, .int (zi_n rd), .int (zi_n br)])), (q, .inr (3, [.ref a, .int (zi_n n)])), (q2, .inr (3, [.ref a2, .int (zi_n k)])), (hh, .inr (2, [.ref q])), (a, .inl (cA, 600, .inl (zi_F F))), (a2, .inl (cB, 600, .inl (zi_F G)))] s.heap := hP
  have hl := lv_entry ([.ref x, .int (zi_n p0)]) (n := 2) (Nat.le_of_ble_eq_true rfl)
  rw [lg_entry_eq]
  generalize (lg_sl ([.ref x, .int (zi_n p0)]) ++ List.replicate (2 - (lg_sl ([.ref x, .int (zi_n p0)])).length) Slot.unset).toArray = ls at hl ⊢
  have hl : lv_has ls 2 [(0, .ref x), (1, .int (zi_n p0))] := hl
  refine lv_aload_n hx hb dX3_sign_0 rfl (lv_at hl 0 rfl) ?_
  refine va_get (D := D) (ci := 4) (v := .int (zi_n rd)) (C := RX3) (T := TX3) (N := 5) hx hb hts in_X3_sign_X3 hown hK hP 0 rfl rfl 3 (by decide) (hts (.fieldLink RX3 28 "ZHeads" "isRead" "Z") (by decide +kernel)) (fun _ h9 => h9) rfl dX3_sign_1 ?_
  refine zr_if_ne (tgt := 10) hx hb dX3_sign_4 (by decide) (by omega) (fun c_1 => ?_) (fun c_1 => ?_)
  · have hR1 := hR (by omega)
    refine lv_iload_n hx hb dX3_sign_10 rfl (lv_at hl 1 rfl) ?_
    refine zr_if_lt (tgt := 25) hx hb dX3_sign_11 (by decide) (by omega) (fun c_2 => ?_) (fun c_2 => ?_)
    · exact vx_throwS (own := RX3) (cls := RJx00060) (text := "there is no such sign") (names := ["java/lang/IndexOutOfBoundsException", "java/lang/RuntimeException", "java/lang/Exception"]) (ik := 86) (is := 154) (ic := 90) (sa := sa) (A := A) hx hb htr hown (by decide) (by decide) (hts (.classLink RX3 86 RJx00060) (by decide +kernel)) (hts (.initialized RJx00060) (by decide +kernel)) hstr (vx_hat (B := zn_A) (fun w hw => hts0 w (zt_in_sign w hw)) zt_ngA (fun w hw => va_Nw.use (zn_tab (List.all_eq_true.mp (show zn_A.all zn_ok = true from rfl) w hw)) (hca w hw))) zt_goodA hZU hZN va_S.rf (hl.1.trans hml.symm) dX3_sign_25 dX3_sign_28 dX3_sign_29 dX3_sign_31 dX3_sign_34 (fun x9 h9 => (htb x9 h9).elim) (Nat.le_of_ble_eq_true rfl) (Nat.le_of_ble_eq_true rfl) (Nat.le_of_ble_eq_true rfl) (Nat.le_of_ble_eq_true rfl) hlocks (fun t hal h1 h2 => ⟨(), trivial, rfl, h1, fun q h3 _ => h2 q h3⟩) (fun z hz => nomatch hz) (Nat.le_of_ble_eq_true rfl) (Nat.le_of_ble_eq_true rfl)
    · refine lv_iload_n hx hb dX3_sign_14 rfl (lv_at hl 1 rfl) ?_
      refine lv_aload_n hx hb dX3_sign_15 rfl (lv_at hl 0 rfl) ?_
      refine va_get (D := D) (ci := 4) (v := .ref hh) (C := RX3) (T := TX3) (N := 5) hx hb hts in_X3_sign_X3 hown hK hP 0 rfl rfl 2 (by decide) (hts (.fieldLink RX3 24 "ZHeads" "head" "LZHeads$Head;") (by decide +kernel)) (fun _ h9 => h9) rfl dX3_sign_16 ?_
      refine zc_V (As := []) (rest := [.int (zi_n p0)]) ⟨hx, hb, hml, hown, hts⟩ (c_Hd_signs l D hh q a cA F n hF (by omega) (by omega)) (cwV 0 hts gX3_sign_X0_signs rfl rfl rfl (by decide +kernel) ⟨(Nat.le_of_ble_eq_true rfl), (Nat.le_of_ble_eq_true rfl)⟩) hP hK [3, 1, 4] [0] rfl rfl (ci := 2) rfl rfl rfl rfl hl.1 rfl (Nat.le_of_ble_eq_true rfl) dX3_sign_19 ⟨Nat.zero_le _, Nat.zero_le _⟩ (fun r hr1 => ?_)
      obtain ⟨rfl, b_3⟩ := hr1
      refine zr_icmp_lt (tgt := 35) hx hb dX3_sign_22 (by decide) (by omega) (by omega) (fun c_4 => ?_) (fun c_4 => ?_)
      · exfalso; omega
      · exact vx_throwS (own := RX3) (cls := RJx00060) (text := "there is no such sign") (names := ["java/lang/IndexOutOfBoundsException", "java/lang/RuntimeException", "java/lang/Exception"]) (ik := 86) (is := 154) (ic := 90) (sa := sa) (A := A) hx hb htr hown (by decide) (by decide) (hts (.classLink RX3 86 RJx00060) (by decide +kernel)) (hts (.initialized RJx00060) (by decide +kernel)) hstr (vx_hat (B := zn_A) (fun w hw => hts0 w (zt_in_sign w hw)) zt_ngA (fun w hw => va_Nw.use (zn_tab (List.all_eq_true.mp (show zn_A.all zn_ok = true from rfl) w hw)) (hca w hw))) zt_goodA hZU hZN va_S.rf (hl.1.trans hml.symm) dX3_sign_25 dX3_sign_28 dX3_sign_29 dX3_sign_31 dX3_sign_34 (fun x9 h9 => (htb x9 h9).elim) (Nat.le_of_ble_eq_true rfl) (Nat.le_of_ble_eq_true rfl) (Nat.le_of_ble_eq_true rfl) (Nat.le_of_ble_eq_true rfl) hlocks (fun t hal h1 h2 => ⟨(), trivial, rfl, h1, fun q h3 _ => h2 q h3⟩) (fun z hz => nomatch hz) (Nat.le_of_ble_eq_true rfl) (Nat.le_of_ble_eq_true rfl)
  · refine zr_bipush hx hb dX3_sign_7 (by decide) ?_
    exfalso; omega
def wtX3_ratio : List Cond := .code yX3_ratio cX3_ratio 3 (some .int) :: (.methodLink RX3 169 (Bundle.initS "java/lang/ArithmeticException") :: wsX3_ratio)
set_option maxRecDepth 20000 in
theorem zt_in_ratio : ∀ w ∈ (vx_atS RX3 169 "java/lang/ArithmeticException" ["java/lang/RuntimeException", "java/lang/Exception"]).filter goodWord, w ∈ wtX3_ratio := by decide +kernel
set_option maxHeartbeats 4000000 in
set_option maxRecDepth 100000 in
theorem t_Z_ratio (l : Launch) (htr : l.stackTraces = false) (D : va_G) (x q q2 hh a a2 : Nat) (cA cB : ClassId) (F G : Nat → Int) (n k rd br : Int) (hF : zi_By F) (hn : 0 ≤ n ∧ n ≤ 600) (hG : zi_By G) (hk : 0 ≤ k ∧ k ≤ 600) (hrd : rd = 0 ∨ rd = 1) (hbr : 0 ≤ br ∧ br ≤ 15) (sz : Nat) (p0 : Int) (hR : rd = 1 → (64 ≤ n ∧ k = n) ∧ (1 ≤ F 0 ∧ F 0 ≤ 8) ∧ (64 ≤ zh_len F n ∧ zh_len F n ≤ n) ∧ (64 ≤ zh_t F 14 ∧ zh_t F 14 ≤ zh_len F n) ∧ (64 ≤ zh_t F 12 ∧ zh_t F 12 + 480 ≤ zh_t F 14) ∧ (64 ≤ zh_t F 8 ∧ 0 ≤ zh_sg F n ∧ 4 ≤ zh_eb F n)) (bp0 : p0 = 0 ∨ p0 = 1) (hp : rd = 1 ∧ (zh_dv F n p0 = 0)) (sa : Nat) : vx_Met l yX3_ratio wtX3_ratio ({ frames := 7, cells := 1, slots := 6, locals := 82 }) (va_Pc [.ref x, .int (zi_n p0)] (zp_X D vwCl sz [(x, .inr (4, [.ref q, .ref q2, .ref hh, .int (zi_n rd), .int (zi_n br)])), (q, .inr (3, [.ref a, .int (zi_n n)])), (q2, .inr (3, [.ref a2, .int (zi_n k)])), (hh, .inr (2, [.ref q])), (a, .inl (cA, 600, .inl (zi_F F))), (a2, .inl (cB, 600, .inl (zi_F G)))] [(cA, .int), (cB, .int)] zn_R 167 "there are 0 entries" sa)) (va_Qi (fun (_ : Int32) (_ : Unit) => False) (fun _ _ => True) (fun _ => False)) (vx_X (fun _ : Unit => True) (fun E _ _ => E = "java/lang/ArithmeticException") (fun q => sz ≤ q)) 1 6 (va_A [(x, .inr (4, [.ref q, .ref q2, .ref hh, .int (zi_n rd), .int (zi_n br)])), (q, .inr (3, [.ref a, .int (zi_n n)])), (q2, .inr (3, [.ref a2, .int (zi_n k)])), (hh, .inr (2, [.ref q])), (a, .inl (cA, 600, .inl (zi_F F))), (a2, .inl (cB, 600, .inl (zi_F G)))] sz) := by
  refine vx_ofW (cc := cX3_ratio) (maxL := 3) (ret := some .int) (by decide) rfl ?_
  intro p e s m args below meth c s₁ B hml htb hv
  obtain ⟨rfl, ⟨hsz, hP, hK, hD0⟩, hca, hstr, hZU, hZN⟩ := hv
  have hx := B.exec
  have hb := B.bytes
  have hr := B.returns
  have hts0 := atoms_spec (ws := wtX3_ratio) B.pre
  have hts : ∀ w ∈ wsX3_ratio, w.before (([.ref x, .int (zi_n p0)] : List Value).toArray) s = true := fun w h => hts0 w (List.mem_cons_of_mem _ (List.mem_cons_of_mem _ h))
  have hown : s.vm.findClass RX3 = some m.cls := findClass_of_methodNamed B.named
  have hlocks := B.notSynchronized
  subst hsz
  generalize hAe : va_A [(x, .inr (4, [.ref q, .ref q2, .ref hh, .int (zi_n rd), .int (zi_n br)])), (q, .inr (3, [.ref a, .int (zi_n n)])), (q2, .inr (3, [.ref a2, .int (zi_n k)])), (hh, .inr (2, [.ref q])), (a, .inl (cA, 600, .inl (zi_F F))), (a2, .inl (cB, 600, .inl (zi_F G)))] s.heap.size = A at hZU hZN ⊢
  have hP : va_P D vwCl [(x, .inr (4, [.ref q, .ref q2, .ref hh, .int (zi_n rd), .int (zi_n br)])), (q, .inr (3, [.ref a, .int (zi_n n)])), (q2, .inr (3, [.ref a2, .int (zi_n k)])), (hh, .inr (2, [.ref q])), (a, .inl (cA, 600, .inl (zi_F F))), (a2, .inl (cB, 600, .inl (zi_F G)))] s.heap := hP
  have hl := lv_entry ([.ref x, .int (zi_n p0)]) (n := 3) (Nat.le_of_ble_eq_true rfl)
  rw [lg_entry_eq]
  generalize (lg_sl ([.ref x, .int (zi_n p0)]) ++ List.replicate (3 - (lg_sl ([.ref x, .int (zi_n p0)])).length) Slot.unset).toArray = ls at hl ⊢
  have hl : lv_has ls 3 [(0, .ref x), (1, .int (zi_n p0))] := hl
  have hdv : zh_dv F n p0 = if p0 = 0 then zh_eb F n else zh_en F n := rfl
  have hdv2 : (p0 = 0 ∧ zh_dv F n p0 = zh_eb F n) ∨ (p0 ≠ 0 ∧ zh_dv F n p0 = zh_en F n) := by rw [hdv]; by_cases c : p0 = 0 <;> simp [c]
  clear hdv
  refine lv_aload_n hx hb dX3_ratio_0 rfl (lv_at hl 0 rfl) ?_
  refine va_get (D := D) (ci := 4) (v := .int (zi_n rd)) (C := RX3) (T := TX3) (N := 5) hx hb hts in_X3_ratio_X3 hown hK hP 0 rfl rfl 3 (by decide) (hts (.fieldLink RX3 28 "ZHeads" "isRead" "Z") (by decide +kernel)) (fun _ h9 => h9) rfl dX3_ratio_1 ?_
  refine zr_if_ne (tgt := 10) hx hb dX3_ratio_4 (by decide) (by omega) (fun c_1 => ?_) (fun c_1 => ?_)
  · have hR1 := hR (by omega)
    refine lv_iload_n hx hb dX3_ratio_10 rfl (lv_at hl 1 rfl) ?_
    refine zr_if_eq (tgt := 24) hx hb dX3_ratio_11 (by decide) (by omega) (fun c_2 => ?_) (fun c_2 => ?_)
    · refine lv_aload_n hx hb dX3_ratio_24 rfl (lv_at hl 0 rfl) ?_
      refine va_get (D := D) (ci := 4) (v := .ref hh) (C := RX3) (T := TX3) (N := 5) hx hb hts in_X3_ratio_X3 hown hK hP 0 rfl rfl 2 (by decide) (hts (.fieldLink RX3 24 "ZHeads" "head" "LZHeads$Head;") (by decide +kernel)) (fun _ h9 => h9) rfl dX3_ratio_25 ?_
      refine zc_V (As := []) (rest := []) ⟨hx, hb, hml, hown, hts⟩ (c_Hd_entryBytes l D hh q a cA F n hF (by omega) (by omega)) (cwV 0 hts gX3_ratio_X0_entryBytes rfl rfl rfl (by decide +kernel) ⟨(Nat.le_of_ble_eq_true rfl), (Nat.le_of_ble_eq_true rfl)⟩) hP hK [3, 1, 4] [0] rfl rfl (ci := 2) rfl rfl rfl rfl hl.1 rfl (Nat.le_of_ble_eq_true rfl) dX3_ratio_28 ⟨Nat.zero_le _, Nat.zero_le _⟩ (fun r hr1 => ?_)
      obtain ⟨rfl, b_3⟩ := hr1
      refine lv_istore_n (lv' := [(2, .int (zi_n (zh_eb F n))), (0, .ref x), (1, .int (zi_n p0))]) hx hb dX3_ratio_31 rfl hl (by decide) rfl (fun ls hl => ?_)
      refine lv_iload_n hx hb dX3_ratio_32 rfl (lv_at hl 0 rfl) ?_
      refine zr_if_ne (tgt := 46) hx hb dX3_ratio_33 (by decide) (by omega) (fun c_4 => ?_) (fun c_4 => ?_)
      · exfalso; omega
      · exact vx_throwS (own := RX3) (cls := "java/lang/ArithmeticException") (text := "there are 0 entries") (names := ["java/lang/RuntimeException", "java/lang/Exception"]) (ik := 165) (is := 167) (ic := 169) (sa := sa) (A := A) hx hb htr hown (by decide) (by decide) (hts (.classLink RX3 165 "java/lang/ArithmeticException") (by decide +kernel)) (hts (.initialized "java/lang/ArithmeticException") (by decide +kernel)) hstr (vx_hat (B := zn_R) (fun w hw => hts0 w (zt_in_ratio w hw)) zt_ngR (fun w hw => va_Nw.use (zn_tab (List.all_eq_true.mp (show zn_R.all zn_ok = true from rfl) w hw)) (hca w hw))) zt_goodR hZU hZN va_S.rf (hl.1.trans hml.symm) dX3_ratio_36 dX3_ratio_39 dX3_ratio_40 dX3_ratio_42 dX3_ratio_45 (fun x9 h9 => (htb x9 h9).elim) (Nat.le_of_ble_eq_true rfl) (Nat.le_of_ble_eq_true rfl) (Nat.le_of_ble_eq_true rfl) (Nat.le_of_ble_eq_true rfl) hlocks (fun t hal h1 h2 => ⟨(), trivial, rfl, h1, fun q h3 _ => h2 q h3⟩) (fun z hz => nomatch hz) (Nat.le_of_ble_eq_true rfl) (Nat.le_of_ble_eq_true rfl)
    · refine lv_aload_n hx hb dX3_ratio_14 rfl (lv_at hl 0 rfl) ?_
      refine va_get (D := D) (ci := 4) (v := .ref hh) (C := RX3) (T := TX3) (N := 5) hx hb hts in_X3_ratio_X3 hown hK hP 0 rfl rfl 2 (by decide) (hts (.fieldLink RX3 24 "ZHeads" "head" "LZHeads$Head;") (by decide +kernel)) (fun _ h9 => h9) rfl dX3_ratio_15 ?_
      refine zc_V (As := []) (rest := []) ⟨hx, hb, hml, hown, hts⟩ (c_Hd_entries l D hh q a cA F n hF (by omega) (by omega)) (cwV 0 hts gX3_ratio_X0_entries rfl rfl rfl (by decide +kernel) ⟨(Nat.le_of_ble_eq_true rfl), (Nat.le_of_ble_eq_true rfl)⟩) hP hK [3, 1, 4] [0] rfl rfl (ci := 2) rfl rfl rfl rfl hl.1 rfl (Nat.le_of_ble_eq_true rfl) dX3_ratio_18 ⟨Nat.zero_le _, Nat.zero_le _⟩ (fun r hr1 => ?_)
      obtain ⟨rfl, b_5⟩ := hr1
      refine lv_goto (tgt := 31) hx hb dX3_ratio_21 (by decide) ?_
      refine lv_istore_n (lv' := [(2, .int (zi_n (zh_en F n))), (0, .ref x), (1, .int (zi_n p0))]) hx hb dX3_ratio_31 rfl hl (by decide) rfl (fun ls hl => ?_)
      refine lv_iload_n hx hb dX3_ratio_32 rfl (lv_at hl 0 rfl) ?_
      refine zr_if_ne (tgt := 46) hx hb dX3_ratio_33 (by decide) (by omega) (fun c_6 => ?_) (fun c_6 => ?_)
      · exfalso; omega
      · exact vx_throwS (own := RX3) (cls := "java/lang/ArithmeticException") (text := "there are 0 entries") (names := ["java/lang/RuntimeException", "java/lang/Exception"]) (ik := 165) (is := 167) (ic := 169) (sa := sa) (A := A) hx hb htr hown (by decide) (by decide) (hts (.classLink RX3 165 "java/lang/ArithmeticException") (by decide +kernel)) (hts (.initialized "java/lang/ArithmeticException") (by decide +kernel)) hstr (vx_hat (B := zn_R) (fun w hw => hts0 w (zt_in_ratio w hw)) zt_ngR (fun w hw => va_Nw.use (zn_tab (List.all_eq_true.mp (show zn_R.all zn_ok = true from rfl) w hw)) (hca w hw))) zt_goodR hZU hZN va_S.rf (hl.1.trans hml.symm) dX3_ratio_36 dX3_ratio_39 dX3_ratio_40 dX3_ratio_42 dX3_ratio_45 (fun x9 h9 => (htb x9 h9).elim) (Nat.le_of_ble_eq_true rfl) (Nat.le_of_ble_eq_true rfl) (Nat.le_of_ble_eq_true rfl) (Nat.le_of_ble_eq_true rfl) hlocks (fun t hal h1 h2 => ⟨(), trivial, rfl, h1, fun q h3 _ => h2 q h3⟩) (fun z hz => nomatch hz) (Nat.le_of_ble_eq_true rfl) (Nat.le_of_ble_eq_true rfl)
  · refine zr_bipush hx hb dX3_ratio_7 (by decide) ?_
    exfalso; omega

set_option maxHeartbeats 4000000 in
set_option maxRecDepth 100000 in
theorem c_Head_init (l : Launch) (D : va_G) (hh q : Nat) (sz : Nat) : Met l yX0_init wsX0_init ({ frames := 1, cells := 0, slots := 0, locals := 40 }) (va_Pc [.ref hh, .ref q] (zp_P D vwCl sz [(hh, .inr (2, [.null]))] [])) (va_Qv (fun (u : Unit) => True) (fun u => zp_B D vwCl [] (va_A [(hh, .inr (2, [.null]))] sz) [(hh, .inr (2, [.ref q]))]) (va_A [(hh, .inr (2, [.null]))] sz)) 0 0 (va_A [(hh, .inr (2, [.null]))] sz) := by
  refine Met.ofW (cc := cX0_init) (maxL := 2) (ret := none) (by decide) rfl ?_
  intro p e s m args below meth c s₁ B hml hv
  obtain ⟨rfl, hsz, hP, hK, hD0⟩ := hv
  have hx := B.exec
  have hb := B.bytes
  have hr := B.returns
  have hts := atoms_spec (ws := wsX0_init) B.pre
  have hown : s.vm.findClass RX0 = some m.cls := findClass_of_methodNamed B.named
  have hlocks := B.notSynchronized
  have hin : meth.name = "<init>" := (name_of_methodNamed B.named B.method).1
  subst hsz
  have hD := hD0.self (sz := s.heap.size)
  generalize hAe : va_A [(hh, .inr (2, [.null]))] s.heap.size = A at hD ⊢
  have hA : ∀ q : Nat, s.heap.size ≤ q → A q := fun q h => by rw [← hAe]; exact Or.inr h
  have hS : va_S A s.heap s.heap [] := va_S.rf
  have hP : va_P D vwCl [(hh, .inr (2, [.null]))] s.heap := hP
  have hl := lv_entry ([.ref hh, .ref q]) (n := 2) (Nat.le_of_ble_eq_true rfl)
  rw [lg_entry_eq]
  generalize (lg_sl ([.ref hh, .ref q]) ++ List.replicate (2 - (lg_sl ([.ref hh, .ref q])).length) Slot.unset).toArray = ls at hl ⊢
  have hl : lv_has ls 2 [(0, .ref hh), (1, .ref q)] := hl
  refine lv_aload_n hx hb dX0_init_0 rfl (lv_at hl 0 rfl) ?_
  refine W.objInit hx hb hown (hts (.methodLink RX0 3 objectInit) (by decide +kernel)) (hts (.instanceMethod objectInit) (by decide +kernel)) (hts (.code objectInit ⟨#[0xb1]⟩ 1 none) (by decide +kernel)) rfl (by rw [hml]; exact hl.1) rfl dX0_init_1 (Nat.le_of_ble_eq_true rfl) (Nat.le_of_ble_eq_true rfl) ?_
  refine W.eq (g2 := F0 m 4 ls []) rfl ?_
  refine lv_aload_n hx hb dX0_init_4 rfl (lv_at hl 0 rfl) ?_
  refine lv_aload_n hx hb dX0_init_5 rfl (lv_at hl 1 rfl) ?_
  refine va_putF (D := D) (ci := 2) (v := .ref q) (ty := .object "ZHeads$Row") (C := RX0) (T := TX0) (N := 1) hx hb hts (by decide +kernel) tyX0 tyX0_ok nmX0 hown hK hP hD hS 0 rfl rfl 0 (by decide) (hts (.fieldLink RX0 9 "ZHeads$Head" "row" "LZHeads$Row;") (by decide +kernel)) (fun _ h9 => h9) rfl hin rfl (by decide +kernel) rfl rfl (Nat.le_of_ble_eq_true rfl) dX0_init_6 (fun H locs hP hD hS => ?_)
  have hP : va_P D vwCl [(hh, .inr (2, [.ref q]))] H := hP
  have hD : va_D A [(hh, .inr (2, [.ref q]))] := hD
  have hP9 : va_P D vwCl [(hh, .inr (2, [.ref q]))] H := hP
  have hD9 : va_D A [(hh, .inr (2, [.ref q]))] := hD
  have hK9 : va_K D vwCl [] s := hK
  exact W.vret hx hb hr (fun t ht hW => ⟨⟨(), rfl, trivial, by rw [ht]; exact hP9, va_K.moved hW.alike hK9, hD9⟩, hS.F ht⟩) hS.2.2 dX0_init_9
set_option maxHeartbeats 4000000 in
set_option maxRecDepth 100000 in
theorem c_Model_init (l : Launch) (D : va_G) (x : Nat) (sz : Nat) : Met l yX4_init wsX4_init ({ frames := 1, cells := 3, slots := 1800, locals := 40 }) (va_Pc [.ref x] (zp_P D vwCl sz [(x, .inr (5, [.int (zi_n 0), .null, .int (zi_n 0), .int (zi_n 0), .int (zi_n 0), .null, .null, .int (zi_n 0), .int (zi_n 0)]))] [])) (va_Qv (fun (u : Nat × Nat × Nat × ClassId × ClassId × ClassId) => True) (fun u => zp_B D vwCl [(u.2.2.2.1, .int), (u.2.2.2.2.1, .int), (u.2.2.2.2.2, .int)] (va_A [(x, .inr (5, [.int (zi_n 0), .null, .int (zi_n 0), .int (zi_n 0), .int (zi_n 0), .null, .null, .int (zi_n 0), .int (zi_n 0)]))] sz) [(x, .inr (5, [.int (zi_n 0), .ref u.1, .int (zi_n 0), .int (zi_n 0), .int (zi_n 0), .ref u.2.1, .ref u.2.2.1, .int (zi_n 0), .int (zi_n 0)])), (u.1, .inl (u.2.2.2.1, 600, .inl (zi_F zi_Z))), (u.2.1, .inl (u.2.2.2.2.1, 600, .inl (zi_F zi_Z))), (u.2.2.1, .inl (u.2.2.2.2.2, 600, .inl (zi_F zi_Z)))]) (va_A [(x, .inr (5, [.int (zi_n 0), .null, .int (zi_n 0), .int (zi_n 0), .int (zi_n 0), .null, .null, .int (zi_n 0), .int (zi_n 0)]))] sz)) 3 1800 (va_A [(x, .inr (5, [.int (zi_n 0), .null, .int (zi_n 0), .int (zi_n 0), .int (zi_n 0), .null, .null, .int (zi_n 0), .int (zi_n 0)]))] sz) := by
  refine Met.ofW (cc := cX4_init) (maxL := 1) (ret := none) (by decide) rfl ?_
  intro p e s m args below meth c s₁ B hml hv
  obtain ⟨rfl, hsz, hP, hK, hD0⟩ := hv
  have hx := B.exec
  have hb := B.bytes
  have hr := B.returns
  have hts := atoms_spec (ws := wsX4_init) B.pre
  have hown : s.vm.findClass RX4 = some m.cls := findClass_of_methodNamed B.named
  have hlocks := B.notSynchronized
  have hin : meth.name = "<init>" := (name_of_methodNamed B.named B.method).1
  subst hsz
  have hD := hD0.self (sz := s.heap.size)
  generalize hAe : va_A [(x, .inr (5, [.int (zi_n 0), .null, .int (zi_n 0), .int (zi_n 0), .int (zi_n 0), .null, .null, .int (zi_n 0), .int (zi_n 0)]))] s.heap.size = A at hD ⊢
  have hA : ∀ q : Nat, s.heap.size ≤ q → A q := fun q h => by rw [← hAe]; exact Or.inr h
  have hS : va_S A s.heap s.heap [] := va_S.rf
  have hP : va_P D vwCl [(x, .inr (5, [.int (zi_n 0), .null, .int (zi_n 0), .int (zi_n 0), .int (zi_n 0), .null, .null, .int (zi_n 0), .int (zi_n 0)]))] s.heap := hP
  have hl := lv_entry ([.ref x]) (n := 1) (Nat.le_of_ble_eq_true rfl)
  rw [lg_entry_eq]
  generalize (lg_sl ([.ref x]) ++ List.replicate (1 - (lg_sl ([.ref x])).length) Slot.unset).toArray = ls at hl ⊢
  have hl : lv_has ls 1 [(0, .ref x)] := hl
  refine lv_aload_n hx hb dX4_init_0 rfl (lv_at hl 0 rfl) ?_
  refine W.objInit hx hb hown (hts (.methodLink RX4 1 objectInit) (by decide +kernel)) (hts (.instanceMethod objectInit) (by decide +kernel)) (hts (.code objectInit ⟨#[0xb1]⟩ 1 none) (by decide +kernel)) rfl (by rw [hml]; exact hl.1) rfl dX4_init_1 (Nat.le_of_ble_eq_true rfl) (Nat.le_of_ble_eq_true rfl) ?_
  refine W.eq (g2 := F0 m 4 ls []) rfl ?_
  refine lv_aload_n hx hb dX4_init_4 rfl (lv_at hl 0 rfl) ?_
  refine zr_sipush hx hb dX4_init_5 (by decide) ?_
  refine va_newa (atype := .int) (N' := 600) (n := zi_n 600) (a0 := (600, .inl (zi_F zi_Z))) (ty := .int) hx hb (hts (.arrayClass .int) (by decide +kernel)) rfl hK hP hD hS hA zi_Z_cell zi_600 zi_600n zi_600b (Nat.le_of_ble_eq_true rfl) (Nat.le_of_ble_eq_true rfl) dX4_init_8 (fun a1 cA1 H hK hP hD hS => ?_)
  have hP : va_P D vwCl [(x, .inr (5, [.int (zi_n 0), .null, .int (zi_n 0), .int (zi_n 0), .int (zi_n 0), .null, .null, .int (zi_n 0), .int (zi_n 0)])), (a1, .inl (cA1, 600, .inl (zi_F zi_Z)))] H := hP
  have hD : va_D A [(x, .inr (5, [.int (zi_n 0), .null, .int (zi_n 0), .int (zi_n 0), .int (zi_n 0), .null, .null, .int (zi_n 0), .int (zi_n 0)])), (a1, .inl (cA1, 600, .inl (zi_F zi_Z)))] := hD
  have hK : va_K D vwCl [(cA1, .int)] s := hK
  refine W.widen (k := 1) (n := 600) (by omega) (by omega) ?_
  refine va_putF (D := D) (ci := 5) (v := .ref a1) (ty := .array .int) (C := RX4) (T := TX4) (N := 9) hx hb hts (by decide +kernel) tyX4 tyX4_ok nmX4 hown hK hP hD hS 0 rfl rfl 1 (by decide) (hts (.fieldLink RX4 7 "ZHeadsModel" "file" "[I") (by decide +kernel)) (fun _ h9 => h9) rfl hin rfl (by decide +kernel) rfl rfl (Nat.le_of_ble_eq_true rfl) dX4_init_10 (fun H locs hP hD hS => ?_)
  have hP : va_P D vwCl [(x, .inr (5, [.int (zi_n 0), .ref a1, .int (zi_n 0), .int (zi_n 0), .int (zi_n 0), .null, .null, .int (zi_n 0), .int (zi_n 0)])), (a1, .inl (cA1, 600, .inl (zi_F zi_Z)))] H := hP
  have hD : va_D A [(x, .inr (5, [.int (zi_n 0), .ref a1, .int (zi_n 0), .int (zi_n 0), .int (zi_n 0), .null, .null, .int (zi_n 0), .int (zi_n 0)])), (a1, .inl (cA1, 600, .inl (zi_F zi_Z)))] := hD
  refine lv_aload_n hx hb dX4_init_13 rfl (lv_at hl 0 rfl) ?_
  refine zr_sipush hx hb dX4_init_14 (by decide) ?_
  refine va_newa (atype := .int) (N' := 600) (n := zi_n 600) (a0 := (600, .inl (zi_F zi_Z))) (ty := .int) hx hb (hts (.arrayClass .int) (by decide +kernel)) rfl hK hP hD hS hA zi_Z_cell zi_600 zi_600n zi_600b (Nat.le_of_ble_eq_true rfl) (Nat.le_of_ble_eq_true rfl) dX4_init_17 (fun a2 cA2 H hK hP hD hS => ?_)
  have hP : va_P D vwCl [(x, .inr (5, [.int (zi_n 0), .ref a1, .int (zi_n 0), .int (zi_n 0), .int (zi_n 0), .null, .null, .int (zi_n 0), .int (zi_n 0)])), (a1, .inl (cA1, 600, .inl (zi_F zi_Z))), (a2, .inl (cA2, 600, .inl (zi_F zi_Z)))] H := hP
  have hD : va_D A [(x, .inr (5, [.int (zi_n 0), .ref a1, .int (zi_n 0), .int (zi_n 0), .int (zi_n 0), .null, .null, .int (zi_n 0), .int (zi_n 0)])), (a1, .inl (cA1, 600, .inl (zi_F zi_Z))), (a2, .inl (cA2, 600, .inl (zi_F zi_Z)))] := hD
  have hK : va_K D vwCl [(cA1, .int), (cA2, .int)] s := hK
  refine W.widen (k := 2) (n := 1200) (by omega) (by omega) ?_
  refine va_putF (D := D) (ci := 5) (v := .ref a2) (ty := .array .int) (C := RX4) (T := TX4) (N := 9) hx hb hts (by decide +kernel) tyX4 tyX4_ok nmX4 hown hK hP hD hS 0 rfl rfl 5 (by decide) (hts (.fieldLink RX4 13 "ZHeadsModel" "read" "[I") (by decide +kernel)) (fun _ h9 => h9) rfl hin rfl (by decide +kernel) rfl rfl (Nat.le_of_ble_eq_true rfl) dX4_init_19 (fun H locs hP hD hS => ?_)
  have hP : va_P D vwCl [(x, .inr (5, [.int (zi_n 0), .ref a1, .int (zi_n 0), .int (zi_n 0), .int (zi_n 0), .ref a2, .null, .int (zi_n 0), .int (zi_n 0)])), (a1, .inl (cA1, 600, .inl (zi_F zi_Z))), (a2, .inl (cA2, 600, .inl (zi_F zi_Z)))] H := hP
  have hD : va_D A [(x, .inr (5, [.int (zi_n 0), .ref a1, .int (zi_n 0), .int (zi_n 0), .int (zi_n 0), .ref a2, .null, .int (zi_n 0), .int (zi_n 0)])), (a1, .inl (cA1, 600, .inl (zi_F zi_Z))), (a2, .inl (cA2, 600, .inl (zi_F zi_Z)))] := hD
  refine lv_aload_n hx hb dX4_init_22 rfl (lv_at hl 0 rfl) ?_
  refine zr_sipush hx hb dX4_init_23 (by decide) ?_
  refine va_newa (atype := .int) (N' := 600) (n := zi_n 600) (a0 := (600, .inl (zi_F zi_Z))) (ty := .int) hx hb (hts (.arrayClass .int) (by decide +kernel)) rfl hK hP hD hS hA zi_Z_cell zi_600 zi_600n zi_600b (Nat.le_of_ble_eq_true rfl) (Nat.le_of_ble_eq_true rfl) dX4_init_26 (fun a3 cA3 H hK hP hD hS => ?_)
  have hP : va_P D vwCl [(x, .inr (5, [.int (zi_n 0), .ref a1, .int (zi_n 0), .int (zi_n 0), .int (zi_n 0), .ref a2, .null, .int (zi_n 0), .int (zi_n 0)])), (a1, .inl (cA1, 600, .inl (zi_F zi_Z))), (a2, .inl (cA2, 600, .inl (zi_F zi_Z))), (a3, .inl (cA3, 600, .inl (zi_F zi_Z)))] H := hP
  have hD : va_D A [(x, .inr (5, [.int (zi_n 0), .ref a1, .int (zi_n 0), .int (zi_n 0), .int (zi_n 0), .ref a2, .null, .int (zi_n 0), .int (zi_n 0)])), (a1, .inl (cA1, 600, .inl (zi_F zi_Z))), (a2, .inl (cA2, 600, .inl (zi_F zi_Z))), (a3, .inl (cA3, 600, .inl (zi_F zi_Z)))] := hD
  have hK : va_K D vwCl [(cA1, .int), (cA2, .int), (cA3, .int)] s := hK
  refine W.widen (k := 3) (n := 1800) (by omega) (by omega) ?_
  refine va_putF (D := D) (ci := 5) (v := .ref a3) (ty := .array .int) (C := RX4) (T := TX4) (N := 9) hx hb hts (by decide +kernel) tyX4 tyX4_ok nmX4 hown hK hP hD hS 0 rfl rfl 6 (by decide) (hts (.fieldLink RX4 16 "ZHeadsModel" "memory" "[I") (by decide +kernel)) (fun _ h9 => h9) rfl hin rfl (by decide +kernel) rfl rfl (Nat.le_of_ble_eq_true rfl) dX4_init_28 (fun H locs hP hD hS => ?_)
  have hP : va_P D vwCl [(x, .inr (5, [.int (zi_n 0), .ref a1, .int (zi_n 0), .int (zi_n 0), .int (zi_n 0), .ref a2, .ref a3, .int (zi_n 0), .int (zi_n 0)])), (a1, .inl (cA1, 600, .inl (zi_F zi_Z))), (a2, .inl (cA2, 600, .inl (zi_F zi_Z))), (a3, .inl (cA3, 600, .inl (zi_F zi_Z)))] H := hP
  have hD : va_D A [(x, .inr (5, [.int (zi_n 0), .ref a1, .int (zi_n 0), .int (zi_n 0), .int (zi_n 0), .ref a2, .ref a3, .int (zi_n 0), .int (zi_n 0)])), (a1, .inl (cA1, 600, .inl (zi_F zi_Z))), (a2, .inl (cA2, 600, .inl (zi_F zi_Z))), (a3, .inl (cA3, 600, .inl (zi_F zi_Z)))] := hD
  have hP9 : va_P D vwCl [(x, .inr (5, [.int (zi_n 0), .ref a1, .int (zi_n 0), .int (zi_n 0), .int (zi_n 0), .ref a2, .ref a3, .int (zi_n 0), .int (zi_n 0)])), (a1, .inl (cA1, 600, .inl (zi_F zi_Z))), (a2, .inl (cA2, 600, .inl (zi_F zi_Z))), (a3, .inl (cA3, 600, .inl (zi_F zi_Z)))] H := hP
  have hD9 : va_D A [(x, .inr (5, [.int (zi_n 0), .ref a1, .int (zi_n 0), .int (zi_n 0), .int (zi_n 0), .ref a2, .ref a3, .int (zi_n 0), .int (zi_n 0)])), (a1, .inl (cA1, 600, .inl (zi_F zi_Z))), (a2, .inl (cA2, 600, .inl (zi_F zi_Z))), (a3, .inl (cA3, 600, .inl (zi_F zi_Z)))] := hD
  have hK9 : va_K D vwCl [(cA1, .int), (cA2, .int), (cA3, .int)] s := hK
  exact W.vret hx hb hr (fun t ht hW => ⟨⟨(a1, a2, a3, cA1, cA2, cA3), rfl, trivial, by rw [ht]; exact hP9, va_K.moved hW.alike hK9, hD9⟩, hS.F ht⟩) hS.2.2 dX4_init_31
set_option maxHeartbeats 4000000 in
set_option maxRecDepth 100000 in
theorem c_Z_init (l : Launch) (D : va_G) (x : Nat) (sz : Nat) : Met l yX3_init wsX3_init ({ frames := 2, cells := 5, slots := 1205, locals := 80 }) (va_Pc [.ref x] (fun U => va_Nw (.methodLinkNest RX3 9 yX2_init RX3) U ∧ zp_P D vwCl sz [(x, .inr (4, [.null, .null, .null, .int (zi_n 0), .int (zi_n 0)]))] [] U)) (va_Qv (fun (u : Nat × Nat × Nat × Nat × Nat × ClassId × ClassId) => True) (fun u => zp_B D vwCl [(u.2.2.2.2.2.1, .int), (u.2.2.2.2.2.2, .int)] (va_A [(x, .inr (4, [.null, .null, .null, .int (zi_n 0), .int (zi_n 0)]))] sz) [(x, .inr (4, [.ref u.1, .ref u.2.1, .ref u.2.2.1, .int (zi_n 0), .int (zi_n 0)])), (u.1, .inr (3, [.ref u.2.2.2.1, .int (zi_n 0)])), (u.2.1, .inr (3, [.ref u.2.2.2.2.1, .int (zi_n 0)])), (u.2.2.1, .inr (2, [.ref u.1])), (u.2.2.2.1, .inl (u.2.2.2.2.2.1, 600, .inl (zi_F zi_Z))), (u.2.2.2.2.1, .inl (u.2.2.2.2.2.2, 600, .inl (zi_F zi_Z)))]) (va_A [(x, .inr (4, [.null, .null, .null, .int (zi_n 0), .int (zi_n 0)]))] sz)) 5 1205 (va_A [(x, .inr (4, [.null, .null, .null, .int (zi_n 0), .int (zi_n 0)]))] sz) := by
  refine Met.ofW (cc := cX3_init) (maxL := 1) (ret := none) (by decide) rfl ?_
  intro p e s m args below meth c s₁ B hml hv
  obtain ⟨rfl, hnw, hsz, hP, hK, hD0⟩ := hv
  have hx := B.exec
  have hb := B.bytes
  have hr := B.returns
  have hts := atoms_spec (ws := wsX3_init) B.pre
  have hown : s.vm.findClass RX3 = some m.cls := findClass_of_methodNamed B.named
  have hlocks := B.notSynchronized
  have hin : meth.name = "<init>" := (name_of_methodNamed B.named B.method).1
  subst hsz
  have hD := hD0.self (sz := s.heap.size)
  generalize hAe : va_A [(x, .inr (4, [.null, .null, .null, .int (zi_n 0), .int (zi_n 0)]))] s.heap.size = A at hD ⊢
  have hA : ∀ q : Nat, s.heap.size ≤ q → A q := fun q h => by rw [← hAe]; exact Or.inr h
  have hS : va_S A s.heap s.heap [] := va_S.rf
  have hP : va_P D vwCl [(x, .inr (4, [.null, .null, .null, .int (zi_n 0), .int (zi_n 0)]))] s.heap := hP
  have hl := lv_entry ([.ref x]) (n := 1) (Nat.le_of_ble_eq_true rfl)
  rw [lg_entry_eq]
  generalize (lg_sl ([.ref x]) ++ List.replicate (1 - (lg_sl ([.ref x])).length) Slot.unset).toArray = ls at hl ⊢
  have hl : lv_has ls 1 [(0, .ref x)] := hl
  refine lv_aload_n hx hb dX3_init_0 rfl (lv_at hl 0 rfl) ?_
  refine W.objInit hx hb hown (hts (.methodLink RX3 1 objectInit) (by decide +kernel)) (hts (.instanceMethod objectInit) (by decide +kernel)) (hts (.code objectInit ⟨#[0xb1]⟩ 1 none) (by decide +kernel)) rfl (by rw [hml]; exact hl.1) rfl dX3_init_1 (Nat.le_of_ble_eq_true rfl) (Nat.le_of_ble_eq_true rfl) ?_
  refine W.eq (g2 := F0 m 4 ls []) rfl ?_
  refine lv_aload_n hx hb dX3_init_4 rfl (lv_at hl 0 rfl) ?_
  refine va_new (ci := 3) (fs := [.null, .int (zi_n 0)]) (C := RX2) (T := TX2) (N := 2) hx hb hts (by decide +kernel) tyX2 tyX2_ok hown (hts (.classLink RX3 7 RX2) (by decide +kernel)) (hts (.instantiable RX2 2) (by decide +kernel)) (hts (.initialized RX2) (by decide +kernel)) hK hP hD hS hA rfl (fun j hj => by rcases (show j = 0 ∨ j = 1 by omega) with rfl | rfl <;> rfl) (Nat.le_of_ble_eq_true rfl) (Nat.le_of_ble_eq_true rfl) dX3_init_5 (fun q H hP hD hS => ?_)
  have hP : va_P D vwCl [(x, .inr (4, [.null, .null, .null, .int (zi_n 0), .int (zi_n 0)])), (q, .inr (3, [.null, .int (zi_n 0)]))] H := hP
  have hD : va_D A [(x, .inr (4, [.null, .null, .null, .int (zi_n 0), .int (zi_n 0)])), (q, .inr (3, [.null, .int (zi_n 0)]))] := hD
  refine W.widen (k := 1) (n := 2) (by omega) (by omega) ?_
  refine lv_dup hx hb dX3_init_8 rfl ?_
  have hPc := hP.sub (ws' := [(q, .inr (3, [.null, .int (zi_n 0)]))]) [1] rfl
  have hDc := hD.sub (ws' := [(q, .inr (3, [.null, .int (zi_n 0)]))]) [1] (by decide) rfl
  have hKc := hK.sub (tys' := []) [] rfl
  have hFc := va_free (wc := [(q, .inr (3, [.null, .int (zi_n 0)]))]) hD hS hA [1] rfl
  refine va_callv (va_runIN (As := []) (rest := [.ref q, .ref x]) ⟨hx, hb, hml, hown, hts⟩ (c_Row_init l D q H.size) ⟨va_cnB (host := RX3) 0 hts gX3_init_X2_init_n9 rfl rfl rfl hnw (hts (.initialized RX2) (by decide +kernel)) (by decide +kernel) ⟨(Nat.le_of_ble_eq_true rfl), (Nat.le_of_ble_eq_true rfl)⟩, rfl, hts (.instanceMethod yX2_init) (by decide +kernel)⟩ ⟨fun a U g mk q => by obtain ⟨q0, q1, qP, qK, qD⟩ := q; exact ⟨q0, q1, qP, va_K.moved (u := U) (U := U.calling g mk a) (Vm.Alike.refl U.vm) qK, qD⟩, fun U hU hW => ⟨rfl, by rw [hU], by rw [hU]; exact hPc, va_K.moved hW.alike hKc, hDc.weaken (fun _ _ _ _ => trivial)⟩⟩ rfl rfl hl.1 rfl (lv_room (Nat.le_of_ble_eq_true rfl)) dX3_init_9 ⟨(Nat.le_of_ble_eq_true rfl), (Nat.le_of_ble_eq_true rfl)⟩) hS (fun q _ h => hFc q h) hFc (fun u t H1 locs ht hvm hw hB hz1 hk1 hS => ?_)
  obtain ⟨a, cA⟩ := u
  obtain ⟨hP1, hK1, hD1⟩ := hB
  rw [ht] at hP1
  have hK1 := va_K.moved hvm.symm hK1
  obtain ⟨hP, hD⟩ := va_join (wr := [(x, .inr (4, [.null, .null, .null, .int (zi_n 0), .int (zi_n 0)]))]) (w1 := [(q, .inr (3, [.ref a, .int (zi_n 0)])), (a, .inl (cA, 600, .inl (zi_F zi_Z)))]) hP hD [1] [0] rfl rfl (by decide) (by decide) hk1 hFc hP1 hD1
  have hK := hK.app hK1
  generalize H1 = H at hP hS ⊢
  have hP : va_P D vwCl [(x, .inr (4, [.null, .null, .null, .int (zi_n 0), .int (zi_n 0)])), (q, .inr (3, [.ref a, .int (zi_n 0)])), (a, .inl (cA, 600, .inl (zi_F zi_Z)))] H := hP
  have hD : va_D A [(x, .inr (4, [.null, .null, .null, .int (zi_n 0), .int (zi_n 0)])), (q, .inr (3, [.ref a, .int (zi_n 0)])), (a, .inl (cA, 600, .inl (zi_F zi_Z)))] := hD
  have hK : va_K D vwCl [(cA, .int)] s := hK
  refine W.widen (k := 2) (n := 602) (by omega) (by omega) ?_
  refine va_putF (D := D) (ci := 4) (v := .ref q) (ty := .object "ZHeads$Row") (C := RX3) (T := TX3) (N := 5) hx hb hts (by decide +kernel) tyX3 tyX3_ok nmX3 hown hK hP hD hS 0 rfl rfl 0 (by decide) (hts (.fieldLink RX3 10 "ZHeads" "file" "LZHeads$Row;") (by decide +kernel)) (fun _ h9 => h9) rfl hin rfl (by decide +kernel) rfl rfl (Nat.le_of_ble_eq_true rfl) dX3_init_12 (fun H locs hP hD hS => ?_)
  have hP : va_P D vwCl [(x, .inr (4, [.ref q, .null, .null, .int (zi_n 0), .int (zi_n 0)])), (q, .inr (3, [.ref a, .int (zi_n 0)])), (a, .inl (cA, 600, .inl (zi_F zi_Z)))] H := hP
  have hD : va_D A [(x, .inr (4, [.ref q, .null, .null, .int (zi_n 0), .int (zi_n 0)])), (q, .inr (3, [.ref a, .int (zi_n 0)])), (a, .inl (cA, 600, .inl (zi_F zi_Z)))] := hD
  refine lv_aload_n hx hb dX3_init_15 rfl (lv_at hl 0 rfl) ?_
  refine va_new (ci := 3) (fs := [.null, .int (zi_n 0)]) (C := RX2) (T := TX2) (N := 2) hx hb hts (by decide +kernel) tyX2 tyX2_ok hown (hts (.classLink RX3 7 RX2) (by decide +kernel)) (hts (.instantiable RX2 2) (by decide +kernel)) (hts (.initialized RX2) (by decide +kernel)) hK hP hD hS hA rfl (fun j hj => by rcases (show j = 0 ∨ j = 1 by omega) with rfl | rfl <;> rfl) (Nat.le_of_ble_eq_true rfl) (Nat.le_of_ble_eq_true rfl) dX3_init_16 (fun q2 H hP hD hS => ?_)
  have hP : va_P D vwCl [(x, .inr (4, [.ref q, .null, .null, .int (zi_n 0), .int (zi_n 0)])), (q, .inr (3, [.ref a, .int (zi_n 0)])), (a, .inl (cA, 600, .inl (zi_F zi_Z))), (q2, .inr (3, [.null, .int (zi_n 0)]))] H := hP
  have hD : va_D A [(x, .inr (4, [.ref q, .null, .null, .int (zi_n 0), .int (zi_n 0)])), (q, .inr (3, [.ref a, .int (zi_n 0)])), (a, .inl (cA, 600, .inl (zi_F zi_Z))), (q2, .inr (3, [.null, .int (zi_n 0)]))] := hD
  refine W.widen (k := 3) (n := 604) (by omega) (by omega) ?_
  refine lv_dup hx hb dX3_init_19 rfl ?_
  have hPc := hP.sub (ws' := [(q2, .inr (3, [.null, .int (zi_n 0)]))]) [3] rfl
  have hDc := hD.sub (ws' := [(q2, .inr (3, [.null, .int (zi_n 0)]))]) [3] (by decide) rfl
  have hKc := hK.sub (tys' := []) [] rfl
  have hFc := va_free (wc := [(q2, .inr (3, [.null, .int (zi_n 0)]))]) hD hS hA [3] rfl
  refine va_callv (va_runIN (As := []) (rest := [.ref q2, .ref x]) ⟨hx, hb, hml, hown, hts⟩ (c_Row_init l D q2 H.size) ⟨va_cnB (host := RX3) 0 hts gX3_init_X2_init_n9 rfl rfl rfl hnw (hts (.initialized RX2) (by decide +kernel)) (by decide +kernel) ⟨(Nat.le_of_ble_eq_true rfl), (Nat.le_of_ble_eq_true rfl)⟩, rfl, hts (.instanceMethod yX2_init) (by decide +kernel)⟩ ⟨fun a U g mk q => by obtain ⟨q0, q1, qP, qK, qD⟩ := q; exact ⟨q0, q1, qP, va_K.moved (u := U) (U := U.calling g mk a) (Vm.Alike.refl U.vm) qK, qD⟩, fun U hU hW => ⟨rfl, by rw [hU], by rw [hU]; exact hPc, va_K.moved hW.alike hKc, hDc.weaken (fun _ _ _ _ => trivial)⟩⟩ rfl rfl hl.1 rfl (lv_room (Nat.le_of_ble_eq_true rfl)) dX3_init_20 ⟨(Nat.le_of_ble_eq_true rfl), (Nat.le_of_ble_eq_true rfl)⟩) hS (fun q _ h => hFc q h) hFc (fun u t H1 locs ht hvm hw hB hz1 hk1 hS => ?_)
  obtain ⟨a2, cB⟩ := u
  obtain ⟨hP1, hK1, hD1⟩ := hB
  rw [ht] at hP1
  have hK1 := va_K.moved hvm.symm hK1
  obtain ⟨hP, hD⟩ := va_join (wr := [(x, .inr (4, [.ref q, .null, .null, .int (zi_n 0), .int (zi_n 0)])), (q, .inr (3, [.ref a, .int (zi_n 0)])), (a, .inl (cA, 600, .inl (zi_F zi_Z)))]) (w1 := [(q2, .inr (3, [.ref a2, .int (zi_n 0)])), (a2, .inl (cB, 600, .inl (zi_F zi_Z)))]) hP hD [3] [0, 1, 2] rfl rfl (by decide) (by decide) hk1 hFc hP1 hD1
  have hK := hK.app hK1
  generalize H1 = H at hP hS ⊢
  have hP : va_P D vwCl [(x, .inr (4, [.ref q, .null, .null, .int (zi_n 0), .int (zi_n 0)])), (q, .inr (3, [.ref a, .int (zi_n 0)])), (a, .inl (cA, 600, .inl (zi_F zi_Z))), (q2, .inr (3, [.ref a2, .int (zi_n 0)])), (a2, .inl (cB, 600, .inl (zi_F zi_Z)))] H := hP
  have hD : va_D A [(x, .inr (4, [.ref q, .null, .null, .int (zi_n 0), .int (zi_n 0)])), (q, .inr (3, [.ref a, .int (zi_n 0)])), (a, .inl (cA, 600, .inl (zi_F zi_Z))), (q2, .inr (3, [.ref a2, .int (zi_n 0)])), (a2, .inl (cB, 600, .inl (zi_F zi_Z)))] := hD
  have hK : va_K D vwCl [(cA, .int), (cB, .int)] s := hK
  refine W.widen (k := 4) (n := 1204) (by omega) (by omega) ?_
  refine va_putF (D := D) (ci := 4) (v := .ref q2) (ty := .object "ZHeads$Row") (C := RX3) (T := TX3) (N := 5) hx hb hts (by decide +kernel) tyX3 tyX3_ok nmX3 hown hK hP hD hS 0 rfl rfl 1 (by decide) (hts (.fieldLink RX3 16 "ZHeads" "memory" "LZHeads$Row;") (by decide +kernel)) (fun _ h9 => h9) rfl hin rfl (by decide +kernel) rfl rfl (Nat.le_of_ble_eq_true rfl) dX3_init_23 (fun H locs hP hD hS => ?_)
  have hP : va_P D vwCl [(x, .inr (4, [.ref q, .ref q2, .null, .int (zi_n 0), .int (zi_n 0)])), (q, .inr (3, [.ref a, .int (zi_n 0)])), (a, .inl (cA, 600, .inl (zi_F zi_Z))), (q2, .inr (3, [.ref a2, .int (zi_n 0)])), (a2, .inl (cB, 600, .inl (zi_F zi_Z)))] H := hP
  have hD : va_D A [(x, .inr (4, [.ref q, .ref q2, .null, .int (zi_n 0), .int (zi_n 0)])), (q, .inr (3, [.ref a, .int (zi_n 0)])), (a, .inl (cA, 600, .inl (zi_F zi_Z))), (q2, .inr (3, [.ref a2, .int (zi_n 0)])), (a2, .inl (cB, 600, .inl (zi_F zi_Z)))] := hD
  refine lv_aload_n hx hb dX3_init_26 rfl (lv_at hl 0 rfl) ?_
  refine va_new (ci := 2) (fs := [.null]) (C := RX0) (T := TX0) (N := 1) hx hb hts (by decide +kernel) tyX0 tyX0_ok hown (hts (.classLink RX3 19 RX0) (by decide +kernel)) (hts (.instantiable RX0 1) (by decide +kernel)) (hts (.initialized RX0) (by decide +kernel)) hK hP hD hS hA rfl (fun j hj => by rcases (show j = 0 by omega) with rfl <;> rfl) (Nat.le_of_ble_eq_true rfl) (Nat.le_of_ble_eq_true rfl) dX3_init_27 (fun hh H hP hD hS => ?_)
  have hP : va_P D vwCl [(x, .inr (4, [.ref q, .ref q2, .null, .int (zi_n 0), .int (zi_n 0)])), (q, .inr (3, [.ref a, .int (zi_n 0)])), (a, .inl (cA, 600, .inl (zi_F zi_Z))), (q2, .inr (3, [.ref a2, .int (zi_n 0)])), (a2, .inl (cB, 600, .inl (zi_F zi_Z))), (hh, .inr (2, [.null]))] H := hP
  have hD : va_D A [(x, .inr (4, [.ref q, .ref q2, .null, .int (zi_n 0), .int (zi_n 0)])), (q, .inr (3, [.ref a, .int (zi_n 0)])), (a, .inl (cA, 600, .inl (zi_F zi_Z))), (q2, .inr (3, [.ref a2, .int (zi_n 0)])), (a2, .inl (cB, 600, .inl (zi_F zi_Z))), (hh, .inr (2, [.null]))] := hD
  refine W.widen (k := 5) (n := 1205) (by omega) (by omega) ?_
  refine lv_dup hx hb dX3_init_30 rfl ?_
  refine lv_aload_n hx hb dX3_init_31 rfl (lv_at hl 0 rfl) ?_
  refine va_get (D := D) (ci := 4) (v := .ref q) (C := RX3) (T := TX3) (N := 5) hx hb hts (by decide +kernel) hown hK hP 0 rfl rfl 0 (by decide) (hts (.fieldLink RX3 10 "ZHeads" "file" "LZHeads$Row;") (by decide +kernel)) (fun _ h9 => h9) rfl dX3_init_32 ?_
  have hPc := hP.sub (ws' := [(hh, .inr (2, [.null]))]) [5] rfl
  have hDc := hD.sub (ws' := [(hh, .inr (2, [.null]))]) [5] (by decide) rfl
  have hKc := hK.sub (tys' := []) [] rfl
  have hFc := va_free (wc := [(hh, .inr (2, [.null]))]) hD hS hA [5] rfl
  refine va_callv (va_runI (As := [.ref q]) (rest := [.ref hh, .ref x]) ⟨hx, hb, hml, hown, hts⟩ (c_Head_init l D hh q H.size) (cwI 1 hts gX3_init_X0_init rfl rfl rfl (hts (.initialized RX0) (by decide +kernel)) (hts (.methodLink RX3 21 yX0_init) (by decide +kernel)) (hts (.instanceMethod yX0_init) (by decide +kernel)) rfl (by decide +kernel) ⟨(Nat.le_of_ble_eq_true rfl), (Nat.le_of_ble_eq_true rfl)⟩) ⟨fun a U g mk q => by obtain ⟨q0, q1, qP, qK, qD⟩ := q; exact ⟨q0, q1, qP, va_K.moved (u := U) (U := U.calling g mk a) (Vm.Alike.refl U.vm) qK, qD⟩, fun U hU hW => ⟨rfl, by rw [hU], by rw [hU]; exact hPc, va_K.moved hW.alike hKc, hDc.weaken (fun _ _ _ _ => trivial)⟩⟩ rfl rfl hl.1 rfl (lv_room (Nat.le_of_ble_eq_true rfl)) dX3_init_35 ⟨(Nat.le_of_ble_eq_true rfl), (Nat.le_of_ble_eq_true rfl)⟩) hS (fun q _ h => hFc q h) hFc (fun u t H1 locs ht hvm hw hB hz1 hk1 hS => ?_)
  obtain ⟨hP1, hK1, hD1⟩ := hB
  rw [ht] at hP1
  have hK1 := va_K.moved hvm.symm hK1
  obtain ⟨hP, hD⟩ := va_join (wr := [(x, .inr (4, [.ref q, .ref q2, .null, .int (zi_n 0), .int (zi_n 0)])), (q, .inr (3, [.ref a, .int (zi_n 0)])), (a, .inl (cA, 600, .inl (zi_F zi_Z))), (q2, .inr (3, [.ref a2, .int (zi_n 0)])), (a2, .inl (cB, 600, .inl (zi_F zi_Z)))]) (w1 := [(hh, .inr (2, [.ref q]))]) hP hD [5] [0, 1, 2, 3, 4] rfl rfl (by decide) (by decide) hk1 hFc hP1 hD1
  have hK := hK.app hK1
  generalize H1 = H at hP hS ⊢
  have hP : va_P D vwCl [(x, .inr (4, [.ref q, .ref q2, .null, .int (zi_n 0), .int (zi_n 0)])), (q, .inr (3, [.ref a, .int (zi_n 0)])), (a, .inl (cA, 600, .inl (zi_F zi_Z))), (q2, .inr (3, [.ref a2, .int (zi_n 0)])), (a2, .inl (cB, 600, .inl (zi_F zi_Z))), (hh, .inr (2, [.ref q]))] H := hP
  have hD : va_D A [(x, .inr (4, [.ref q, .ref q2, .null, .int (zi_n 0), .int (zi_n 0)])), (q, .inr (3, [.ref a, .int (zi_n 0)])), (a, .inl (cA, 600, .inl (zi_F zi_Z))), (q2, .inr (3, [.ref a2, .int (zi_n 0)])), (a2, .inl (cB, 600, .inl (zi_F zi_Z))), (hh, .inr (2, [.ref q]))] := hD
  have hK : va_K D vwCl [(cA, .int), (cB, .int)] s := hK
  refine W.widen (k := 5) (n := 1205) (by omega) (by omega) ?_
  refine va_putF (D := D) (ci := 4) (v := .ref hh) (ty := .object "ZHeads$Head") (C := RX3) (T := TX3) (N := 5) hx hb hts (by decide +kernel) tyX3 tyX3_ok nmX3 hown hK hP hD hS 0 rfl rfl 2 (by decide) (hts (.fieldLink RX3 24 "ZHeads" "head" "LZHeads$Head;") (by decide +kernel)) (fun _ h9 => h9) rfl hin rfl (by decide +kernel) rfl rfl (Nat.le_of_ble_eq_true rfl) dX3_init_38 (fun H locs hP hD hS => ?_)
  have hP : va_P D vwCl [(x, .inr (4, [.ref q, .ref q2, .ref hh, .int (zi_n 0), .int (zi_n 0)])), (q, .inr (3, [.ref a, .int (zi_n 0)])), (a, .inl (cA, 600, .inl (zi_F zi_Z))), (q2, .inr (3, [.ref a2, .int (zi_n 0)])), (a2, .inl (cB, 600, .inl (zi_F zi_Z))), (hh, .inr (2, [.ref q]))] H := hP
  have hD : va_D A [(x, .inr (4, [.ref q, .ref q2, .ref hh, .int (zi_n 0), .int (zi_n 0)])), (q, .inr (3, [.ref a, .int (zi_n 0)])), (a, .inl (cA, 600, .inl (zi_F zi_Z))), (q2, .inr (3, [.ref a2, .int (zi_n 0)])), (a2, .inl (cB, 600, .inl (zi_F zi_Z))), (hh, .inr (2, [.ref q]))] := hD
  refine lv_aload_n hx hb dX3_init_41 rfl (lv_at hl 0 rfl) ?_
  refine zr_iconst hx hb dX3_init_42 ?_
  refine va_put (D := D) (ci := 4) (v := .int (zi_n 0)) (ty := .boolean) (C := RX3) (T := TX3) (N := 5) hx hb hts (by decide +kernel) tyX3 tyX3_ok nmX3 hown hK hP hD hS 0 rfl rfl 3 (by decide) (hts (.fieldLink RX3 28 "ZHeads" "isRead" "Z") (by decide +kernel)) (fun _ h9 => h9) rfl (by decide +kernel) (by decide) rfl (Nat.le_of_ble_eq_true rfl) dX3_init_43 (fun H locs hP hD hS => ?_)
  have hP : va_P D vwCl [(x, .inr (4, [.ref q, .ref q2, .ref hh, .int (zi_n 0), .int (zi_n 0)])), (q, .inr (3, [.ref a, .int (zi_n 0)])), (a, .inl (cA, 600, .inl (zi_F zi_Z))), (q2, .inr (3, [.ref a2, .int (zi_n 0)])), (a2, .inl (cB, 600, .inl (zi_F zi_Z))), (hh, .inr (2, [.ref q]))] H := hP
  have hD : va_D A [(x, .inr (4, [.ref q, .ref q2, .ref hh, .int (zi_n 0), .int (zi_n 0)])), (q, .inr (3, [.ref a, .int (zi_n 0)])), (a, .inl (cA, 600, .inl (zi_F zi_Z))), (q2, .inr (3, [.ref a2, .int (zi_n 0)])), (a2, .inl (cB, 600, .inl (zi_F zi_Z))), (hh, .inr (2, [.ref q]))] := hD
  refine lv_aload_n hx hb dX3_init_46 rfl (lv_at hl 0 rfl) ?_
  refine zr_iconst hx hb dX3_init_47 ?_
  refine va_put (D := D) (ci := 4) (v := .int (zi_n 0)) (ty := .int) (C := RX3) (T := TX3) (N := 5) hx hb hts (by decide +kernel) tyX3 tyX3_ok nmX3 hown hK hP hD hS 0 rfl rfl 4 (by decide) (hts (.fieldLink RX3 32 "ZHeads" "brokenRule" "I") (by decide +kernel)) (fun _ h9 => h9) rfl (by decide +kernel) rfl rfl (Nat.le_of_ble_eq_true rfl) dX3_init_48 (fun H locs hP hD hS => ?_)
  have hP : va_P D vwCl [(x, .inr (4, [.ref q, .ref q2, .ref hh, .int (zi_n 0), .int (zi_n 0)])), (q, .inr (3, [.ref a, .int (zi_n 0)])), (a, .inl (cA, 600, .inl (zi_F zi_Z))), (q2, .inr (3, [.ref a2, .int (zi_n 0)])), (a2, .inl (cB, 600, .inl (zi_F zi_Z))), (hh, .inr (2, [.ref q]))] H := hP
  have hD : va_D A [(x, .inr (4, [.ref q, .ref q2, .ref hh, .int (zi_n 0), .int (zi_n 0)])), (q, .inr (3, [.ref a, .int (zi_n 0)])), (a, .inl (cA, 600, .inl (zi_F zi_Z))), (q2, .inr (3, [.ref a2, .int (zi_n 0)])), (a2, .inl (cB, 600, .inl (zi_F zi_Z))), (hh, .inr (2, [.ref q]))] := hD
  have hP8 := hP.sub (ws' := [(x, .inr (4, [.ref q, .ref q2, .ref hh, .int (zi_n 0), .int (zi_n 0)])), (q, .inr (3, [.ref a, .int (zi_n 0)])), (q2, .inr (3, [.ref a2, .int (zi_n 0)])), (hh, .inr (2, [.ref q])), (a, .inl (cA, 600, .inl (zi_F zi_Z))), (a2, .inl (cB, 600, .inl (zi_F zi_Z)))]) [0, 1, 3, 5, 2, 4] rfl
  have hD8 := hD.sub (ws' := [(x, .inr (4, [.ref q, .ref q2, .ref hh, .int (zi_n 0), .int (zi_n 0)])), (q, .inr (3, [.ref a, .int (zi_n 0)])), (q2, .inr (3, [.ref a2, .int (zi_n 0)])), (hh, .inr (2, [.ref q])), (a, .inl (cA, 600, .inl (zi_F zi_Z))), (a2, .inl (cB, 600, .inl (zi_F zi_Z)))]) [0, 1, 3, 5, 2, 4] (by decide) rfl
  exact W.vret hx hb hr (fun t ht hW => ⟨⟨(q, q2, hh, a, a2, cA, cB), rfl, trivial, by rw [ht]; exact hP8, va_K.moved hW.alike hK, hD8⟩, hS.F ht⟩) hS.2.2 dX3_init_51

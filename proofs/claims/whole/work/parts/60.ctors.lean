/-! The constructors. -/
def zi_Z : Nat → Int := fun _ => 0
theorem zi_Z_By : zi_By zi_Z := fun _ => by unfold zi_Z; omega
theorem zi_600 : ¬ zi_n 600 < 0 := by
  rw [zi_0, zi_lt (by decide) zi_z]
  decide
theorem zi_600n : (zi_n 600).toNatClampNeg = 600 := zi_cl (by decide) (by decide)
theorem zi_600b : 600 * componentBytes .int ≤ 536870912 := by decide
theorem zi_Z_cell : ∀ cA : ClassId, vp_cell cA (600, .inl (zi_F zi_Z)) = arrV cA 600 (fun _ => defaultValue .int) := fun cA => by
  rw [vp_cell_i]
  exact congrArg (arrV cA 600) (funext fun _ => rfl)
set_option maxHeartbeats 4000000 in
set_option maxRecDepth 100000 in
theorem c_Row_init (l : Launch) (D : va_G) (q : Nat) (sz : Nat) : Met l yX2_init wsX2_init ({ frames := 1, cells := 1, slots := 600, locals := 40 }) (va_Pc [.ref q] (zp_P D vwCl sz [(q, .inr (3, [.null, .int (zi_n 0)]))] [])) (va_Qv (fun (u : Nat × ClassId) => True) (fun u => zp_B D vwCl [(u.2, .int)] (va_A [(q, .inr (3, [.null, .int (zi_n 0)]))] sz) [(q, .inr (3, [.ref u.1, .int (zi_n 0)])), (u.1, .inl (u.2, 600, .inl (zi_F zi_Z)))]) (va_A [(q, .inr (3, [.null, .int (zi_n 0)]))] sz)) 1 600 (va_A [(q, .inr (3, [.null, .int (zi_n 0)]))] sz) := by
  refine Met.ofW (cc := cX2_init) (maxL := 1) (ret := none) (by decide) rfl ?_
  intro p e s m args below meth c s₁ B hml hv
  obtain ⟨rfl, hsz, hP, hK, hD0⟩ := hv
  have hx := B.exec
  have hb := B.bytes
  have hr := B.returns
  have hts := atoms_spec (ws := wsX2_init) B.pre
  have hown : s.vm.findClass RX2 = some m.cls := findClass_of_methodNamed B.named
  have hlocks := B.notSynchronized
  have hin : meth.name = "<init>" := (name_of_methodNamed B.named B.method).1
  subst hsz
  have hD := hD0.self (sz := s.heap.size)
  generalize hAe : va_A [(q, .inr (3, [.null, .int (zi_n 0)]))] s.heap.size = A at hD ⊢
  have hA : ∀ q : Nat, s.heap.size ≤ q → A q := fun q h => by rw [← hAe]; exact Or.inr h
  have hS : va_S A s.heap s.heap [] := va_S.rf
  have hP : va_P D vwCl [(q, .inr (3, [.null, .int (zi_n 0)]))] s.heap := hP
  have hl := lv_entry ([.ref q]) (n := 1) (Nat.le_of_ble_eq_true rfl)
  rw [lg_entry_eq]
  generalize (lg_sl ([.ref q]) ++ List.replicate (1 - (lg_sl ([.ref q])).length) Slot.unset).toArray = ls at hl ⊢
  have hl : lv_has ls 1 [(0, .ref q)] := hl
  refine lv_aload_n hx hb dX2_init_0 rfl (lv_at hl 0 rfl) ?_
  refine W.objInit hx hb hown (hts (.methodLink RX2 3 objectInit) (by decide +kernel)) (hts (.instanceMethod objectInit) (by decide +kernel)) (hts (.code objectInit ⟨#[0xb1]⟩ 1 none) (by decide +kernel)) rfl (by rw [hml]; exact hl.1) rfl dX2_init_1 (Nat.le_of_ble_eq_true rfl) (Nat.le_of_ble_eq_true rfl) ?_
  refine W.eq (g2 := F0 m 4 ls []) rfl ?_
  refine lv_aload_n hx hb dX2_init_4 rfl (lv_at hl 0 rfl) ?_
  refine zr_sipush hx hb dX2_init_5 (by decide) ?_
  refine va_newa (atype := .int) (N' := 600) (n := zi_n 600) (a0 := (600, .inl (zi_F zi_Z))) (ty := .int) hx hb (hts (.arrayClass .int) (by decide +kernel)) rfl hK hP hD hS hA zi_Z_cell zi_600 zi_600n zi_600b (Nat.le_of_ble_eq_true rfl) (Nat.le_of_ble_eq_true rfl) dX2_init_8 (fun a1 cA1 H hK hP hD hS => ?_)
  have hP : va_P D vwCl [(q, .inr (3, [.null, .int (zi_n 0)])), (a1, .inl (cA1, 600, .inl (zi_F zi_Z)))] H := hP
  have hD : va_D A [(q, .inr (3, [.null, .int (zi_n 0)])), (a1, .inl (cA1, 600, .inl (zi_F zi_Z)))] := hD
  have hK : va_K D vwCl [(cA1, .int)] s := hK
  refine W.widen (k := 1) (n := 600) (by omega) (by omega) ?_
  refine va_putF (D := D) (ci := 3) (v := .ref a1) (ty := .array .int) (C := RX2) (T := TX2) (N := 2) hx hb hts (by decide +kernel) tyX2 tyX2_ok nmX2 hown hK hP hD hS 0 rfl rfl 0 (by decide) (hts (.fieldLink RX2 9 "ZHeads$Row" "cells" "[I") (by decide +kernel)) (fun _ h9 => h9) rfl hin rfl (by decide +kernel) rfl rfl (Nat.le_of_ble_eq_true rfl) dX2_init_10 (fun H locs hP hD hS => ?_)
  have hP : va_P D vwCl [(q, .inr (3, [.ref a1, .int (zi_n 0)])), (a1, .inl (cA1, 600, .inl (zi_F zi_Z)))] H := hP
  have hD : va_D A [(q, .inr (3, [.ref a1, .int (zi_n 0)])), (a1, .inl (cA1, 600, .inl (zi_F zi_Z)))] := hD
  refine lv_aload_n hx hb dX2_init_13 rfl (lv_at hl 0 rfl) ?_
  refine zr_iconst hx hb dX2_init_14 ?_
  refine va_put (D := D) (ci := 3) (v := .int (zi_n 0)) (ty := .int) (C := RX2) (T := TX2) (N := 2) hx hb hts (by decide +kernel) tyX2 tyX2_ok nmX2 hown hK hP hD hS 0 rfl rfl 1 (by decide) (hts (.fieldLink RX2 15 "ZHeads$Row" "count" "I") (by decide +kernel)) (fun _ h9 => h9) rfl (by decide +kernel) rfl rfl (Nat.le_of_ble_eq_true rfl) dX2_init_15 (fun H locs hP hD hS => ?_)
  have hP : va_P D vwCl [(q, .inr (3, [.ref a1, .int (zi_n 0)])), (a1, .inl (cA1, 600, .inl (zi_F zi_Z)))] H := hP
  have hD : va_D A [(q, .inr (3, [.ref a1, .int (zi_n 0)])), (a1, .inl (cA1, 600, .inl (zi_F zi_Z)))] := hD
  have hP9 : va_P D vwCl [(q, .inr (3, [.ref a1, .int (zi_n 0)])), (a1, .inl (cA1, 600, .inl (zi_F zi_Z)))] H := hP
  have hD9 : va_D A [(q, .inr (3, [.ref a1, .int (zi_n 0)])), (a1, .inl (cA1, 600, .inl (zi_F zi_Z)))] := hD
  have hK9 : va_K D vwCl [(cA1, .int)] s := hK
  exact W.vret hx hb hr (fun t ht hW => ⟨⟨(a1, cA1), rfl, trivial, by rw [ht]; exact hP9, va_K.moved hW.alike hK9, hD9⟩, hS.F ht⟩) hS.2.2 dX2_init_18

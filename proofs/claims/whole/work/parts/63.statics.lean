section Rows
variable {p : Program} {l : Launch} {e : Env} {R : Room} {s : State} {m : MethodId} {args : Array Value} {below : List Frame} {meth : Method} {c : Code} {H : Heap} {locs : List Loc} {cells slots : Nat} {Q : State → Prop}
variable {mc ms : Nat} {free : Addr → Prop} {A0 A1 : Nat → Prop} {H0 : Heap} {a : Array Value} {pc : Nat} {ls : Array Slot} {st0 rest : List Value}
/-- caught by the row x of this method's table; the rows ahead don't take it -/
theorem vx_catch {own name : String} {E : String} {ce : Cell} {q : Addr} (hown : s.vm.findClass own = some m.cls) (pre : List ExceptionTableEntry) (x : ExceptionTableEntry) (suf : List ExceptionTableEntry) (hsplit : c.exceptionTable.toList = pre ++ x :: suf)
    (hpass : ∀ z ∈ pre, covers z pc = false ∨ (z.catchType ≠ 0 ∧ ∃ nm : String, (Cond.classLink own z.catchType nm).before args s = true ∧ va_Nc E nm s)) (hx : covers x pc = true) (h0 : x.catchType ≠ 0)
    (hlink : (Cond.classLink own x.catchType name).before args s = true) (hcast : (Cond.castable E name).before args s = true) (hcell : H[q]? = some ce) (hv : ce.vm = .none) (hcl : s.vm.findClass E = some ce.cls)
    (kk : W p l e R s m args below meth c H locs cells slots Q (F0 m x.handlerPc ls [.ref q])) : vx_W p l e R s m args below meth c H locs cells slots Q (F0 m pc ls rest) q := by
  intro T hT X
  have hpl : e.platform.magicAccessors = ({} : Platform).magicAccessors := by rw [X.admits.platform]
  obtain ⟨c3, c4, hc3, hc4, hasg⟩ := Cond.castable_spec hcast
  cases Option.some.inj (hc3.symm.trans hcl)
  obtain ⟨c5, hc5, hcl5⟩ := Cond.classLink_spec hown hlink e.platform hpl
  cases Option.some.inj (hc4.symm.trans hc5)
  obtain ⟨vm', X', st⟩ := X.thenCaughtThrough q (g := F0 m pc ls rest) rfl (Steps.refl _) (by rw [hT]; exact hcell) (by rw [hv]; rfl) (by obtain ⟨k9, h9, -⟩ := Vm.findClass_spec hcl; exact ⟨k9, h9⟩) pre x suf hsplit
    (fun z hz => by
      rcases hpass z hz with h | ⟨hz0, nm, hl1, hn1⟩
      · exact Or.inl h
      · obtain ⟨c6, hc6, hcl6⟩ := Cond.classLink_spec hown hl1 e.platform hpl
        obtain ⟨a8, b8, h1, h2, h3⟩ := hn1
        cases Option.some.inj (h1.symm.trans hcl)
        cases Option.some.inj (h2.symm.trans hc6)
        exact Or.inr ⟨hz0, _, hcl6, h3⟩) hx (Or.inr ⟨h0, c4, hcl5, hasg⟩)
  obtain ⟨t, a1, b1⟩ := kk (T.setVm vm') hT X'
  exact ⟨t, st.trans a1, b1⟩
end Rows
theorem zg_ext {own C : String} {idx : Nat} {y : MethodName} {cd ml hd : Cond} {wsL wsX : List Cond} (g : GoodIn wsL (wsV own idx C y wsX)) (hc : cd ∈ wsX) (hm : goodWord ml = true) : GoodIn (hd :: ml :: wsL) (wsV own idx C y (cd :: ml :: wsX)) := by
  intro w hw
  have lift : w ∈ wsV own idx C y wsX → w ∈ hd :: ml :: wsL ∧ ((w.onTables && w.keeps) = true ∨ ∃ ty, w = .arrayClass ty) := fun h => ⟨List.mem_cons_of_mem _ (List.mem_cons_of_mem _ (g w h).1), (g w h).2⟩
  unfold wsV at hw
  rcases List.mem_append.mp hw with h | h
  · exact lift (List.mem_append_left _ h)
  · rcases List.mem_cons.mp h with h | h
    · exact lift (List.mem_append_right _ (by rw [h]; exact hc))
    · rcases List.mem_cons.mp h with h | h
      · rw [h]; exact ⟨List.mem_cons_of_mem _ List.mem_cons_self, good_of_word hm⟩
      · exact lift (List.mem_append_right _ h)
theorem zg_extS {own : String} {idx : Nat} {y : MethodName} {cd ml : Cond} {wsL wsX : List Cond} (g : GoodIn wsL (va_wsS own idx y wsX)) (hc : cd ∈ wsX) (hm : goodWord ml = true) : GoodIn (ml :: wsL) (va_wsS own idx y (cd :: ml :: wsX)) := by
  intro w hw
  have lift : w ∈ va_wsS own idx y wsX → w ∈ ml :: wsL ∧ ((w.onTables && w.keeps) = true ∨ ∃ ty, w = .arrayClass ty) := fun h => ⟨List.mem_cons_of_mem _ (g w h).1, (g w h).2⟩
  unfold va_wsS at hw
  rcases List.mem_append.mp hw with h | h
  · exact lift (List.mem_append_left _ h)
  · rcases List.mem_cons.mp h with h | h
    · exact lift (List.mem_append_right _ (by rw [h]; exact hc))
    · rcases List.mem_cons.mp h with h | h
      · rw [h]; exact ⟨List.mem_cons_self, good_of_word hm⟩
      · exact lift (List.mem_append_right _ h)
set_option maxHeartbeats 4000000 in
set_option maxRecDepth 100000 in
theorem c_L_serial (l : Launch) (D : va_G) (x q q2 hh a a2 : Nat) (cA cB : ClassId) (F G : Nat → Int) (n k rd br : Int) (hF : zi_By F) (hn : 0 ≤ n ∧ n ≤ 600) (hG : zi_By G) (hk : 0 ≤ k ∧ k ≤ 600) (hrd : rd = 0 ∨ rd = 1) (hbr : 0 ≤ br ∧ br ≤ 15) (o : Nat) (cO : ClassId) (f : Nat → Int64) (sz : Nat) (p0 : Int) (hR : rd = 1 → (64 ≤ n ∧ k = n) ∧ (1 ≤ F 0 ∧ F 0 ≤ 8) ∧ (64 ≤ zh_len F n ∧ zh_len F n ≤ n) ∧ (64 ≤ zh_t F 14 ∧ zh_t F 14 ≤ zh_len F n) ∧ (64 ≤ zh_t F 12 ∧ zh_t F 12 + 480 ≤ zh_t F 14) ∧ (64 ≤ zh_t F 8 ∧ 0 ≤ zh_sg F n ∧ 4 ≤ zh_eb F n)) (hp : rd = 0 ∨ (0 ≤ p0 ∧ p0 ≤ 5)) : Met l yL_serial wsL_serial ({ frames := 2, cells := 0, slots := 0, locals := 42 }) (va_Pc [.ref x, .int (zi_n p0), .ref o] (zp_P D vwCl sz [(x, .inr (4, [.ref q, .ref q2, .ref hh, .int (zi_n rd), .int (zi_n br)])), (q, .inr (3, [.ref a, .int (zi_n n)])), (q2, .inr (3, [.ref a2, .int (zi_n k)])), (hh, .inr (2, [.ref q])), (a, .inl (cA, 600, .inl (zi_F F))), (a2, .inl (cB, 600, .inl (zi_F G))), (o, .inl (cO, 1, .inr (.inl f)))] [(cA, .int), (cB, .int), (cO, .long)])) (va_Qi (fun (r : Int32) (_ : Unit) => r = zi_n 0 ∧ -11 ≤ zh_serE G k rd p0 ∧ zh_serE G k rd p0 ≤ 255) (fun _ => zp_B D vwCl [(cA, .int), (cB, .int), (cO, .long)] (va_A [(x, .inr (4, [.ref q, .ref q2, .ref hh, .int (zi_n rd), .int (zi_n br)])), (q, .inr (3, [.ref a, .int (zi_n n)])), (q2, .inr (3, [.ref a2, .int (zi_n k)])), (hh, .inr (2, [.ref q])), (a, .inl (cA, 600, .inl (zi_F F))), (a2, .inl (cB, 600, .inl (zi_F G))), (o, .inl (cO, 1, .inr (.inl f)))] sz) [(x, .inr (4, [.ref q, .ref q2, .ref hh, .int (zi_n rd), .int (zi_n br)])), (q, .inr (3, [.ref a, .int (zi_n n)])), (q2, .inr (3, [.ref a2, .int (zi_n k)])), (hh, .inr (2, [.ref q])), (a, .inl (cA, 600, .inl (zi_F F))), (a2, .inl (cB, 600, .inl (zi_F G))), (o, .inl (cO, 1, .inr (.inl (vp_updL f 0 (zi_n (zh_serE G k rd p0)).toInt64))))]) (va_A [(x, .inr (4, [.ref q, .ref q2, .ref hh, .int (zi_n rd), .int (zi_n br)])), (q, .inr (3, [.ref a, .int (zi_n n)])), (q2, .inr (3, [.ref a2, .int (zi_n k)])), (hh, .inr (2, [.ref q])), (a, .inl (cA, 600, .inl (zi_F F))), (a2, .inl (cB, 600, .inl (zi_F G))), (o, .inl (cO, 1, .inr (.inl f)))] sz)) 0 0 (va_A [(x, .inr (4, [.ref q, .ref q2, .ref hh, .int (zi_n rd), .int (zi_n br)])), (q, .inr (3, [.ref a, .int (zi_n n)])), (q2, .inr (3, [.ref a2, .int (zi_n k)])), (hh, .inr (2, [.ref q])), (a, .inl (cA, 600, .inl (zi_F F))), (a2, .inl (cB, 600, .inl (zi_F G))), (o, .inl (cO, 1, .inr (.inl f)))] sz) := by
  refine va_MetW (cc := cL_serial) (maxL := 4) (ret := some .int) (hh := [(0, 9, 12, 13)]) (by decide) rfl ?_
  intro p e s m args below meth c s₁ B hml hv
  obtain ⟨rfl, hsz, hP, hK, hD0⟩ := hv
  have hx := B.exec
  have hb := B.bytes
  have hr := B.returns
  have hts0 := atoms_spec (ws := wsL_serial) B.pre
  have hown : s.vm.findClass RL = some m.cls := findClass_of_methodNamed B.named
  subst hsz
  have hD := hD0.self (sz := s.heap.size)
  generalize hAe : va_A [(x, .inr (4, [.ref q, .ref q2, .ref hh, .int (zi_n rd), .int (zi_n br)])), (q, .inr (3, [.ref a, .int (zi_n n)])), (q2, .inr (3, [.ref a2, .int (zi_n k)])), (hh, .inr (2, [.ref q])), (a, .inl (cA, 600, .inl (zi_F F))), (a2, .inl (cB, 600, .inl (zi_F G))), (o, .inl (cO, 1, .inr (.inl f)))] s.heap.size = A at hD ⊢
  have hA : ∀ q : Nat, s.heap.size ≤ q → A q := fun q h => by rw [← hAe]; exact Or.inr h
  have hS : va_S A s.heap s.heap [] := va_S.rf
  have hP : va_P D vwCl [(x, .inr (4, [.ref q, .ref q2, .ref hh, .int (zi_n rd), .int (zi_n br)])), (q, .inr (3, [.ref a, .int (zi_n n)])), (q2, .inr (3, [.ref a2, .int (zi_n k)])), (hh, .inr (2, [.ref q])), (a, .inl (cA, 600, .inl (zi_F F))), (a2, .inl (cB, 600, .inl (zi_F G))), (o, .inl (cO, 1, .inr (.inl f)))] s.heap := hP
  have hl := lv_entry ([.ref x, .int (zi_n p0), .ref o]) (n := 4) (Nat.le_of_ble_eq_true rfl)
  rw [lg_entry_eq]
  generalize (lg_sl ([.ref x, .int (zi_n p0), .ref o]) ++ List.replicate (4 - (lg_sl ([.ref x, .int (zi_n p0), .ref o])).length) Slot.unset).toArray = ls at hl ⊢
  have hl : lv_has ls 4 [(0, .ref x), (1, .int (zi_n p0)), (2, .ref o)] := hl
  refine lv_aload_n hx hb dL_serial_0 rfl (lv_at hl 2 rfl) ?_
  refine zr_iconst hx hb dL_serial_1 ?_
  refine lv_aload_n hx hb dL_serial_2 rfl (lv_at hl 0 rfl) ?_
  refine lv_iload_n hx hb dL_serial_3 rfl (lv_at hl 1 rfl) ?_
  refine zc_V (As := [.int (zi_n p0)]) (rest := [.int (zi_n 0), .ref o]) ⟨hx, hb, hml, hown, hts0⟩ (c_Z_serial l D x q q2 hh a a2 cA cB F G n k rd br hF hn hG hk hrd hbr p0 hR hp) (cwV 1 hts0 gL_serial_X3_serial rfl rfl rfl (by decide +kernel) ⟨(Nat.le_of_ble_eq_true rfl), (Nat.le_of_ble_eq_true rfl)⟩) hP hK [0, 1, 2, 3, 4, 5] [0, 1] rfl rfl (ci := 4) rfl rfl rfl rfl hl.1 rfl (Nat.le_of_ble_eq_true rfl) dL_serial_4 ⟨Nat.zero_le _, Nat.zero_le _⟩ (fun r hr1 => ?_)
  obtain ⟨rfl, hE⟩ := hr1
  refine lv_i2l hx hb dL_serial_7 rfl ?_
  refine va_last hx hb hK hP hD hS 6 2 rfl rfl (zi_in (a := 0) ⟨by decide, by decide⟩ (by decide)) dL_serial_8 (fun H locs hP hD hS => ?_)
  have hP : va_P D vwCl [(x, .inr (4, [.ref q, .ref q2, .ref hh, .int (zi_n rd), .int (zi_n br)])), (q, .inr (3, [.ref a, .int (zi_n n)])), (q2, .inr (3, [.ref a2, .int (zi_n k)])), (hh, .inr (2, [.ref q])), (a, .inl (cA, 600, .inl (zi_F F))), (a2, .inl (cB, 600, .inl (zi_F G))), (o, .inl (cO, 1, .inr (.inl (vp_updL f 0 (zi_n (zh_serE G k rd p0)).toInt64))))] H := hP
  have hD : va_D A [(x, .inr (4, [.ref q, .ref q2, .ref hh, .int (zi_n rd), .int (zi_n br)])), (q, .inr (3, [.ref a, .int (zi_n n)])), (q2, .inr (3, [.ref a2, .int (zi_n k)])), (hh, .inr (2, [.ref q])), (a, .inl (cA, 600, .inl (zi_F F))), (a2, .inl (cB, 600, .inl (zi_F G))), (o, .inl (cO, 1, .inr (.inl (vp_updL f 0 (zi_n (zh_serE G k rd p0)).toInt64))))] := hD
  refine lv_goto (tgt := 15) hx hb dL_serial_9 (by decide) ?_
  refine zr_iconst hx hb dL_serial_15 ?_
  exact W.iret (v := zi_n 0) hx hb hr (fun t ht hW => ⟨⟨zi_n 0, (), rfl, ⟨rfl, hE⟩, by rw [ht]; exact hP, va_K.moved hW.alike hK, hD⟩, hS.F ht⟩) hS.2.2 dL_serial_16
def wtL_serial : List Cond := .codeWith yL_serial cL_serial 4 (some .int) [(0, 9, 12, 13)] :: .methodLink RX3 90 (Bundle.initS RJx00060) :: wsL_serial
theorem gtL_serial : GoodIn wtL_serial (wsV RL 7 RX3 yX3_serial wtX3_serial) := zg_ext gL_serial_X3_serial List.mem_cons_self rfl
theorem gtL_law_serial : GoodIn (.methodLink RX3 90 (Bundle.initS RJx00060) :: wsL_law) (va_wsS RL 75 yL_serial wtL_serial) := zg_extS gL_law_L_serial List.mem_cons_self rfl
set_option maxHeartbeats 4000000 in
set_option maxRecDepth 100000 in
theorem t_L_serial (l : Launch) (htr : l.stackTraces = false) (D : va_G) (x q q2 hh a a2 : Nat) (cA cB : ClassId) (F G : Nat → Int) (n k rd br : Int) (hF : zi_By F) (hn : 0 ≤ n ∧ n ≤ 600) (hG : zi_By G) (hk : 0 ≤ k ∧ k ≤ 600) (hrd : rd = 0 ∨ rd = 1) (hbr : 0 ≤ br ∧ br ≤ 15) (o : Nat) (cO : ClassId) (f : Nat → Int64) (sz : Nat) (p0 : Int) (hR : rd = 1 → (64 ≤ n ∧ k = n) ∧ (1 ≤ F 0 ∧ F 0 ≤ 8) ∧ (64 ≤ zh_len F n ∧ zh_len F n ≤ n) ∧ (64 ≤ zh_t F 14 ∧ zh_t F 14 ≤ zh_len F n) ∧ (64 ≤ zh_t F 12 ∧ zh_t F 12 + 480 ≤ zh_t F 14) ∧ (64 ≤ zh_t F 8 ∧ 0 ≤ zh_sg F n ∧ 4 ≤ zh_eb F n))  (rp0 : zi_R p0) (hp : rd = 1 ∧ (¬ (0 ≤ p0 ∧ p0 ≤ 5))) (sa : Nat) : Met l yL_serial wtL_serial ({ frames := 8, cells := 1, slots := 6, locals := 116 }) (va_Pc [.ref x, .int (zi_n p0), .ref o] (zp_X D vwCl sz [(x, .inr (4, [.ref q, .ref q2, .ref hh, .int (zi_n rd), .int (zi_n br)])), (q, .inr (3, [.ref a, .int (zi_n n)])), (q2, .inr (3, [.ref a2, .int (zi_n k)])), (hh, .inr (2, [.ref q])), (a, .inl (cA, 600, .inl (zi_F F))), (a2, .inl (cB, 600, .inl (zi_F G))), (o, .inl (cO, 1, .inr (.inl f)))] [(cA, .int), (cB, .int), (cO, .long)] zn_A 88 "the serial has bytes 0 to 5" sa)) (va_Qi (fun (r : Int32) (_ : Unit) => r = zi_n 1) (fun _ => zp_B D vwCl [(cA, .int), (cB, .int), (cO, .long)] (va_A [(x, .inr (4, [.ref q, .ref q2, .ref hh, .int (zi_n rd), .int (zi_n br)])), (q, .inr (3, [.ref a, .int (zi_n n)])), (q2, .inr (3, [.ref a2, .int (zi_n k)])), (hh, .inr (2, [.ref q])), (a, .inl (cA, 600, .inl (zi_F F))), (a2, .inl (cB, 600, .inl (zi_F G))), (o, .inl (cO, 1, .inr (.inl f)))] sz) [(x, .inr (4, [.ref q, .ref q2, .ref hh, .int (zi_n rd), .int (zi_n br)])), (q, .inr (3, [.ref a, .int (zi_n n)])), (q2, .inr (3, [.ref a2, .int (zi_n k)])), (hh, .inr (2, [.ref q])), (a, .inl (cA, 600, .inl (zi_F F))), (a2, .inl (cB, 600, .inl (zi_F G))), (o, .inl (cO, 1, .inr (.inl f)))]) (va_A [(x, .inr (4, [.ref q, .ref q2, .ref hh, .int (zi_n rd), .int (zi_n br)])), (q, .inr (3, [.ref a, .int (zi_n n)])), (q2, .inr (3, [.ref a2, .int (zi_n k)])), (hh, .inr (2, [.ref q])), (a, .inl (cA, 600, .inl (zi_F F))), (a2, .inl (cB, 600, .inl (zi_F G))), (o, .inl (cO, 1, .inr (.inl f)))] sz)) 1 6 (va_A [(x, .inr (4, [.ref q, .ref q2, .ref hh, .int (zi_n rd), .int (zi_n br)])), (q, .inr (3, [.ref a, .int (zi_n n)])), (q2, .inr (3, [.ref a2, .int (zi_n k)])), (hh, .inr (2, [.ref q])), (a, .inl (cA, 600, .inl (zi_F F))), (a2, .inl (cB, 600, .inl (zi_F G))), (o, .inl (cO, 1, .inr (.inl f)))] sz) := by
  refine va_MetW (cc := cL_serial) (maxL := 4) (ret := some .int) (hh := [(0, 9, 12, 13)]) (by decide) rfl ?_
  intro p e s m args below meth c s₁ B hml hv
  obtain ⟨rfl, ⟨hsz, hP, hK, hD0⟩, hca, hstr, hZU, hZN⟩ := hv
  have hx := B.exec
  have hb := B.bytes
  have hr := B.returns
  have hts0 := atoms_spec (ws := wtL_serial) B.pre
  have hown : s.vm.findClass RL = some m.cls := findClass_of_methodNamed B.named
  subst hsz
  have hD := hD0.self (sz := s.heap.size)
  generalize hAe : va_A [(x, .inr (4, [.ref q, .ref q2, .ref hh, .int (zi_n rd), .int (zi_n br)])), (q, .inr (3, [.ref a, .int (zi_n n)])), (q2, .inr (3, [.ref a2, .int (zi_n k)])), (hh, .inr (2, [.ref q])), (a, .inl (cA, 600, .inl (zi_F F))), (a2, .inl (cB, 600, .inl (zi_F G))), (o, .inl (cO, 1, .inr (.inl f)))] s.heap.size = A at hD hZU hZN ⊢
  have hA : ∀ q : Nat, s.heap.size ≤ q → A q := fun q h => by rw [← hAe]; exact Or.inr h
  have hS : va_S A s.heap s.heap [] := va_S.rf
  have hP : va_P D vwCl [(x, .inr (4, [.ref q, .ref q2, .ref hh, .int (zi_n rd), .int (zi_n br)])), (q, .inr (3, [.ref a, .int (zi_n n)])), (q2, .inr (3, [.ref a2, .int (zi_n k)])), (hh, .inr (2, [.ref q])), (a, .inl (cA, 600, .inl (zi_F F))), (a2, .inl (cB, 600, .inl (zi_F G))), (o, .inl (cO, 1, .inr (.inl f)))] s.heap := hP
  have hl := lv_entry ([.ref x, .int (zi_n p0), .ref o]) (n := 4) (Nat.le_of_ble_eq_true rfl)
  rw [lg_entry_eq]
  generalize (lg_sl ([.ref x, .int (zi_n p0), .ref o]) ++ List.replicate (4 - (lg_sl ([.ref x, .int (zi_n p0), .ref o])).length) Slot.unset).toArray = ls at hl ⊢
  have hl : lv_has ls 4 [(0, .ref x), (1, .int (zi_n p0)), (2, .ref o)] := hl
  have hts : ∀ w ∈ wsL_serial, w.before (([.ref x, .int (zi_n p0), .ref o] : List Value).toArray) s = true := fun w h => hts0 w (List.mem_cons_of_mem _ (List.mem_cons_of_mem _ h))
  have htab : c.exceptionTable.toList = [] ++ ⟨0, 9, 12, 13⟩ :: [] := (vx_table (x := yL_serial) (hh := [(0, 9, 12, 13)]) B (hts0 _ List.mem_cons_self)).trans rfl
  refine lv_aload_n hx hb dL_serial_0 rfl (lv_at hl 2 rfl) ?_
  refine zr_iconst hx hb dL_serial_1 ?_
  refine lv_aload_n hx hb dL_serial_2 rfl (lv_at hl 0 rfl) ?_
  refine lv_iload_n hx hb dL_serial_3 rfl (lv_at hl 1 rfl) ?_
  have hPc := hP.sub (ws' := [(x, .inr (4, [.ref q, .ref q2, .ref hh, .int (zi_n rd), .int (zi_n br)])), (q, .inr (3, [.ref a, .int (zi_n n)])), (q2, .inr (3, [.ref a2, .int (zi_n k)])), (hh, .inr (2, [.ref q])), (a, .inl (cA, 600, .inl (zi_F F))), (a2, .inl (cB, 600, .inl (zi_F G)))]) [0, 1, 2, 3, 4, 5] rfl
  have hDc := hD.sub (ws' := [(x, .inr (4, [.ref q, .ref q2, .ref hh, .int (zi_n rd), .int (zi_n br)])), (q, .inr (3, [.ref a, .int (zi_n n)])), (q2, .inr (3, [.ref a2, .int (zi_n k)])), (hh, .inr (2, [.ref q])), (a, .inl (cA, 600, .inl (zi_F F))), (a2, .inl (cB, 600, .inl (zi_F G)))]) [0, 1, 2, 3, 4, 5] (by decide) rfl
  have hKc := hK.sub (tys' := [(cA, .int), (cB, .int)]) [0, 1] rfl
  have hFc := va_free (wc := [(x, .inr (4, [.ref q, .ref q2, .ref hh, .int (zi_n rd), .int (zi_n br)])), (q, .inr (3, [.ref a, .int (zi_n n)])), (q2, .inr (3, [.ref a2, .int (zi_n k)])), (hh, .inr (2, [.ref q])), (a, .inl (cA, 600, .inl (zi_F F))), (a2, .inl (cB, 600, .inl (zi_F G)))]) hD hS hA [0, 1, 2, 3, 4, 5] rfl
  refine vx_calli (vx_runV (As := [.int (zi_n p0)]) (rest := [.int (zi_n 0), .ref o]) ⟨hx, hb, hml, hown, hts0⟩ (t_Z_serial l htr D x q q2 hh a a2 cA cB F G n k rd br hF hn hG hk hrd hbr s.heap.size p0 hR rp0 hp sa) (cwV 1 hts0 gtL_serial rfl rfl rfl (by decide +kernel) ⟨(Nat.le_of_ble_eq_true rfl), (Nat.le_of_ble_eq_true rfl)⟩) ⟨zp_X_blind rfl, va_recv hKc hPc (ci := 4) (q0 := 0) rfl rfl, fun U hU hW => ⟨rfl, ⟨by rw [hU], by rw [hU]; exact hPc, va_K.moved hW.alike hKc, hDc.weaken (fun _ _ _ _ => trivial)⟩, zn_P_warm rfl hW hca, vk_R.warm hW hstr, by rw [hU]; exact vx_Zq.moved hW.alike (hZU.narrow hFc), by rw [hU]; exact vx_Zq.moved hW.alike (hZN.narrow hFc)⟩⟩ rfl rfl hl.1 rfl (lv_room (Nat.le_of_ble_eq_true rfl)) dL_serial_4 ⟨(Nat.le_of_ble_eq_true rfl), (Nat.le_of_ble_eq_true rfl)⟩) hS (fun _ _ h => h.elim) hFc (fun q h1 h2 => absurd h1 (Nat.not_lt.mpr h2)) (fun E ce q9 u t H1 locs1 ht hal hpx hBX hz1 hk1 hS1 hc9 hv9 hcl9 => ?_) (fun r u t H1 locs1 ht hal hp9 => hp9.elim)
  subst hBX
  have hP1 := hP.kept (fun k x hx9 => hk1 x.1 ((hP k x hx9).lt) (Nat.not_le.mpr ((hP k x hx9).lt)))
  refine vx_catch (own := RL) (name := RJx00060) hown [] ⟨0, 9, 12, 13⟩ [] htab (fun z hz => nomatch hz) (by decide) (by decide) (hts (.classLink RL 13 RJx00060) (by decide +kernel)) (va_Nw.use rfl (hca _ List.mem_cons_self)) hc9 hv9 hcl9 ?_
  refine W.eq (g2 := F0 m 12 ls [.ref q9]) rfl ?_
  refine W.widen (k := 1) (n := 6) (by decide) (by decide) ?_
  refine lv_astore_n (lv' := [(3, .ref q9), (0, .ref x), (1, .int (zi_n p0)), (2, .ref o)]) hx hb dL_serial_12 rfl hl (by decide) rfl (fun ls hl => ?_)
  refine zr_iconst hx hb dL_serial_13 ?_
  exact W.iret (v := zi_n 1) hx hb hr (fun t ht hW => ⟨⟨zi_n 1, (), rfl, rfl, by rw [ht]; exact hP1, va_K.moved hW.alike hK, hD⟩, hS1.F ht⟩) hS1.2.2 dL_serial_14
set_option maxHeartbeats 4000000 in
set_option maxRecDepth 100000 in
theorem c_L_global (l : Launch) (D : va_G) (x q q2 hh a a2 : Nat) (cA cB : ClassId) (F G : Nat → Int) (n k rd br : Int) (hF : zi_By F) (hn : 0 ≤ n ∧ n ≤ 600) (hG : zi_By G) (hk : 0 ≤ k ∧ k ≤ 600) (hrd : rd = 0 ∨ rd = 1) (hbr : 0 ≤ br ∧ br ≤ 15) (o : Nat) (cO : ClassId) (f : Nat → Int64) (sz : Nat) (p0 : Int) (hR : rd = 1 → (64 ≤ n ∧ k = n) ∧ (1 ≤ F 0 ∧ F 0 ≤ 8) ∧ (64 ≤ zh_len F n ∧ zh_len F n ≤ n) ∧ (64 ≤ zh_t F 14 ∧ zh_t F 14 ≤ zh_len F n) ∧ (64 ≤ zh_t F 12 ∧ zh_t F 12 + 480 ≤ zh_t F 14) ∧ (64 ≤ zh_t F 8 ∧ 0 ≤ zh_sg F n ∧ 4 ≤ zh_eb F n)) (hp : rd = 0 ∨ (0 ≤ p0 ∧ p0 ≤ 239)) : Met l yL_global wsL_global ({ frames := 3, cells := 0, slots := 0, locals := 62 }) (va_Pc [.ref x, .int (zi_n p0), .ref o] (zp_P D vwCl sz [(x, .inr (4, [.ref q, .ref q2, .ref hh, .int (zi_n rd), .int (zi_n br)])), (q, .inr (3, [.ref a, .int (zi_n n)])), (q2, .inr (3, [.ref a2, .int (zi_n k)])), (hh, .inr (2, [.ref q])), (a, .inl (cA, 600, .inl (zi_F F))), (a2, .inl (cB, 600, .inl (zi_F G))), (o, .inl (cO, 1, .inr (.inl f)))] [(cA, .int), (cB, .int), (cO, .long)])) (va_Qi (fun (r : Int32) (_ : Unit) => r = zi_n 0 ∧ -32768 ≤ zh_gloE F G k rd p0 ∧ zh_gloE F G k rd p0 ≤ 32767) (fun _ => zp_B D vwCl [(cA, .int), (cB, .int), (cO, .long)] (va_A [(x, .inr (4, [.ref q, .ref q2, .ref hh, .int (zi_n rd), .int (zi_n br)])), (q, .inr (3, [.ref a, .int (zi_n n)])), (q2, .inr (3, [.ref a2, .int (zi_n k)])), (hh, .inr (2, [.ref q])), (a, .inl (cA, 600, .inl (zi_F F))), (a2, .inl (cB, 600, .inl (zi_F G))), (o, .inl (cO, 1, .inr (.inl f)))] sz) [(x, .inr (4, [.ref q, .ref q2, .ref hh, .int (zi_n rd), .int (zi_n br)])), (q, .inr (3, [.ref a, .int (zi_n n)])), (q2, .inr (3, [.ref a2, .int (zi_n k)])), (hh, .inr (2, [.ref q])), (a, .inl (cA, 600, .inl (zi_F F))), (a2, .inl (cB, 600, .inl (zi_F G))), (o, .inl (cO, 1, .inr (.inl (vp_updL f 0 (zi_n (zh_gloE F G k rd p0)).toInt64))))]) (va_A [(x, .inr (4, [.ref q, .ref q2, .ref hh, .int (zi_n rd), .int (zi_n br)])), (q, .inr (3, [.ref a, .int (zi_n n)])), (q2, .inr (3, [.ref a2, .int (zi_n k)])), (hh, .inr (2, [.ref q])), (a, .inl (cA, 600, .inl (zi_F F))), (a2, .inl (cB, 600, .inl (zi_F G))), (o, .inl (cO, 1, .inr (.inl f)))] sz)) 0 0 (va_A [(x, .inr (4, [.ref q, .ref q2, .ref hh, .int (zi_n rd), .int (zi_n br)])), (q, .inr (3, [.ref a, .int (zi_n n)])), (q2, .inr (3, [.ref a2, .int (zi_n k)])), (hh, .inr (2, [.ref q])), (a, .inl (cA, 600, .inl (zi_F F))), (a2, .inl (cB, 600, .inl (zi_F G))), (o, .inl (cO, 1, .inr (.inl f)))] sz) := by
  refine va_MetW (cc := cL_global) (maxL := 4) (ret := some .int) (hh := [(0, 9, 12, 13)]) (by decide) rfl ?_
  intro p e s m args below meth c s₁ B hml hv
  obtain ⟨rfl, hsz, hP, hK, hD0⟩ := hv
  have hx := B.exec
  have hb := B.bytes
  have hr := B.returns
  have hts0 := atoms_spec (ws := wsL_global) B.pre
  have hown : s.vm.findClass RL = some m.cls := findClass_of_methodNamed B.named
  subst hsz
  have hD := hD0.self (sz := s.heap.size)
  generalize hAe : va_A [(x, .inr (4, [.ref q, .ref q2, .ref hh, .int (zi_n rd), .int (zi_n br)])), (q, .inr (3, [.ref a, .int (zi_n n)])), (q2, .inr (3, [.ref a2, .int (zi_n k)])), (hh, .inr (2, [.ref q])), (a, .inl (cA, 600, .inl (zi_F F))), (a2, .inl (cB, 600, .inl (zi_F G))), (o, .inl (cO, 1, .inr (.inl f)))] s.heap.size = A at hD ⊢
  have hA : ∀ q : Nat, s.heap.size ≤ q → A q := fun q h => by rw [← hAe]; exact Or.inr h
  have hS : va_S A s.heap s.heap [] := va_S.rf
  have hP : va_P D vwCl [(x, .inr (4, [.ref q, .ref q2, .ref hh, .int (zi_n rd), .int (zi_n br)])), (q, .inr (3, [.ref a, .int (zi_n n)])), (q2, .inr (3, [.ref a2, .int (zi_n k)])), (hh, .inr (2, [.ref q])), (a, .inl (cA, 600, .inl (zi_F F))), (a2, .inl (cB, 600, .inl (zi_F G))), (o, .inl (cO, 1, .inr (.inl f)))] s.heap := hP
  have hl := lv_entry ([.ref x, .int (zi_n p0), .ref o]) (n := 4) (Nat.le_of_ble_eq_true rfl)
  rw [lg_entry_eq]
  generalize (lg_sl ([.ref x, .int (zi_n p0), .ref o]) ++ List.replicate (4 - (lg_sl ([.ref x, .int (zi_n p0), .ref o])).length) Slot.unset).toArray = ls at hl ⊢
  have hl : lv_has ls 4 [(0, .ref x), (1, .int (zi_n p0)), (2, .ref o)] := hl
  refine lv_aload_n hx hb dL_global_0 rfl (lv_at hl 2 rfl) ?_
  refine zr_iconst hx hb dL_global_1 ?_
  refine lv_aload_n hx hb dL_global_2 rfl (lv_at hl 0 rfl) ?_
  refine lv_iload_n hx hb dL_global_3 rfl (lv_at hl 1 rfl) ?_
  refine zc_V (As := [.int (zi_n p0)]) (rest := [.int (zi_n 0), .ref o]) ⟨hx, hb, hml, hown, hts0⟩ (c_Z_global l D x q q2 hh a a2 cA cB F G n k rd br hF hn hG hk hrd hbr p0 hR hp) (cwV 1 hts0 gL_global_X3_global rfl rfl rfl (by decide +kernel) ⟨(Nat.le_of_ble_eq_true rfl), (Nat.le_of_ble_eq_true rfl)⟩) hP hK [0, 1, 2, 3, 4, 5] [0, 1] rfl rfl (ci := 4) rfl rfl rfl rfl hl.1 rfl (Nat.le_of_ble_eq_true rfl) dL_global_4 ⟨Nat.zero_le _, Nat.zero_le _⟩ (fun r hr1 => ?_)
  obtain ⟨rfl, hE⟩ := hr1
  refine lv_i2l hx hb dL_global_7 rfl ?_
  refine va_last hx hb hK hP hD hS 6 2 rfl rfl (zi_in (a := 0) ⟨by decide, by decide⟩ (by decide)) dL_global_8 (fun H locs hP hD hS => ?_)
  have hP : va_P D vwCl [(x, .inr (4, [.ref q, .ref q2, .ref hh, .int (zi_n rd), .int (zi_n br)])), (q, .inr (3, [.ref a, .int (zi_n n)])), (q2, .inr (3, [.ref a2, .int (zi_n k)])), (hh, .inr (2, [.ref q])), (a, .inl (cA, 600, .inl (zi_F F))), (a2, .inl (cB, 600, .inl (zi_F G))), (o, .inl (cO, 1, .inr (.inl (vp_updL f 0 (zi_n (zh_gloE F G k rd p0)).toInt64))))] H := hP
  have hD : va_D A [(x, .inr (4, [.ref q, .ref q2, .ref hh, .int (zi_n rd), .int (zi_n br)])), (q, .inr (3, [.ref a, .int (zi_n n)])), (q2, .inr (3, [.ref a2, .int (zi_n k)])), (hh, .inr (2, [.ref q])), (a, .inl (cA, 600, .inl (zi_F F))), (a2, .inl (cB, 600, .inl (zi_F G))), (o, .inl (cO, 1, .inr (.inl (vp_updL f 0 (zi_n (zh_gloE F G k rd p0)).toInt64))))] := hD
  refine lv_goto (tgt := 15) hx hb dL_global_9 (by decide) ?_
  refine zr_iconst hx hb dL_global_15 ?_
  exact W.iret (v := zi_n 0) hx hb hr (fun t ht hW => ⟨⟨zi_n 0, (), rfl, ⟨rfl, hE⟩, by rw [ht]; exact hP, va_K.moved hW.alike hK, hD⟩, hS.F ht⟩) hS.2.2 dL_global_16
def wtL_global : List Cond := .codeWith yL_global cL_global 4 (some .int) [(0, 9, 12, 13)] :: .methodLink RX3 90 (Bundle.initS RJx00060) :: wsL_global
theorem gtL_global : GoodIn wtL_global (wsV RL 15 RX3 yX3_global wtX3_global) := zg_ext gL_global_X3_global List.mem_cons_self rfl
theorem gtL_law_global : GoodIn (.methodLink RX3 90 (Bundle.initS RJx00060) :: wsL_law) (va_wsS RL 84 yL_global wtL_global) := zg_extS gL_law_L_global List.mem_cons_self rfl
set_option maxHeartbeats 4000000 in
set_option maxRecDepth 100000 in
theorem t_L_global (l : Launch) (htr : l.stackTraces = false) (D : va_G) (x q q2 hh a a2 : Nat) (cA cB : ClassId) (F G : Nat → Int) (n k rd br : Int) (hF : zi_By F) (hn : 0 ≤ n ∧ n ≤ 600) (hG : zi_By G) (hk : 0 ≤ k ∧ k ≤ 600) (hrd : rd = 0 ∨ rd = 1) (hbr : 0 ≤ br ∧ br ≤ 15) (o : Nat) (cO : ClassId) (f : Nat → Int64) (sz : Nat) (p0 : Int) (hR : rd = 1 → (64 ≤ n ∧ k = n) ∧ (1 ≤ F 0 ∧ F 0 ≤ 8) ∧ (64 ≤ zh_len F n ∧ zh_len F n ≤ n) ∧ (64 ≤ zh_t F 14 ∧ zh_t F 14 ≤ zh_len F n) ∧ (64 ≤ zh_t F 12 ∧ zh_t F 12 + 480 ≤ zh_t F 14) ∧ (64 ≤ zh_t F 8 ∧ 0 ≤ zh_sg F n ∧ 4 ≤ zh_eb F n))  (rp0 : zi_R p0) (hp : rd = 1 ∧ (¬ (0 ≤ p0 ∧ p0 ≤ 239))) (sa : Nat) : Met l yL_global wtL_global ({ frames := 8, cells := 1, slots := 6, locals := 116 }) (va_Pc [.ref x, .int (zi_n p0), .ref o] (zp_X D vwCl sz [(x, .inr (4, [.ref q, .ref q2, .ref hh, .int (zi_n rd), .int (zi_n br)])), (q, .inr (3, [.ref a, .int (zi_n n)])), (q2, .inr (3, [.ref a2, .int (zi_n k)])), (hh, .inr (2, [.ref q])), (a, .inl (cA, 600, .inl (zi_F F))), (a2, .inl (cB, 600, .inl (zi_F G))), (o, .inl (cO, 1, .inr (.inl f)))] [(cA, .int), (cB, .int), (cO, .long)] zn_A 93 "there are globals 0 to 239" sa)) (va_Qi (fun (r : Int32) (_ : Unit) => r = zi_n 1) (fun _ => zp_B D vwCl [(cA, .int), (cB, .int), (cO, .long)] (va_A [(x, .inr (4, [.ref q, .ref q2, .ref hh, .int (zi_n rd), .int (zi_n br)])), (q, .inr (3, [.ref a, .int (zi_n n)])), (q2, .inr (3, [.ref a2, .int (zi_n k)])), (hh, .inr (2, [.ref q])), (a, .inl (cA, 600, .inl (zi_F F))), (a2, .inl (cB, 600, .inl (zi_F G))), (o, .inl (cO, 1, .inr (.inl f)))] sz) [(x, .inr (4, [.ref q, .ref q2, .ref hh, .int (zi_n rd), .int (zi_n br)])), (q, .inr (3, [.ref a, .int (zi_n n)])), (q2, .inr (3, [.ref a2, .int (zi_n k)])), (hh, .inr (2, [.ref q])), (a, .inl (cA, 600, .inl (zi_F F))), (a2, .inl (cB, 600, .inl (zi_F G))), (o, .inl (cO, 1, .inr (.inl f)))]) (va_A [(x, .inr (4, [.ref q, .ref q2, .ref hh, .int (zi_n rd), .int (zi_n br)])), (q, .inr (3, [.ref a, .int (zi_n n)])), (q2, .inr (3, [.ref a2, .int (zi_n k)])), (hh, .inr (2, [.ref q])), (a, .inl (cA, 600, .inl (zi_F F))), (a2, .inl (cB, 600, .inl (zi_F G))), (o, .inl (cO, 1, .inr (.inl f)))] sz)) 1 6 (va_A [(x, .inr (4, [.ref q, .ref q2, .ref hh, .int (zi_n rd), .int (zi_n br)])), (q, .inr (3, [.ref a, .int (zi_n n)])), (q2, .inr (3, [.ref a2, .int (zi_n k)])), (hh, .inr (2, [.ref q])), (a, .inl (cA, 600, .inl (zi_F F))), (a2, .inl (cB, 600, .inl (zi_F G))), (o, .inl (cO, 1, .inr (.inl f)))] sz) := by
  refine va_MetW (cc := cL_global) (maxL := 4) (ret := some .int) (hh := [(0, 9, 12, 13)]) (by decide) rfl ?_
  intro p e s m args below meth c s₁ B hml hv
  obtain ⟨rfl, ⟨hsz, hP, hK, hD0⟩, hca, hstr, hZU, hZN⟩ := hv
  have hx := B.exec
  have hb := B.bytes
  have hr := B.returns
  have hts0 := atoms_spec (ws := wtL_global) B.pre
  have hown : s.vm.findClass RL = some m.cls := findClass_of_methodNamed B.named
  subst hsz
  have hD := hD0.self (sz := s.heap.size)
  generalize hAe : va_A [(x, .inr (4, [.ref q, .ref q2, .ref hh, .int (zi_n rd), .int (zi_n br)])), (q, .inr (3, [.ref a, .int (zi_n n)])), (q2, .inr (3, [.ref a2, .int (zi_n k)])), (hh, .inr (2, [.ref q])), (a, .inl (cA, 600, .inl (zi_F F))), (a2, .inl (cB, 600, .inl (zi_F G))), (o, .inl (cO, 1, .inr (.inl f)))] s.heap.size = A at hD hZU hZN ⊢
  have hA : ∀ q : Nat, s.heap.size ≤ q → A q := fun q h => by rw [← hAe]; exact Or.inr h
  have hS : va_S A s.heap s.heap [] := va_S.rf
  have hP : va_P D vwCl [(x, .inr (4, [.ref q, .ref q2, .ref hh, .int (zi_n rd), .int (zi_n br)])), (q, .inr (3, [.ref a, .int (zi_n n)])), (q2, .inr (3, [.ref a2, .int (zi_n k)])), (hh, .inr (2, [.ref q])), (a, .inl (cA, 600, .inl (zi_F F))), (a2, .inl (cB, 600, .inl (zi_F G))), (o, .inl (cO, 1, .inr (.inl f)))] s.heap := hP
  have hl := lv_entry ([.ref x, .int (zi_n p0), .ref o]) (n := 4) (Nat.le_of_ble_eq_true rfl)
  rw [lg_entry_eq]
  generalize (lg_sl ([.ref x, .int (zi_n p0), .ref o]) ++ List.replicate (4 - (lg_sl ([.ref x, .int (zi_n p0), .ref o])).length) Slot.unset).toArray = ls at hl ⊢
  have hl : lv_has ls 4 [(0, .ref x), (1, .int (zi_n p0)), (2, .ref o)] := hl
  have hts : ∀ w ∈ wsL_global, w.before (([.ref x, .int (zi_n p0), .ref o] : List Value).toArray) s = true := fun w h => hts0 w (List.mem_cons_of_mem _ (List.mem_cons_of_mem _ h))
  have htab : c.exceptionTable.toList = [] ++ ⟨0, 9, 12, 13⟩ :: [] := (vx_table (x := yL_global) (hh := [(0, 9, 12, 13)]) B (hts0 _ List.mem_cons_self)).trans rfl
  refine lv_aload_n hx hb dL_global_0 rfl (lv_at hl 2 rfl) ?_
  refine zr_iconst hx hb dL_global_1 ?_
  refine lv_aload_n hx hb dL_global_2 rfl (lv_at hl 0 rfl) ?_
  refine lv_iload_n hx hb dL_global_3 rfl (lv_at hl 1 rfl) ?_
  have hPc := hP.sub (ws' := [(x, .inr (4, [.ref q, .ref q2, .ref hh, .int (zi_n rd), .int (zi_n br)])), (q, .inr (3, [.ref a, .int (zi_n n)])), (q2, .inr (3, [.ref a2, .int (zi_n k)])), (hh, .inr (2, [.ref q])), (a, .inl (cA, 600, .inl (zi_F F))), (a2, .inl (cB, 600, .inl (zi_F G)))]) [0, 1, 2, 3, 4, 5] rfl
  have hDc := hD.sub (ws' := [(x, .inr (4, [.ref q, .ref q2, .ref hh, .int (zi_n rd), .int (zi_n br)])), (q, .inr (3, [.ref a, .int (zi_n n)])), (q2, .inr (3, [.ref a2, .int (zi_n k)])), (hh, .inr (2, [.ref q])), (a, .inl (cA, 600, .inl (zi_F F))), (a2, .inl (cB, 600, .inl (zi_F G)))]) [0, 1, 2, 3, 4, 5] (by decide) rfl
  have hKc := hK.sub (tys' := [(cA, .int), (cB, .int)]) [0, 1] rfl
  have hFc := va_free (wc := [(x, .inr (4, [.ref q, .ref q2, .ref hh, .int (zi_n rd), .int (zi_n br)])), (q, .inr (3, [.ref a, .int (zi_n n)])), (q2, .inr (3, [.ref a2, .int (zi_n k)])), (hh, .inr (2, [.ref q])), (a, .inl (cA, 600, .inl (zi_F F))), (a2, .inl (cB, 600, .inl (zi_F G)))]) hD hS hA [0, 1, 2, 3, 4, 5] rfl
  refine vx_calli (vx_runV (As := [.int (zi_n p0)]) (rest := [.int (zi_n 0), .ref o]) ⟨hx, hb, hml, hown, hts0⟩ (t_Z_global l htr D x q q2 hh a a2 cA cB F G n k rd br hF hn hG hk hrd hbr s.heap.size p0 hR rp0 hp sa) (cwV 1 hts0 gtL_global rfl rfl rfl (by decide +kernel) ⟨(Nat.le_of_ble_eq_true rfl), (Nat.le_of_ble_eq_true rfl)⟩) ⟨zp_X_blind rfl, va_recv hKc hPc (ci := 4) (q0 := 0) rfl rfl, fun U hU hW => ⟨rfl, ⟨by rw [hU], by rw [hU]; exact hPc, va_K.moved hW.alike hKc, hDc.weaken (fun _ _ _ _ => trivial)⟩, zn_P_warm rfl hW hca, vk_R.warm hW hstr, by rw [hU]; exact vx_Zq.moved hW.alike (hZU.narrow hFc), by rw [hU]; exact vx_Zq.moved hW.alike (hZN.narrow hFc)⟩⟩ rfl rfl hl.1 rfl (lv_room (Nat.le_of_ble_eq_true rfl)) dL_global_4 ⟨(Nat.le_of_ble_eq_true rfl), (Nat.le_of_ble_eq_true rfl)⟩) hS (fun _ _ h => h.elim) hFc (fun q h1 h2 => absurd h1 (Nat.not_lt.mpr h2)) (fun E ce q9 u t H1 locs1 ht hal hpx hBX hz1 hk1 hS1 hc9 hv9 hcl9 => ?_) (fun r u t H1 locs1 ht hal hp9 => hp9.elim)
  subst hBX
  have hP1 := hP.kept (fun k x hx9 => hk1 x.1 ((hP k x hx9).lt) (Nat.not_le.mpr ((hP k x hx9).lt)))
  refine vx_catch (own := RL) (name := RJx00060) hown [] ⟨0, 9, 12, 13⟩ [] htab (fun z hz => nomatch hz) (by decide) (by decide) (hts (.classLink RL 13 RJx00060) (by decide +kernel)) (va_Nw.use rfl (hca _ List.mem_cons_self)) hc9 hv9 hcl9 ?_
  refine W.eq (g2 := F0 m 12 ls [.ref q9]) rfl ?_
  refine W.widen (k := 1) (n := 6) (by decide) (by decide) ?_
  refine lv_astore_n (lv' := [(3, .ref q9), (0, .ref x), (1, .int (zi_n p0)), (2, .ref o)]) hx hb dL_global_12 rfl hl (by decide) rfl (fun ls hl => ?_)
  refine zr_iconst hx hb dL_global_13 ?_
  exact W.iret (v := zi_n 1) hx hb hr (fun t ht hW => ⟨⟨zi_n 1, (), rfl, rfl, by rw [ht]; exact hP1, va_K.moved hW.alike hK, hD⟩, hS1.F ht⟩) hS1.2.2 dL_global_14
set_option maxHeartbeats 4000000 in
set_option maxRecDepth 100000 in
theorem c_L_load (l : Launch) (D : va_G) (x q q2 hh a a2 : Nat) (cA cB : ClassId) (F G : Nat → Int) (n k rd br : Int) (hF : zi_By F) (hn : 0 ≤ n ∧ n ≤ 600) (hG : zi_By G) (hk : 0 ≤ k ∧ k ≤ 600) (hrd : rd = 0 ∨ rd = 1) (hbr : 0 ≤ br ∧ br ≤ 15) (o : Nat) (cO : ClassId) (f : Nat → Int64) (sz : Nat) (p0 : Int) (hR : rd = 1 → (64 ≤ n ∧ k = n) ∧ (1 ≤ F 0 ∧ F 0 ≤ 8) ∧ (64 ≤ zh_len F n ∧ zh_len F n ≤ n) ∧ (64 ≤ zh_t F 14 ∧ zh_t F 14 ≤ zh_len F n) ∧ (64 ≤ zh_t F 12 ∧ zh_t F 12 + 480 ≤ zh_t F 14) ∧ (64 ≤ zh_t F 8 ∧ 0 ≤ zh_sg F n ∧ 4 ≤ zh_eb F n)) (rp0 : zi_R p0) (hp : rd = 0 ∨ (0 ≤ p0 ∧ p0 < k)) : Met l yL_load wsL_load ({ frames := 2, cells := 0, slots := 0, locals := 42 }) (va_Pc [.ref x, .int (zi_n p0), .ref o] (zp_P D vwCl sz [(x, .inr (4, [.ref q, .ref q2, .ref hh, .int (zi_n rd), .int (zi_n br)])), (q, .inr (3, [.ref a, .int (zi_n n)])), (q2, .inr (3, [.ref a2, .int (zi_n k)])), (hh, .inr (2, [.ref q])), (a, .inl (cA, 600, .inl (zi_F F))), (a2, .inl (cB, 600, .inl (zi_F G))), (o, .inl (cO, 1, .inr (.inl f)))] [(cA, .int), (cB, .int), (cO, .long)])) (va_Qi (fun (r : Int32) (_ : Unit) => r = zi_n 0 ∧ -11 ≤ zh_ldE G k rd p0 ∧ zh_ldE G k rd p0 ≤ 255) (fun _ => zp_B D vwCl [(cA, .int), (cB, .int), (cO, .long)] (va_A [(x, .inr (4, [.ref q, .ref q2, .ref hh, .int (zi_n rd), .int (zi_n br)])), (q, .inr (3, [.ref a, .int (zi_n n)])), (q2, .inr (3, [.ref a2, .int (zi_n k)])), (hh, .inr (2, [.ref q])), (a, .inl (cA, 600, .inl (zi_F F))), (a2, .inl (cB, 600, .inl (zi_F G))), (o, .inl (cO, 1, .inr (.inl f)))] sz) [(x, .inr (4, [.ref q, .ref q2, .ref hh, .int (zi_n rd), .int (zi_n br)])), (q, .inr (3, [.ref a, .int (zi_n n)])), (q2, .inr (3, [.ref a2, .int (zi_n k)])), (hh, .inr (2, [.ref q])), (a, .inl (cA, 600, .inl (zi_F F))), (a2, .inl (cB, 600, .inl (zi_F G))), (o, .inl (cO, 1, .inr (.inl (vp_updL f 0 (zi_n (zh_ldE G k rd p0)).toInt64))))]) (va_A [(x, .inr (4, [.ref q, .ref q2, .ref hh, .int (zi_n rd), .int (zi_n br)])), (q, .inr (3, [.ref a, .int (zi_n n)])), (q2, .inr (3, [.ref a2, .int (zi_n k)])), (hh, .inr (2, [.ref q])), (a, .inl (cA, 600, .inl (zi_F F))), (a2, .inl (cB, 600, .inl (zi_F G))), (o, .inl (cO, 1, .inr (.inl f)))] sz)) 0 0 (va_A [(x, .inr (4, [.ref q, .ref q2, .ref hh, .int (zi_n rd), .int (zi_n br)])), (q, .inr (3, [.ref a, .int (zi_n n)])), (q2, .inr (3, [.ref a2, .int (zi_n k)])), (hh, .inr (2, [.ref q])), (a, .inl (cA, 600, .inl (zi_F F))), (a2, .inl (cB, 600, .inl (zi_F G))), (o, .inl (cO, 1, .inr (.inl f)))] sz) := by
  refine va_MetW (cc := cL_load) (maxL := 4) (ret := some .int) (hh := [(0, 9, 12, 13)]) (by decide) rfl ?_
  intro p e s m args below meth c s₁ B hml hv
  obtain ⟨rfl, hsz, hP, hK, hD0⟩ := hv
  have hx := B.exec
  have hb := B.bytes
  have hr := B.returns
  have hts0 := atoms_spec (ws := wsL_load) B.pre
  have hown : s.vm.findClass RL = some m.cls := findClass_of_methodNamed B.named
  subst hsz
  have hD := hD0.self (sz := s.heap.size)
  generalize hAe : va_A [(x, .inr (4, [.ref q, .ref q2, .ref hh, .int (zi_n rd), .int (zi_n br)])), (q, .inr (3, [.ref a, .int (zi_n n)])), (q2, .inr (3, [.ref a2, .int (zi_n k)])), (hh, .inr (2, [.ref q])), (a, .inl (cA, 600, .inl (zi_F F))), (a2, .inl (cB, 600, .inl (zi_F G))), (o, .inl (cO, 1, .inr (.inl f)))] s.heap.size = A at hD ⊢
  have hA : ∀ q : Nat, s.heap.size ≤ q → A q := fun q h => by rw [← hAe]; exact Or.inr h
  have hS : va_S A s.heap s.heap [] := va_S.rf
  have hP : va_P D vwCl [(x, .inr (4, [.ref q, .ref q2, .ref hh, .int (zi_n rd), .int (zi_n br)])), (q, .inr (3, [.ref a, .int (zi_n n)])), (q2, .inr (3, [.ref a2, .int (zi_n k)])), (hh, .inr (2, [.ref q])), (a, .inl (cA, 600, .inl (zi_F F))), (a2, .inl (cB, 600, .inl (zi_F G))), (o, .inl (cO, 1, .inr (.inl f)))] s.heap := hP
  have hl := lv_entry ([.ref x, .int (zi_n p0), .ref o]) (n := 4) (Nat.le_of_ble_eq_true rfl)
  rw [lg_entry_eq]
  generalize (lg_sl ([.ref x, .int (zi_n p0), .ref o]) ++ List.replicate (4 - (lg_sl ([.ref x, .int (zi_n p0), .ref o])).length) Slot.unset).toArray = ls at hl ⊢
  have hl : lv_has ls 4 [(0, .ref x), (1, .int (zi_n p0)), (2, .ref o)] := hl
  refine lv_aload_n hx hb dL_load_0 rfl (lv_at hl 2 rfl) ?_
  refine zr_iconst hx hb dL_load_1 ?_
  refine lv_aload_n hx hb dL_load_2 rfl (lv_at hl 0 rfl) ?_
  refine lv_iload_n hx hb dL_load_3 rfl (lv_at hl 1 rfl) ?_
  refine zc_V (As := [.int (zi_n p0)]) (rest := [.int (zi_n 0), .ref o]) ⟨hx, hb, hml, hown, hts0⟩ (c_Z_load l D x q q2 hh a a2 cA cB F G n k rd br hF hn hG hk hrd hbr p0 hR rp0 hp) (cwV 1 hts0 gL_load_X3_load rfl rfl rfl (by decide +kernel) ⟨(Nat.le_of_ble_eq_true rfl), (Nat.le_of_ble_eq_true rfl)⟩) hP hK [0, 1, 2, 3, 4, 5] [0, 1] rfl rfl (ci := 4) rfl rfl rfl rfl hl.1 rfl (Nat.le_of_ble_eq_true rfl) dL_load_4 ⟨Nat.zero_le _, Nat.zero_le _⟩ (fun r hr1 => ?_)
  obtain ⟨rfl, hE⟩ := hr1
  refine lv_i2l hx hb dL_load_7 rfl ?_
  refine va_last hx hb hK hP hD hS 6 2 rfl rfl (zi_in (a := 0) ⟨by decide, by decide⟩ (by decide)) dL_load_8 (fun H locs hP hD hS => ?_)
  have hP : va_P D vwCl [(x, .inr (4, [.ref q, .ref q2, .ref hh, .int (zi_n rd), .int (zi_n br)])), (q, .inr (3, [.ref a, .int (zi_n n)])), (q2, .inr (3, [.ref a2, .int (zi_n k)])), (hh, .inr (2, [.ref q])), (a, .inl (cA, 600, .inl (zi_F F))), (a2, .inl (cB, 600, .inl (zi_F G))), (o, .inl (cO, 1, .inr (.inl (vp_updL f 0 (zi_n (zh_ldE G k rd p0)).toInt64))))] H := hP
  have hD : va_D A [(x, .inr (4, [.ref q, .ref q2, .ref hh, .int (zi_n rd), .int (zi_n br)])), (q, .inr (3, [.ref a, .int (zi_n n)])), (q2, .inr (3, [.ref a2, .int (zi_n k)])), (hh, .inr (2, [.ref q])), (a, .inl (cA, 600, .inl (zi_F F))), (a2, .inl (cB, 600, .inl (zi_F G))), (o, .inl (cO, 1, .inr (.inl (vp_updL f 0 (zi_n (zh_ldE G k rd p0)).toInt64))))] := hD
  refine lv_goto (tgt := 15) hx hb dL_load_9 (by decide) ?_
  refine zr_iconst hx hb dL_load_15 ?_
  exact W.iret (v := zi_n 0) hx hb hr (fun t ht hW => ⟨⟨zi_n 0, (), rfl, ⟨rfl, hE⟩, by rw [ht]; exact hP, va_K.moved hW.alike hK, hD⟩, hS.F ht⟩) hS.2.2 dL_load_16
def wtL_load : List Cond := .codeWith yL_load cL_load 4 (some .int) [(0, 9, 12, 13)] :: .methodLink RX3 90 (Bundle.initS RJx00060) :: wsL_load
theorem gtL_load : GoodIn wtL_load (wsV RL 18 RX3 yX3_load wtX3_load) := zg_ext gL_load_X3_load List.mem_cons_self rfl
theorem gtL_law_load : GoodIn (.methodLink RX3 90 (Bundle.initS RJx00060) :: wsL_law) (va_wsS RL 87 yL_load wtL_load) := zg_extS gL_law_L_load List.mem_cons_self rfl
set_option maxHeartbeats 4000000 in
set_option maxRecDepth 100000 in
theorem t_L_load (l : Launch) (htr : l.stackTraces = false) (D : va_G) (x q q2 hh a a2 : Nat) (cA cB : ClassId) (F G : Nat → Int) (n k rd br : Int) (hF : zi_By F) (hn : 0 ≤ n ∧ n ≤ 600) (hG : zi_By G) (hk : 0 ≤ k ∧ k ≤ 600) (hrd : rd = 0 ∨ rd = 1) (hbr : 0 ≤ br ∧ br ≤ 15) (o : Nat) (cO : ClassId) (f : Nat → Int64) (sz : Nat) (p0 : Int) (hR : rd = 1 → (64 ≤ n ∧ k = n) ∧ (1 ≤ F 0 ∧ F 0 ≤ 8) ∧ (64 ≤ zh_len F n ∧ zh_len F n ≤ n) ∧ (64 ≤ zh_t F 14 ∧ zh_t F 14 ≤ zh_len F n) ∧ (64 ≤ zh_t F 12 ∧ zh_t F 12 + 480 ≤ zh_t F 14) ∧ (64 ≤ zh_t F 8 ∧ 0 ≤ zh_sg F n ∧ 4 ≤ zh_eb F n)) (rp0 : zi_R p0) (hp : rd = 1 ∧ (¬ (0 ≤ p0 ∧ p0 < k))) (sa : Nat) : Met l yL_load wtL_load ({ frames := 8, cells := 1, slots := 6, locals := 116 }) (va_Pc [.ref x, .int (zi_n p0), .ref o] (zp_X D vwCl sz [(x, .inr (4, [.ref q, .ref q2, .ref hh, .int (zi_n rd), .int (zi_n br)])), (q, .inr (3, [.ref a, .int (zi_n n)])), (q2, .inr (3, [.ref a2, .int (zi_n k)])), (hh, .inr (2, [.ref q])), (a, .inl (cA, 600, .inl (zi_F F))), (a2, .inl (cB, 600, .inl (zi_F G))), (o, .inl (cO, 1, .inr (.inl f)))] [(cA, .int), (cB, .int), (cO, .long)] zn_A 101 "the place is not there" sa)) (va_Qi (fun (r : Int32) (_ : Unit) => r = zi_n 1) (fun _ => zp_B D vwCl [(cA, .int), (cB, .int), (cO, .long)] (va_A [(x, .inr (4, [.ref q, .ref q2, .ref hh, .int (zi_n rd), .int (zi_n br)])), (q, .inr (3, [.ref a, .int (zi_n n)])), (q2, .inr (3, [.ref a2, .int (zi_n k)])), (hh, .inr (2, [.ref q])), (a, .inl (cA, 600, .inl (zi_F F))), (a2, .inl (cB, 600, .inl (zi_F G))), (o, .inl (cO, 1, .inr (.inl f)))] sz) [(x, .inr (4, [.ref q, .ref q2, .ref hh, .int (zi_n rd), .int (zi_n br)])), (q, .inr (3, [.ref a, .int (zi_n n)])), (q2, .inr (3, [.ref a2, .int (zi_n k)])), (hh, .inr (2, [.ref q])), (a, .inl (cA, 600, .inl (zi_F F))), (a2, .inl (cB, 600, .inl (zi_F G))), (o, .inl (cO, 1, .inr (.inl f)))]) (va_A [(x, .inr (4, [.ref q, .ref q2, .ref hh, .int (zi_n rd), .int (zi_n br)])), (q, .inr (3, [.ref a, .int (zi_n n)])), (q2, .inr (3, [.ref a2, .int (zi_n k)])), (hh, .inr (2, [.ref q])), (a, .inl (cA, 600, .inl (zi_F F))), (a2, .inl (cB, 600, .inl (zi_F G))), (o, .inl (cO, 1, .inr (.inl f)))] sz)) 1 6 (va_A [(x, .inr (4, [.ref q, .ref q2, .ref hh, .int (zi_n rd), .int (zi_n br)])), (q, .inr (3, [.ref a, .int (zi_n n)])), (q2, .inr (3, [.ref a2, .int (zi_n k)])), (hh, .inr (2, [.ref q])), (a, .inl (cA, 600, .inl (zi_F F))), (a2, .inl (cB, 600, .inl (zi_F G))), (o, .inl (cO, 1, .inr (.inl f)))] sz) := by
  refine va_MetW (cc := cL_load) (maxL := 4) (ret := some .int) (hh := [(0, 9, 12, 13)]) (by decide) rfl ?_
  intro p e s m args below meth c s₁ B hml hv
  obtain ⟨rfl, ⟨hsz, hP, hK, hD0⟩, hca, hstr, hZU, hZN⟩ := hv
  have hx := B.exec
  have hb := B.bytes
  have hr := B.returns
  have hts0 := atoms_spec (ws := wtL_load) B.pre
  have hown : s.vm.findClass RL = some m.cls := findClass_of_methodNamed B.named
  subst hsz
  have hD := hD0.self (sz := s.heap.size)
  generalize hAe : va_A [(x, .inr (4, [.ref q, .ref q2, .ref hh, .int (zi_n rd), .int (zi_n br)])), (q, .inr (3, [.ref a, .int (zi_n n)])), (q2, .inr (3, [.ref a2, .int (zi_n k)])), (hh, .inr (2, [.ref q])), (a, .inl (cA, 600, .inl (zi_F F))), (a2, .inl (cB, 600, .inl (zi_F G))), (o, .inl (cO, 1, .inr (.inl f)))] s.heap.size = A at hD hZU hZN ⊢
  have hA : ∀ q : Nat, s.heap.size ≤ q → A q := fun q h => by rw [← hAe]; exact Or.inr h
  have hS : va_S A s.heap s.heap [] := va_S.rf
  have hP : va_P D vwCl [(x, .inr (4, [.ref q, .ref q2, .ref hh, .int (zi_n rd), .int (zi_n br)])), (q, .inr (3, [.ref a, .int (zi_n n)])), (q2, .inr (3, [.ref a2, .int (zi_n k)])), (hh, .inr (2, [.ref q])), (a, .inl (cA, 600, .inl (zi_F F))), (a2, .inl (cB, 600, .inl (zi_F G))), (o, .inl (cO, 1, .inr (.inl f)))] s.heap := hP
  have hl := lv_entry ([.ref x, .int (zi_n p0), .ref o]) (n := 4) (Nat.le_of_ble_eq_true rfl)
  rw [lg_entry_eq]
  generalize (lg_sl ([.ref x, .int (zi_n p0), .ref o]) ++ List.replicate (4 - (lg_sl ([.ref x, .int (zi_n p0), .ref o])).length) Slot.unset).toArray = ls at hl ⊢
  have hl : lv_has ls 4 [(0, .ref x), (1, .int (zi_n p0)), (2, .ref o)] := hl
  have hts : ∀ w ∈ wsL_load, w.before (([.ref x, .int (zi_n p0), .ref o] : List Value).toArray) s = true := fun w h => hts0 w (List.mem_cons_of_mem _ (List.mem_cons_of_mem _ h))
  have htab : c.exceptionTable.toList = [] ++ ⟨0, 9, 12, 13⟩ :: [] := (vx_table (x := yL_load) (hh := [(0, 9, 12, 13)]) B (hts0 _ List.mem_cons_self)).trans rfl
  refine lv_aload_n hx hb dL_load_0 rfl (lv_at hl 2 rfl) ?_
  refine zr_iconst hx hb dL_load_1 ?_
  refine lv_aload_n hx hb dL_load_2 rfl (lv_at hl 0 rfl) ?_
  refine lv_iload_n hx hb dL_load_3 rfl (lv_at hl 1 rfl) ?_
  have hPc := hP.sub (ws' := [(x, .inr (4, [.ref q, .ref q2, .ref hh, .int (zi_n rd), .int (zi_n br)])), (q, .inr (3, [.ref a, .int (zi_n n)])), (q2, .inr (3, [.ref a2, .int (zi_n k)])), (hh, .inr (2, [.ref q])), (a, .inl (cA, 600, .inl (zi_F F))), (a2, .inl (cB, 600, .inl (zi_F G)))]) [0, 1, 2, 3, 4, 5] rfl
  have hDc := hD.sub (ws' := [(x, .inr (4, [.ref q, .ref q2, .ref hh, .int (zi_n rd), .int (zi_n br)])), (q, .inr (3, [.ref a, .int (zi_n n)])), (q2, .inr (3, [.ref a2, .int (zi_n k)])), (hh, .inr (2, [.ref q])), (a, .inl (cA, 600, .inl (zi_F F))), (a2, .inl (cB, 600, .inl (zi_F G)))]) [0, 1, 2, 3, 4, 5] (by decide) rfl
  have hKc := hK.sub (tys' := [(cA, .int), (cB, .int)]) [0, 1] rfl
  have hFc := va_free (wc := [(x, .inr (4, [.ref q, .ref q2, .ref hh, .int (zi_n rd), .int (zi_n br)])), (q, .inr (3, [.ref a, .int (zi_n n)])), (q2, .inr (3, [.ref a2, .int (zi_n k)])), (hh, .inr (2, [.ref q])), (a, .inl (cA, 600, .inl (zi_F F))), (a2, .inl (cB, 600, .inl (zi_F G)))]) hD hS hA [0, 1, 2, 3, 4, 5] rfl
  refine vx_calli (vx_runV (As := [.int (zi_n p0)]) (rest := [.int (zi_n 0), .ref o]) ⟨hx, hb, hml, hown, hts0⟩ (t_Z_load l htr D x q q2 hh a a2 cA cB F G n k rd br hF hn hG hk hrd hbr s.heap.size p0 hR rp0 hp sa) (cwV 1 hts0 gtL_load rfl rfl rfl (by decide +kernel) ⟨(Nat.le_of_ble_eq_true rfl), (Nat.le_of_ble_eq_true rfl)⟩) ⟨zp_X_blind rfl, va_recv hKc hPc (ci := 4) (q0 := 0) rfl rfl, fun U hU hW => ⟨rfl, ⟨by rw [hU], by rw [hU]; exact hPc, va_K.moved hW.alike hKc, hDc.weaken (fun _ _ _ _ => trivial)⟩, zn_P_warm rfl hW hca, vk_R.warm hW hstr, by rw [hU]; exact vx_Zq.moved hW.alike (hZU.narrow hFc), by rw [hU]; exact vx_Zq.moved hW.alike (hZN.narrow hFc)⟩⟩ rfl rfl hl.1 rfl (lv_room (Nat.le_of_ble_eq_true rfl)) dL_load_4 ⟨(Nat.le_of_ble_eq_true rfl), (Nat.le_of_ble_eq_true rfl)⟩) hS (fun _ _ h => h.elim) hFc (fun q h1 h2 => absurd h1 (Nat.not_lt.mpr h2)) (fun E ce q9 u t H1 locs1 ht hal hpx hBX hz1 hk1 hS1 hc9 hv9 hcl9 => ?_) (fun r u t H1 locs1 ht hal hp9 => hp9.elim)
  subst hBX
  have hP1 := hP.kept (fun k x hx9 => hk1 x.1 ((hP k x hx9).lt) (Nat.not_le.mpr ((hP k x hx9).lt)))
  refine vx_catch (own := RL) (name := RJx00060) hown [] ⟨0, 9, 12, 13⟩ [] htab (fun z hz => nomatch hz) (by decide) (by decide) (hts (.classLink RL 13 RJx00060) (by decide +kernel)) (va_Nw.use rfl (hca _ List.mem_cons_self)) hc9 hv9 hcl9 ?_
  refine W.eq (g2 := F0 m 12 ls [.ref q9]) rfl ?_
  refine W.widen (k := 1) (n := 6) (by decide) (by decide) ?_
  refine lv_astore_n (lv' := [(3, .ref q9), (0, .ref x), (1, .int (zi_n p0)), (2, .ref o)]) hx hb dL_load_12 rfl hl (by decide) rfl (fun ls hl => ?_)
  refine zr_iconst hx hb dL_load_13 ?_
  exact W.iret (v := zi_n 1) hx hb hr (fun t ht hW => ⟨⟨zi_n 1, (), rfl, rfl, by rw [ht]; exact hP1, va_K.moved hW.alike hK, hD⟩, hS1.F ht⟩) hS1.2.2 dL_load_14
set_option maxHeartbeats 4000000 in
set_option maxRecDepth 100000 in
theorem c_L_first (l : Launch) (D : va_G) (x q q2 hh a a2 : Nat) (cA cB : ClassId) (F G : Nat → Int) (n k rd br : Int) (hF : zi_By F) (hn : 0 ≤ n ∧ n ≤ 600) (hG : zi_By G) (hk : 0 ≤ k ∧ k ≤ 600) (hrd : rd = 0 ∨ rd = 1) (hbr : 0 ≤ br ∧ br ≤ 15) (o : Nat) (cO : ClassId) (f : Nat → Int64) (sz : Nat) (p0 p1 : Int) (hR : rd = 1 → (64 ≤ n ∧ k = n) ∧ (1 ≤ F 0 ∧ F 0 ≤ 8) ∧ (64 ≤ zh_len F n ∧ zh_len F n ≤ n) ∧ (64 ≤ zh_t F 14 ∧ zh_t F 14 ≤ zh_len F n) ∧ (64 ≤ zh_t F 12 ∧ zh_t F 12 + 480 ≤ zh_t F 14) ∧ (64 ≤ zh_t F 8 ∧ 0 ≤ zh_sg F n ∧ 4 ≤ zh_eb F n)) (rp0 : zi_R p0) (bp1 : p1 = 0 ∨ p1 = 1) (hp : rd = 0 ∨ ¬ (0 ≤ p0 ∧ p0 ≤ 65535) ∨ (0 ≤ zh_unp F p0 p1 ∧ zh_unp F p0 p1 < k)) : Met l yL_first wsL_first ({ frames := 4, cells := 0, slots := 0, locals := 87 }) (va_Pc [.ref x, .int (zi_n p0), .int (zi_n p1), .ref o] (zp_P D vwCl sz [(x, .inr (4, [.ref q, .ref q2, .ref hh, .int (zi_n rd), .int (zi_n br)])), (q, .inr (3, [.ref a, .int (zi_n n)])), (q2, .inr (3, [.ref a2, .int (zi_n k)])), (hh, .inr (2, [.ref q])), (a, .inl (cA, 600, .inl (zi_F F))), (a2, .inl (cB, 600, .inl (zi_F G))), (o, .inl (cO, 1, .inr (.inl f)))] [(cA, .int), (cB, .int), (cO, .long)])) (va_Qi (fun (r : Int32) (_ : Unit) => r = zi_n 0 ∧ -12 ≤ zh_fiE1 F G k rd p0 p1 ∧ zh_fiE1 F G k rd p0 p1 ≤ 255) (fun _ => zp_B D vwCl [(cA, .int), (cB, .int), (cO, .long)] (va_A [(x, .inr (4, [.ref q, .ref q2, .ref hh, .int (zi_n rd), .int (zi_n br)])), (q, .inr (3, [.ref a, .int (zi_n n)])), (q2, .inr (3, [.ref a2, .int (zi_n k)])), (hh, .inr (2, [.ref q])), (a, .inl (cA, 600, .inl (zi_F F))), (a2, .inl (cB, 600, .inl (zi_F G))), (o, .inl (cO, 1, .inr (.inl f)))] sz) [(x, .inr (4, [.ref q, .ref q2, .ref hh, .int (zi_n rd), .int (zi_n br)])), (q, .inr (3, [.ref a, .int (zi_n n)])), (q2, .inr (3, [.ref a2, .int (zi_n k)])), (hh, .inr (2, [.ref q])), (a, .inl (cA, 600, .inl (zi_F F))), (a2, .inl (cB, 600, .inl (zi_F G))), (o, .inl (cO, 1, .inr (.inl (vp_updL f 0 (zi_n (zh_fiE1 F G k rd p0 p1)).toInt64))))]) (va_A [(x, .inr (4, [.ref q, .ref q2, .ref hh, .int (zi_n rd), .int (zi_n br)])), (q, .inr (3, [.ref a, .int (zi_n n)])), (q2, .inr (3, [.ref a2, .int (zi_n k)])), (hh, .inr (2, [.ref q])), (a, .inl (cA, 600, .inl (zi_F F))), (a2, .inl (cB, 600, .inl (zi_F G))), (o, .inl (cO, 1, .inr (.inl f)))] sz)) 0 0 (va_A [(x, .inr (4, [.ref q, .ref q2, .ref hh, .int (zi_n rd), .int (zi_n br)])), (q, .inr (3, [.ref a, .int (zi_n n)])), (q2, .inr (3, [.ref a2, .int (zi_n k)])), (hh, .inr (2, [.ref q])), (a, .inl (cA, 600, .inl (zi_F F))), (a2, .inl (cB, 600, .inl (zi_F G))), (o, .inl (cO, 1, .inr (.inl f)))] sz) := by
  refine va_MetW (cc := cL_first) (maxL := 5) (ret := some .int) (hh := [(0, 10, 13, 13)]) (by decide) rfl ?_
  intro p e s m args below meth c s₁ B hml hv
  obtain ⟨rfl, hsz, hP, hK, hD0⟩ := hv
  have hx := B.exec
  have hb := B.bytes
  have hr := B.returns
  have hts0 := atoms_spec (ws := wsL_first) B.pre
  have hown : s.vm.findClass RL = some m.cls := findClass_of_methodNamed B.named
  subst hsz
  have hD := hD0.self (sz := s.heap.size)
  generalize hAe : va_A [(x, .inr (4, [.ref q, .ref q2, .ref hh, .int (zi_n rd), .int (zi_n br)])), (q, .inr (3, [.ref a, .int (zi_n n)])), (q2, .inr (3, [.ref a2, .int (zi_n k)])), (hh, .inr (2, [.ref q])), (a, .inl (cA, 600, .inl (zi_F F))), (a2, .inl (cB, 600, .inl (zi_F G))), (o, .inl (cO, 1, .inr (.inl f)))] s.heap.size = A at hD ⊢
  have hA : ∀ q : Nat, s.heap.size ≤ q → A q := fun q h => by rw [← hAe]; exact Or.inr h
  have hS : va_S A s.heap s.heap [] := va_S.rf
  have hP : va_P D vwCl [(x, .inr (4, [.ref q, .ref q2, .ref hh, .int (zi_n rd), .int (zi_n br)])), (q, .inr (3, [.ref a, .int (zi_n n)])), (q2, .inr (3, [.ref a2, .int (zi_n k)])), (hh, .inr (2, [.ref q])), (a, .inl (cA, 600, .inl (zi_F F))), (a2, .inl (cB, 600, .inl (zi_F G))), (o, .inl (cO, 1, .inr (.inl f)))] s.heap := hP
  have hl := lv_entry ([.ref x, .int (zi_n p0), .int (zi_n p1), .ref o]) (n := 5) (Nat.le_of_ble_eq_true rfl)
  rw [lg_entry_eq]
  generalize (lg_sl ([.ref x, .int (zi_n p0), .int (zi_n p1), .ref o]) ++ List.replicate (5 - (lg_sl ([.ref x, .int (zi_n p0), .int (zi_n p1), .ref o])).length) Slot.unset).toArray = ls at hl ⊢
  have hl : lv_has ls 5 [(0, .ref x), (1, .int (zi_n p0)), (2, .int (zi_n p1)), (3, .ref o)] := hl
  refine lv_aload_n hx hb dL_first_0 rfl (lv_at hl 3 rfl) ?_
  refine zr_iconst hx hb dL_first_1 ?_
  refine lv_aload_n hx hb dL_first_2 rfl (lv_at hl 0 rfl) ?_
  refine lv_iload_n hx hb dL_first_3 rfl (lv_at hl 1 rfl) ?_
  refine lv_iload_n hx hb dL_first_4 rfl (lv_at hl 2 rfl) ?_
  refine zc_V (As := [.int (zi_n p0), .int (zi_n p1)]) (rest := [.int (zi_n 0), .ref o]) ⟨hx, hb, hml, hown, hts0⟩ (c_Z_first l D x q q2 hh a a2 cA cB F G n k rd br hF hn hG hk hrd hbr p0 p1 hR rp0 bp1 hp) (cwV 2 hts0 gL_first_X3_first rfl rfl rfl (by decide +kernel) ⟨(Nat.le_of_ble_eq_true rfl), (Nat.le_of_ble_eq_true rfl)⟩) hP hK [0, 1, 2, 3, 4, 5] [0, 1] rfl rfl (ci := 4) rfl rfl rfl rfl hl.1 rfl (Nat.le_of_ble_eq_true rfl) dL_first_5 ⟨Nat.zero_le _, Nat.zero_le _⟩ (fun r hr1 => ?_)
  obtain ⟨rfl, hE⟩ := hr1
  refine lv_i2l hx hb dL_first_8 rfl ?_
  refine va_last hx hb hK hP hD hS 6 2 rfl rfl (zi_in (a := 0) ⟨by decide, by decide⟩ (by decide)) dL_first_9 (fun H locs hP hD hS => ?_)
  have hP : va_P D vwCl [(x, .inr (4, [.ref q, .ref q2, .ref hh, .int (zi_n rd), .int (zi_n br)])), (q, .inr (3, [.ref a, .int (zi_n n)])), (q2, .inr (3, [.ref a2, .int (zi_n k)])), (hh, .inr (2, [.ref q])), (a, .inl (cA, 600, .inl (zi_F F))), (a2, .inl (cB, 600, .inl (zi_F G))), (o, .inl (cO, 1, .inr (.inl (vp_updL f 0 (zi_n (zh_fiE1 F G k rd p0 p1)).toInt64))))] H := hP
  have hD : va_D A [(x, .inr (4, [.ref q, .ref q2, .ref hh, .int (zi_n rd), .int (zi_n br)])), (q, .inr (3, [.ref a, .int (zi_n n)])), (q2, .inr (3, [.ref a2, .int (zi_n k)])), (hh, .inr (2, [.ref q])), (a, .inl (cA, 600, .inl (zi_F F))), (a2, .inl (cB, 600, .inl (zi_F G))), (o, .inl (cO, 1, .inr (.inl (vp_updL f 0 (zi_n (zh_fiE1 F G k rd p0 p1)).toInt64))))] := hD
  refine lv_goto (tgt := 17) hx hb dL_first_10 (by decide) ?_
  refine zr_iconst hx hb dL_first_17 ?_
  exact W.iret (v := zi_n 0) hx hb hr (fun t ht hW => ⟨⟨zi_n 0, (), rfl, ⟨rfl, hE⟩, by rw [ht]; exact hP, va_K.moved hW.alike hK, hD⟩, hS.F ht⟩) hS.2.2 dL_first_18
def wtL_first : List Cond := .codeWith yL_first cL_first 5 (some .int) [(0, 10, 13, 13)] :: .methodLink RX3 90 (Bundle.initS RJx00060) :: wsL_first
theorem gtL_first : GoodIn wtL_first (wsV RL 21 RX3 yX3_first wtX3_first) := zg_ext gL_first_X3_first List.mem_cons_self rfl
theorem gtL_law_first : GoodIn (.methodLink RX3 90 (Bundle.initS RJx00060) :: wsL_law) (va_wsS RL 98 yL_first wtL_first) := zg_extS gL_law_L_first List.mem_cons_self rfl
set_option maxHeartbeats 4000000 in
set_option maxRecDepth 100000 in
theorem t_L_first (l : Launch) (htr : l.stackTraces = false) (D : va_G) (x q q2 hh a a2 : Nat) (cA cB : ClassId) (F G : Nat → Int) (n k rd br : Int) (hF : zi_By F) (hn : 0 ≤ n ∧ n ≤ 600) (hG : zi_By G) (hk : 0 ≤ k ∧ k ≤ 600) (hrd : rd = 0 ∨ rd = 1) (hbr : 0 ≤ br ∧ br ≤ 15) (o : Nat) (cO : ClassId) (f : Nat → Int64) (sz : Nat) (p0 p1 : Int) (hR : rd = 1 → (64 ≤ n ∧ k = n) ∧ (1 ≤ F 0 ∧ F 0 ≤ 8) ∧ (64 ≤ zh_len F n ∧ zh_len F n ≤ n) ∧ (64 ≤ zh_t F 14 ∧ zh_t F 14 ≤ zh_len F n) ∧ (64 ≤ zh_t F 12 ∧ zh_t F 12 + 480 ≤ zh_t F 14) ∧ (64 ≤ zh_t F 8 ∧ 0 ≤ zh_sg F n ∧ 4 ≤ zh_eb F n)) (rp0 : zi_R p0) (bp1 : p1 = 0 ∨ p1 = 1) (hp : rd = 1 ∧ ((0 ≤ p0 ∧ p0 ≤ 65535) ∧ ¬ (0 ≤ zh_unp F p0 p1 ∧ zh_unp F p0 p1 < k))) (sa : Nat) : Met l yL_first wtL_first ({ frames := 8, cells := 1, slots := 6, locals := 118 }) (va_Pc [.ref x, .int (zi_n p0), .int (zi_n p1), .ref o] (zp_X D vwCl sz [(x, .inr (4, [.ref q, .ref q2, .ref hh, .int (zi_n rd), .int (zi_n br)])), (q, .inr (3, [.ref a, .int (zi_n n)])), (q2, .inr (3, [.ref a2, .int (zi_n k)])), (hh, .inr (2, [.ref q])), (a, .inl (cA, 600, .inl (zi_F F))), (a2, .inl (cB, 600, .inl (zi_F G))), (o, .inl (cO, 1, .inr (.inl f)))] [(cA, .int), (cB, .int), (cO, .long)] zn_A 113 "the packed place is not there" sa)) (va_Qi (fun (r : Int32) (_ : Unit) => r = zi_n 1) (fun _ => zp_B D vwCl [(cA, .int), (cB, .int), (cO, .long)] (va_A [(x, .inr (4, [.ref q, .ref q2, .ref hh, .int (zi_n rd), .int (zi_n br)])), (q, .inr (3, [.ref a, .int (zi_n n)])), (q2, .inr (3, [.ref a2, .int (zi_n k)])), (hh, .inr (2, [.ref q])), (a, .inl (cA, 600, .inl (zi_F F))), (a2, .inl (cB, 600, .inl (zi_F G))), (o, .inl (cO, 1, .inr (.inl f)))] sz) [(x, .inr (4, [.ref q, .ref q2, .ref hh, .int (zi_n rd), .int (zi_n br)])), (q, .inr (3, [.ref a, .int (zi_n n)])), (q2, .inr (3, [.ref a2, .int (zi_n k)])), (hh, .inr (2, [.ref q])), (a, .inl (cA, 600, .inl (zi_F F))), (a2, .inl (cB, 600, .inl (zi_F G))), (o, .inl (cO, 1, .inr (.inl f)))]) (va_A [(x, .inr (4, [.ref q, .ref q2, .ref hh, .int (zi_n rd), .int (zi_n br)])), (q, .inr (3, [.ref a, .int (zi_n n)])), (q2, .inr (3, [.ref a2, .int (zi_n k)])), (hh, .inr (2, [.ref q])), (a, .inl (cA, 600, .inl (zi_F F))), (a2, .inl (cB, 600, .inl (zi_F G))), (o, .inl (cO, 1, .inr (.inl f)))] sz)) 1 6 (va_A [(x, .inr (4, [.ref q, .ref q2, .ref hh, .int (zi_n rd), .int (zi_n br)])), (q, .inr (3, [.ref a, .int (zi_n n)])), (q2, .inr (3, [.ref a2, .int (zi_n k)])), (hh, .inr (2, [.ref q])), (a, .inl (cA, 600, .inl (zi_F F))), (a2, .inl (cB, 600, .inl (zi_F G))), (o, .inl (cO, 1, .inr (.inl f)))] sz) := by
  refine va_MetW (cc := cL_first) (maxL := 5) (ret := some .int) (hh := [(0, 10, 13, 13)]) (by decide) rfl ?_
  intro p e s m args below meth c s₁ B hml hv
  obtain ⟨rfl, ⟨hsz, hP, hK, hD0⟩, hca, hstr, hZU, hZN⟩ := hv
  have hx := B.exec
  have hb := B.bytes
  have hr := B.returns
  have hts0 := atoms_spec (ws := wtL_first) B.pre
  have hown : s.vm.findClass RL = some m.cls := findClass_of_methodNamed B.named
  subst hsz
  have hD := hD0.self (sz := s.heap.size)
  generalize hAe : va_A [(x, .inr (4, [.ref q, .ref q2, .ref hh, .int (zi_n rd), .int (zi_n br)])), (q, .inr (3, [.ref a, .int (zi_n n)])), (q2, .inr (3, [.ref a2, .int (zi_n k)])), (hh, .inr (2, [.ref q])), (a, .inl (cA, 600, .inl (zi_F F))), (a2, .inl (cB, 600, .inl (zi_F G))), (o, .inl (cO, 1, .inr (.inl f)))] s.heap.size = A at hD hZU hZN ⊢
  have hA : ∀ q : Nat, s.heap.size ≤ q → A q := fun q h => by rw [← hAe]; exact Or.inr h
  have hS : va_S A s.heap s.heap [] := va_S.rf
  have hP : va_P D vwCl [(x, .inr (4, [.ref q, .ref q2, .ref hh, .int (zi_n rd), .int (zi_n br)])), (q, .inr (3, [.ref a, .int (zi_n n)])), (q2, .inr (3, [.ref a2, .int (zi_n k)])), (hh, .inr (2, [.ref q])), (a, .inl (cA, 600, .inl (zi_F F))), (a2, .inl (cB, 600, .inl (zi_F G))), (o, .inl (cO, 1, .inr (.inl f)))] s.heap := hP
  have hl := lv_entry ([.ref x, .int (zi_n p0), .int (zi_n p1), .ref o]) (n := 5) (Nat.le_of_ble_eq_true rfl)
  rw [lg_entry_eq]
  generalize (lg_sl ([.ref x, .int (zi_n p0), .int (zi_n p1), .ref o]) ++ List.replicate (5 - (lg_sl ([.ref x, .int (zi_n p0), .int (zi_n p1), .ref o])).length) Slot.unset).toArray = ls at hl ⊢
  have hl : lv_has ls 5 [(0, .ref x), (1, .int (zi_n p0)), (2, .int (zi_n p1)), (3, .ref o)] := hl
  have hts : ∀ w ∈ wsL_first, w.before (([.ref x, .int (zi_n p0), .int (zi_n p1), .ref o] : List Value).toArray) s = true := fun w h => hts0 w (List.mem_cons_of_mem _ (List.mem_cons_of_mem _ h))
  have htab : c.exceptionTable.toList = [] ++ ⟨0, 10, 13, 13⟩ :: [] := (vx_table (x := yL_first) (hh := [(0, 10, 13, 13)]) B (hts0 _ List.mem_cons_self)).trans rfl
  refine lv_aload_n hx hb dL_first_0 rfl (lv_at hl 3 rfl) ?_
  refine zr_iconst hx hb dL_first_1 ?_
  refine lv_aload_n hx hb dL_first_2 rfl (lv_at hl 0 rfl) ?_
  refine lv_iload_n hx hb dL_first_3 rfl (lv_at hl 1 rfl) ?_
  refine lv_iload_n hx hb dL_first_4 rfl (lv_at hl 2 rfl) ?_
  have hPc := hP.sub (ws' := [(x, .inr (4, [.ref q, .ref q2, .ref hh, .int (zi_n rd), .int (zi_n br)])), (q, .inr (3, [.ref a, .int (zi_n n)])), (q2, .inr (3, [.ref a2, .int (zi_n k)])), (hh, .inr (2, [.ref q])), (a, .inl (cA, 600, .inl (zi_F F))), (a2, .inl (cB, 600, .inl (zi_F G)))]) [0, 1, 2, 3, 4, 5] rfl
  have hDc := hD.sub (ws' := [(x, .inr (4, [.ref q, .ref q2, .ref hh, .int (zi_n rd), .int (zi_n br)])), (q, .inr (3, [.ref a, .int (zi_n n)])), (q2, .inr (3, [.ref a2, .int (zi_n k)])), (hh, .inr (2, [.ref q])), (a, .inl (cA, 600, .inl (zi_F F))), (a2, .inl (cB, 600, .inl (zi_F G)))]) [0, 1, 2, 3, 4, 5] (by decide) rfl
  have hKc := hK.sub (tys' := [(cA, .int), (cB, .int)]) [0, 1] rfl
  have hFc := va_free (wc := [(x, .inr (4, [.ref q, .ref q2, .ref hh, .int (zi_n rd), .int (zi_n br)])), (q, .inr (3, [.ref a, .int (zi_n n)])), (q2, .inr (3, [.ref a2, .int (zi_n k)])), (hh, .inr (2, [.ref q])), (a, .inl (cA, 600, .inl (zi_F F))), (a2, .inl (cB, 600, .inl (zi_F G)))]) hD hS hA [0, 1, 2, 3, 4, 5] rfl
  refine vx_calli (vx_runV (As := [.int (zi_n p0), .int (zi_n p1)]) (rest := [.int (zi_n 0), .ref o]) ⟨hx, hb, hml, hown, hts0⟩ (t_Z_first l htr D x q q2 hh a a2 cA cB F G n k rd br hF hn hG hk hrd hbr s.heap.size p0 p1 hR rp0 bp1 hp sa) (cwV 2 hts0 gtL_first rfl rfl rfl (by decide +kernel) ⟨(Nat.le_of_ble_eq_true rfl), (Nat.le_of_ble_eq_true rfl)⟩) ⟨zp_X_blind rfl, va_recv hKc hPc (ci := 4) (q0 := 0) rfl rfl, fun U hU hW => ⟨rfl, ⟨by rw [hU], by rw [hU]; exact hPc, va_K.moved hW.alike hKc, hDc.weaken (fun _ _ _ _ => trivial)⟩, zn_P_warm rfl hW hca, vk_R.warm hW hstr, by rw [hU]; exact vx_Zq.moved hW.alike (hZU.narrow hFc), by rw [hU]; exact vx_Zq.moved hW.alike (hZN.narrow hFc)⟩⟩ rfl rfl hl.1 rfl (lv_room (Nat.le_of_ble_eq_true rfl)) dL_first_5 ⟨(Nat.le_of_ble_eq_true rfl), (Nat.le_of_ble_eq_true rfl)⟩) hS (fun _ _ h => h.elim) hFc (fun q h1 h2 => absurd h1 (Nat.not_lt.mpr h2)) (fun E ce q9 u t H1 locs1 ht hal hpx hBX hz1 hk1 hS1 hc9 hv9 hcl9 => ?_) (fun r u t H1 locs1 ht hal hp9 => hp9.elim)
  subst hBX
  have hP1 := hP.kept (fun k x hx9 => hk1 x.1 ((hP k x hx9).lt) (Nat.not_le.mpr ((hP k x hx9).lt)))
  refine vx_catch (own := RL) (name := RJx00060) hown [] ⟨0, 10, 13, 13⟩ [] htab (fun z hz => nomatch hz) (by decide) (by decide) (hts (.classLink RL 13 RJx00060) (by decide +kernel)) (va_Nw.use rfl (hca _ List.mem_cons_self)) hc9 hv9 hcl9 ?_
  refine W.eq (g2 := F0 m 13 ls [.ref q9]) rfl ?_
  refine W.widen (k := 1) (n := 6) (by decide) (by decide) ?_
  refine lv_astore (lv' := [(4, .ref q9), (0, .ref x), (1, .int (zi_n p0)), (2, .int (zi_n p1)), (3, .ref o)]) hx hb dL_first_13 hl (by decide) rfl (fun ls hl => ?_)
  refine zr_iconst hx hb dL_first_15 ?_
  exact W.iret (v := zi_n 1) hx hb hr (fun t ht hW => ⟨⟨zi_n 1, (), rfl, rfl, by rw [ht]; exact hP1, va_K.moved hW.alike hK, hD⟩, hS1.F ht⟩) hS1.2.2 dL_first_16
set_option maxHeartbeats 4000000 in
set_option maxRecDepth 100000 in
theorem c_L_sign (l : Launch) (D : va_G) (x q q2 hh a a2 : Nat) (cA cB : ClassId) (F G : Nat → Int) (n k rd br : Int) (hF : zi_By F) (hn : 0 ≤ n ∧ n ≤ 600) (hG : zi_By G) (hk : 0 ≤ k ∧ k ≤ 600) (hrd : rd = 0 ∨ rd = 1) (hbr : 0 ≤ br ∧ br ≤ 15) (o : Nat) (cO : ClassId) (f : Nat → Int64) (sz : Nat) (p0 : Int) (hR : rd = 1 → (64 ≤ n ∧ k = n) ∧ (1 ≤ F 0 ∧ F 0 ≤ 8) ∧ (64 ≤ zh_len F n ∧ zh_len F n ≤ n) ∧ (64 ≤ zh_t F 14 ∧ zh_t F 14 ≤ zh_len F n) ∧ (64 ≤ zh_t F 12 ∧ zh_t F 12 + 480 ≤ zh_t F 14) ∧ (64 ≤ zh_t F 8 ∧ 0 ≤ zh_sg F n ∧ 4 ≤ zh_eb F n)) (rp0 : zi_R p0) (hp : rd = 0 ∨ (0 ≤ p0 ∧ p0 < zh_sg F n)) : Met l yL_sign wsL_sign ({ frames := 4, cells := 0, slots := 0, locals := 82 }) (va_Pc [.ref x, .int (zi_n p0), .ref o] (zp_P D vwCl sz [(x, .inr (4, [.ref q, .ref q2, .ref hh, .int (zi_n rd), .int (zi_n br)])), (q, .inr (3, [.ref a, .int (zi_n n)])), (q2, .inr (3, [.ref a2, .int (zi_n k)])), (hh, .inr (2, [.ref q])), (a, .inl (cA, 600, .inl (zi_F F))), (a2, .inl (cB, 600, .inl (zi_F G))), (o, .inl (cO, 1, .inr (.inl f)))] [(cA, .int), (cB, .int), (cO, .long)])) (va_Qi (fun (r : Int32) (_ : Unit) => r = zi_n 0 ∧ -11 ≤ zh_sgE F n rd p0 ∧ zh_sgE F n rd p0 ≤ 255) (fun _ => zp_B D vwCl [(cA, .int), (cB, .int), (cO, .long)] (va_A [(x, .inr (4, [.ref q, .ref q2, .ref hh, .int (zi_n rd), .int (zi_n br)])), (q, .inr (3, [.ref a, .int (zi_n n)])), (q2, .inr (3, [.ref a2, .int (zi_n k)])), (hh, .inr (2, [.ref q])), (a, .inl (cA, 600, .inl (zi_F F))), (a2, .inl (cB, 600, .inl (zi_F G))), (o, .inl (cO, 1, .inr (.inl f)))] sz) [(x, .inr (4, [.ref q, .ref q2, .ref hh, .int (zi_n rd), .int (zi_n br)])), (q, .inr (3, [.ref a, .int (zi_n n)])), (q2, .inr (3, [.ref a2, .int (zi_n k)])), (hh, .inr (2, [.ref q])), (a, .inl (cA, 600, .inl (zi_F F))), (a2, .inl (cB, 600, .inl (zi_F G))), (o, .inl (cO, 1, .inr (.inl (vp_updL f 0 (zi_n (zh_sgE F n rd p0)).toInt64))))]) (va_A [(x, .inr (4, [.ref q, .ref q2, .ref hh, .int (zi_n rd), .int (zi_n br)])), (q, .inr (3, [.ref a, .int (zi_n n)])), (q2, .inr (3, [.ref a2, .int (zi_n k)])), (hh, .inr (2, [.ref q])), (a, .inl (cA, 600, .inl (zi_F F))), (a2, .inl (cB, 600, .inl (zi_F G))), (o, .inl (cO, 1, .inr (.inl f)))] sz)) 0 0 (va_A [(x, .inr (4, [.ref q, .ref q2, .ref hh, .int (zi_n rd), .int (zi_n br)])), (q, .inr (3, [.ref a, .int (zi_n n)])), (q2, .inr (3, [.ref a2, .int (zi_n k)])), (hh, .inr (2, [.ref q])), (a, .inl (cA, 600, .inl (zi_F F))), (a2, .inl (cB, 600, .inl (zi_F G))), (o, .inl (cO, 1, .inr (.inl f)))] sz) := by
  refine va_MetW (cc := cL_sign) (maxL := 4) (ret := some .int) (hh := [(0, 9, 12, 13)]) (by decide) rfl ?_
  intro p e s m args below meth c s₁ B hml hv
  obtain ⟨rfl, hsz, hP, hK, hD0⟩ := hv
  have hx := B.exec
  have hb := B.bytes
  have hr := B.returns
  have hts0 := atoms_spec (ws := wsL_sign) B.pre
  have hown : s.vm.findClass RL = some m.cls := findClass_of_methodNamed B.named
  subst hsz
  have hD := hD0.self (sz := s.heap.size)
  generalize hAe : va_A [(x, .inr (4, [.ref q, .ref q2, .ref hh, .int (zi_n rd), .int (zi_n br)])), (q, .inr (3, [.ref a, .int (zi_n n)])), (q2, .inr (3, [.ref a2, .int (zi_n k)])), (hh, .inr (2, [.ref q])), (a, .inl (cA, 600, .inl (zi_F F))), (a2, .inl (cB, 600, .inl (zi_F G))), (o, .inl (cO, 1, .inr (.inl f)))] s.heap.size = A at hD ⊢
  have hA : ∀ q : Nat, s.heap.size ≤ q → A q := fun q h => by rw [← hAe]; exact Or.inr h
  have hS : va_S A s.heap s.heap [] := va_S.rf
  have hP : va_P D vwCl [(x, .inr (4, [.ref q, .ref q2, .ref hh, .int (zi_n rd), .int (zi_n br)])), (q, .inr (3, [.ref a, .int (zi_n n)])), (q2, .inr (3, [.ref a2, .int (zi_n k)])), (hh, .inr (2, [.ref q])), (a, .inl (cA, 600, .inl (zi_F F))), (a2, .inl (cB, 600, .inl (zi_F G))), (o, .inl (cO, 1, .inr (.inl f)))] s.heap := hP
  have hl := lv_entry ([.ref x, .int (zi_n p0), .ref o]) (n := 4) (Nat.le_of_ble_eq_true rfl)
  rw [lg_entry_eq]
  generalize (lg_sl ([.ref x, .int (zi_n p0), .ref o]) ++ List.replicate (4 - (lg_sl ([.ref x, .int (zi_n p0), .ref o])).length) Slot.unset).toArray = ls at hl ⊢
  have hl : lv_has ls 4 [(0, .ref x), (1, .int (zi_n p0)), (2, .ref o)] := hl
  refine lv_aload_n hx hb dL_sign_0 rfl (lv_at hl 2 rfl) ?_
  refine zr_iconst hx hb dL_sign_1 ?_
  refine lv_aload_n hx hb dL_sign_2 rfl (lv_at hl 0 rfl) ?_
  refine lv_iload_n hx hb dL_sign_3 rfl (lv_at hl 1 rfl) ?_
  refine zc_V (As := [.int (zi_n p0)]) (rest := [.int (zi_n 0), .ref o]) ⟨hx, hb, hml, hown, hts0⟩ (c_Z_sign l D x q q2 hh a a2 cA cB F G n k rd br hF hn hG hk hrd hbr p0 hR rp0 hp) (cwV 1 hts0 gL_sign_X3_sign rfl rfl rfl (by decide +kernel) ⟨(Nat.le_of_ble_eq_true rfl), (Nat.le_of_ble_eq_true rfl)⟩) hP hK [0, 1, 2, 3, 4, 5] [0, 1] rfl rfl (ci := 4) rfl rfl rfl rfl hl.1 rfl (Nat.le_of_ble_eq_true rfl) dL_sign_4 ⟨Nat.zero_le _, Nat.zero_le _⟩ (fun r hr1 => ?_)
  obtain ⟨rfl, hE⟩ := hr1
  refine lv_i2l hx hb dL_sign_7 rfl ?_
  refine va_last hx hb hK hP hD hS 6 2 rfl rfl (zi_in (a := 0) ⟨by decide, by decide⟩ (by decide)) dL_sign_8 (fun H locs hP hD hS => ?_)
  have hP : va_P D vwCl [(x, .inr (4, [.ref q, .ref q2, .ref hh, .int (zi_n rd), .int (zi_n br)])), (q, .inr (3, [.ref a, .int (zi_n n)])), (q2, .inr (3, [.ref a2, .int (zi_n k)])), (hh, .inr (2, [.ref q])), (a, .inl (cA, 600, .inl (zi_F F))), (a2, .inl (cB, 600, .inl (zi_F G))), (o, .inl (cO, 1, .inr (.inl (vp_updL f 0 (zi_n (zh_sgE F n rd p0)).toInt64))))] H := hP
  have hD : va_D A [(x, .inr (4, [.ref q, .ref q2, .ref hh, .int (zi_n rd), .int (zi_n br)])), (q, .inr (3, [.ref a, .int (zi_n n)])), (q2, .inr (3, [.ref a2, .int (zi_n k)])), (hh, .inr (2, [.ref q])), (a, .inl (cA, 600, .inl (zi_F F))), (a2, .inl (cB, 600, .inl (zi_F G))), (o, .inl (cO, 1, .inr (.inl (vp_updL f 0 (zi_n (zh_sgE F n rd p0)).toInt64))))] := hD
  refine lv_goto (tgt := 15) hx hb dL_sign_9 (by decide) ?_
  refine zr_iconst hx hb dL_sign_15 ?_
  exact W.iret (v := zi_n 0) hx hb hr (fun t ht hW => ⟨⟨zi_n 0, (), rfl, ⟨rfl, hE⟩, by rw [ht]; exact hP, va_K.moved hW.alike hK, hD⟩, hS.F ht⟩) hS.2.2 dL_sign_16
def wtL_sign : List Cond := .codeWith yL_sign cL_sign 4 (some .int) [(0, 9, 12, 13)] :: .methodLink RX3 90 (Bundle.initS RJx00060) :: wsL_sign
theorem gtL_sign : GoodIn wtL_sign (wsV RL 25 RX3 yX3_sign wtX3_sign) := zg_ext gL_sign_X3_sign List.mem_cons_self rfl
theorem gtL_law_sign : GoodIn (.methodLink RX3 90 (Bundle.initS RJx00060) :: wsL_law) (va_wsS RL 127 yL_sign wtL_sign) := zg_extS gL_law_L_sign List.mem_cons_self rfl
set_option maxHeartbeats 4000000 in
set_option maxRecDepth 100000 in
theorem t_L_sign (l : Launch) (htr : l.stackTraces = false) (D : va_G) (x q q2 hh a a2 : Nat) (cA cB : ClassId) (F G : Nat → Int) (n k rd br : Int) (hF : zi_By F) (hn : 0 ≤ n ∧ n ≤ 600) (hG : zi_By G) (hk : 0 ≤ k ∧ k ≤ 600) (hrd : rd = 0 ∨ rd = 1) (hbr : 0 ≤ br ∧ br ≤ 15) (o : Nat) (cO : ClassId) (f : Nat → Int64) (sz : Nat) (p0 : Int) (hR : rd = 1 → (64 ≤ n ∧ k = n) ∧ (1 ≤ F 0 ∧ F 0 ≤ 8) ∧ (64 ≤ zh_len F n ∧ zh_len F n ≤ n) ∧ (64 ≤ zh_t F 14 ∧ zh_t F 14 ≤ zh_len F n) ∧ (64 ≤ zh_t F 12 ∧ zh_t F 12 + 480 ≤ zh_t F 14) ∧ (64 ≤ zh_t F 8 ∧ 0 ≤ zh_sg F n ∧ 4 ≤ zh_eb F n)) (rp0 : zi_R p0) (hp : rd = 1 ∧ (¬ (0 ≤ p0 ∧ p0 < zh_sg F n))) (sa : Nat) : Met l yL_sign wtL_sign ({ frames := 8, cells := 1, slots := 6, locals := 116 }) (va_Pc [.ref x, .int (zi_n p0), .ref o] (zp_X D vwCl sz [(x, .inr (4, [.ref q, .ref q2, .ref hh, .int (zi_n rd), .int (zi_n br)])), (q, .inr (3, [.ref a, .int (zi_n n)])), (q2, .inr (3, [.ref a2, .int (zi_n k)])), (hh, .inr (2, [.ref q])), (a, .inl (cA, 600, .inl (zi_F F))), (a2, .inl (cB, 600, .inl (zi_F G))), (o, .inl (cO, 1, .inr (.inl f)))] [(cA, .int), (cB, .int), (cO, .long)] zn_A 154 "there is no such sign" sa)) (va_Qi (fun (r : Int32) (_ : Unit) => r = zi_n 1) (fun _ => zp_B D vwCl [(cA, .int), (cB, .int), (cO, .long)] (va_A [(x, .inr (4, [.ref q, .ref q2, .ref hh, .int (zi_n rd), .int (zi_n br)])), (q, .inr (3, [.ref a, .int (zi_n n)])), (q2, .inr (3, [.ref a2, .int (zi_n k)])), (hh, .inr (2, [.ref q])), (a, .inl (cA, 600, .inl (zi_F F))), (a2, .inl (cB, 600, .inl (zi_F G))), (o, .inl (cO, 1, .inr (.inl f)))] sz) [(x, .inr (4, [.ref q, .ref q2, .ref hh, .int (zi_n rd), .int (zi_n br)])), (q, .inr (3, [.ref a, .int (zi_n n)])), (q2, .inr (3, [.ref a2, .int (zi_n k)])), (hh, .inr (2, [.ref q])), (a, .inl (cA, 600, .inl (zi_F F))), (a2, .inl (cB, 600, .inl (zi_F G))), (o, .inl (cO, 1, .inr (.inl f)))]) (va_A [(x, .inr (4, [.ref q, .ref q2, .ref hh, .int (zi_n rd), .int (zi_n br)])), (q, .inr (3, [.ref a, .int (zi_n n)])), (q2, .inr (3, [.ref a2, .int (zi_n k)])), (hh, .inr (2, [.ref q])), (a, .inl (cA, 600, .inl (zi_F F))), (a2, .inl (cB, 600, .inl (zi_F G))), (o, .inl (cO, 1, .inr (.inl f)))] sz)) 1 6 (va_A [(x, .inr (4, [.ref q, .ref q2, .ref hh, .int (zi_n rd), .int (zi_n br)])), (q, .inr (3, [.ref a, .int (zi_n n)])), (q2, .inr (3, [.ref a2, .int (zi_n k)])), (hh, .inr (2, [.ref q])), (a, .inl (cA, 600, .inl (zi_F F))), (a2, .inl (cB, 600, .inl (zi_F G))), (o, .inl (cO, 1, .inr (.inl f)))] sz) := by
  refine va_MetW (cc := cL_sign) (maxL := 4) (ret := some .int) (hh := [(0, 9, 12, 13)]) (by decide) rfl ?_
  intro p e s m args below meth c s₁ B hml hv
  obtain ⟨rfl, ⟨hsz, hP, hK, hD0⟩, hca, hstr, hZU, hZN⟩ := hv
  have hx := B.exec
  have hb := B.bytes
  have hr := B.returns
  have hts0 := atoms_spec (ws := wtL_sign) B.pre
  have hown : s.vm.findClass RL = some m.cls := findClass_of_methodNamed B.named
  subst hsz
  have hD := hD0.self (sz := s.heap.size)
  generalize hAe : va_A [(x, .inr (4, [.ref q, .ref q2, .ref hh, .int (zi_n rd), .int (zi_n br)])), (q, .inr (3, [.ref a, .int (zi_n n)])), (q2, .inr (3, [.ref a2, .int (zi_n k)])), (hh, .inr (2, [.ref q])), (a, .inl (cA, 600, .inl (zi_F F))), (a2, .inl (cB, 600, .inl (zi_F G))), (o, .inl (cO, 1, .inr (.inl f)))] s.heap.size = A at hD hZU hZN ⊢
  have hA : ∀ q : Nat, s.heap.size ≤ q → A q := fun q h => by rw [← hAe]; exact Or.inr h
  have hS : va_S A s.heap s.heap [] := va_S.rf
  have hP : va_P D vwCl [(x, .inr (4, [.ref q, .ref q2, .ref hh, .int (zi_n rd), .int (zi_n br)])), (q, .inr (3, [.ref a, .int (zi_n n)])), (q2, .inr (3, [.ref a2, .int (zi_n k)])), (hh, .inr (2, [.ref q])), (a, .inl (cA, 600, .inl (zi_F F))), (a2, .inl (cB, 600, .inl (zi_F G))), (o, .inl (cO, 1, .inr (.inl f)))] s.heap := hP
  have hl := lv_entry ([.ref x, .int (zi_n p0), .ref o]) (n := 4) (Nat.le_of_ble_eq_true rfl)
  rw [lg_entry_eq]
  generalize (lg_sl ([.ref x, .int (zi_n p0), .ref o]) ++ List.replicate (4 - (lg_sl ([.ref x, .int (zi_n p0), .ref o])).length) Slot.unset).toArray = ls at hl ⊢
  have hl : lv_has ls 4 [(0, .ref x), (1, .int (zi_n p0)), (2, .ref o)] := hl
  have hts : ∀ w ∈ wsL_sign, w.before (([.ref x, .int (zi_n p0), .ref o] : List Value).toArray) s = true := fun w h => hts0 w (List.mem_cons_of_mem _ (List.mem_cons_of_mem _ h))
  have htab : c.exceptionTable.toList = [] ++ ⟨0, 9, 12, 13⟩ :: [] := (vx_table (x := yL_sign) (hh := [(0, 9, 12, 13)]) B (hts0 _ List.mem_cons_self)).trans rfl
  refine lv_aload_n hx hb dL_sign_0 rfl (lv_at hl 2 rfl) ?_
  refine zr_iconst hx hb dL_sign_1 ?_
  refine lv_aload_n hx hb dL_sign_2 rfl (lv_at hl 0 rfl) ?_
  refine lv_iload_n hx hb dL_sign_3 rfl (lv_at hl 1 rfl) ?_
  have hPc := hP.sub (ws' := [(x, .inr (4, [.ref q, .ref q2, .ref hh, .int (zi_n rd), .int (zi_n br)])), (q, .inr (3, [.ref a, .int (zi_n n)])), (q2, .inr (3, [.ref a2, .int (zi_n k)])), (hh, .inr (2, [.ref q])), (a, .inl (cA, 600, .inl (zi_F F))), (a2, .inl (cB, 600, .inl (zi_F G)))]) [0, 1, 2, 3, 4, 5] rfl
  have hDc := hD.sub (ws' := [(x, .inr (4, [.ref q, .ref q2, .ref hh, .int (zi_n rd), .int (zi_n br)])), (q, .inr (3, [.ref a, .int (zi_n n)])), (q2, .inr (3, [.ref a2, .int (zi_n k)])), (hh, .inr (2, [.ref q])), (a, .inl (cA, 600, .inl (zi_F F))), (a2, .inl (cB, 600, .inl (zi_F G)))]) [0, 1, 2, 3, 4, 5] (by decide) rfl
  have hKc := hK.sub (tys' := [(cA, .int), (cB, .int)]) [0, 1] rfl
  have hFc := va_free (wc := [(x, .inr (4, [.ref q, .ref q2, .ref hh, .int (zi_n rd), .int (zi_n br)])), (q, .inr (3, [.ref a, .int (zi_n n)])), (q2, .inr (3, [.ref a2, .int (zi_n k)])), (hh, .inr (2, [.ref q])), (a, .inl (cA, 600, .inl (zi_F F))), (a2, .inl (cB, 600, .inl (zi_F G)))]) hD hS hA [0, 1, 2, 3, 4, 5] rfl
  refine vx_calli (vx_runV (As := [.int (zi_n p0)]) (rest := [.int (zi_n 0), .ref o]) ⟨hx, hb, hml, hown, hts0⟩ (t_Z_sign l htr D x q q2 hh a a2 cA cB F G n k rd br hF hn hG hk hrd hbr s.heap.size p0 hR rp0 hp sa) (cwV 1 hts0 gtL_sign rfl rfl rfl (by decide +kernel) ⟨(Nat.le_of_ble_eq_true rfl), (Nat.le_of_ble_eq_true rfl)⟩) ⟨zp_X_blind rfl, va_recv hKc hPc (ci := 4) (q0 := 0) rfl rfl, fun U hU hW => ⟨rfl, ⟨by rw [hU], by rw [hU]; exact hPc, va_K.moved hW.alike hKc, hDc.weaken (fun _ _ _ _ => trivial)⟩, zn_P_warm rfl hW hca, vk_R.warm hW hstr, by rw [hU]; exact vx_Zq.moved hW.alike (hZU.narrow hFc), by rw [hU]; exact vx_Zq.moved hW.alike (hZN.narrow hFc)⟩⟩ rfl rfl hl.1 rfl (lv_room (Nat.le_of_ble_eq_true rfl)) dL_sign_4 ⟨(Nat.le_of_ble_eq_true rfl), (Nat.le_of_ble_eq_true rfl)⟩) hS (fun _ _ h => h.elim) hFc (fun q h1 h2 => absurd h1 (Nat.not_lt.mpr h2)) (fun E ce q9 u t H1 locs1 ht hal hpx hBX hz1 hk1 hS1 hc9 hv9 hcl9 => ?_) (fun r u t H1 locs1 ht hal hp9 => hp9.elim)
  subst hBX
  have hP1 := hP.kept (fun k x hx9 => hk1 x.1 ((hP k x hx9).lt) (Nat.not_le.mpr ((hP k x hx9).lt)))
  refine vx_catch (own := RL) (name := RJx00060) hown [] ⟨0, 9, 12, 13⟩ [] htab (fun z hz => nomatch hz) (by decide) (by decide) (hts (.classLink RL 13 RJx00060) (by decide +kernel)) (va_Nw.use rfl (hca _ List.mem_cons_self)) hc9 hv9 hcl9 ?_
  refine W.eq (g2 := F0 m 12 ls [.ref q9]) rfl ?_
  refine W.widen (k := 1) (n := 6) (by decide) (by decide) ?_
  refine lv_astore_n (lv' := [(3, .ref q9), (0, .ref x), (1, .int (zi_n p0)), (2, .ref o)]) hx hb dL_sign_12 rfl hl (by decide) rfl (fun ls hl => ?_)
  refine zr_iconst hx hb dL_sign_13 ?_
  exact W.iret (v := zi_n 1) hx hb hr (fun t ht hW => ⟨⟨zi_n 1, (), rfl, rfl, by rw [ht]; exact hP1, va_K.moved hW.alike hK, hD⟩, hS1.F ht⟩) hS1.2.2 dL_sign_14
set_option maxHeartbeats 4000000 in
set_option maxRecDepth 100000 in
theorem c_L_ratio (l : Launch) (D : va_G) (x q q2 hh a a2 : Nat) (cA cB : ClassId) (F G : Nat → Int) (n k rd br : Int) (hF : zi_By F) (hn : 0 ≤ n ∧ n ≤ 600) (hG : zi_By G) (hk : 0 ≤ k ∧ k ≤ 600) (hrd : rd = 0 ∨ rd = 1) (hbr : 0 ≤ br ∧ br ≤ 15) (o : Nat) (cO : ClassId) (f : Nat → Int64) (sz : Nat) (p0 : Int) (hR : rd = 1 → (64 ≤ n ∧ k = n) ∧ (1 ≤ F 0 ∧ F 0 ≤ 8) ∧ (64 ≤ zh_len F n ∧ zh_len F n ≤ n) ∧ (64 ≤ zh_t F 14 ∧ zh_t F 14 ≤ zh_len F n) ∧ (64 ≤ zh_t F 12 ∧ zh_t F 12 + 480 ≤ zh_t F 14) ∧ (64 ≤ zh_t F 8 ∧ 0 ≤ zh_sg F n ∧ 4 ≤ zh_eb F n)) (bp0 : p0 = 0 ∨ p0 = 1) (hp : rd = 0 ∨ zh_dv F n p0 ≠ 0) : Met l yL_ratio wsL_ratio ({ frames := 5, cells := 0, slots := 0, locals := 105 }) (va_Pc [.ref x, .int (zi_n p0), .ref o] (zp_P D vwCl sz [(x, .inr (4, [.ref q, .ref q2, .ref hh, .int (zi_n rd), .int (zi_n br)])), (q, .inr (3, [.ref a, .int (zi_n n)])), (q2, .inr (3, [.ref a2, .int (zi_n k)])), (hh, .inr (2, [.ref q])), (a, .inl (cA, 600, .inl (zi_F F))), (a2, .inl (cB, 600, .inl (zi_F G))), (o, .inl (cO, 1, .inr (.inl f)))] [(cA, .int), (cB, .int), (cO, .long)])) (va_Qi (fun (r : Int32) (_ : Unit) => r = zi_n 0 ∧ -600 ≤ zh_raE F n rd p0 ∧ zh_raE F n rd p0 ≤ 600) (fun _ => zp_B D vwCl [(cA, .int), (cB, .int), (cO, .long)] (va_A [(x, .inr (4, [.ref q, .ref q2, .ref hh, .int (zi_n rd), .int (zi_n br)])), (q, .inr (3, [.ref a, .int (zi_n n)])), (q2, .inr (3, [.ref a2, .int (zi_n k)])), (hh, .inr (2, [.ref q])), (a, .inl (cA, 600, .inl (zi_F F))), (a2, .inl (cB, 600, .inl (zi_F G))), (o, .inl (cO, 1, .inr (.inl f)))] sz) [(x, .inr (4, [.ref q, .ref q2, .ref hh, .int (zi_n rd), .int (zi_n br)])), (q, .inr (3, [.ref a, .int (zi_n n)])), (q2, .inr (3, [.ref a2, .int (zi_n k)])), (hh, .inr (2, [.ref q])), (a, .inl (cA, 600, .inl (zi_F F))), (a2, .inl (cB, 600, .inl (zi_F G))), (o, .inl (cO, 1, .inr (.inl (vp_updL f 0 (zi_n (zh_raE F n rd p0)).toInt64))))]) (va_A [(x, .inr (4, [.ref q, .ref q2, .ref hh, .int (zi_n rd), .int (zi_n br)])), (q, .inr (3, [.ref a, .int (zi_n n)])), (q2, .inr (3, [.ref a2, .int (zi_n k)])), (hh, .inr (2, [.ref q])), (a, .inl (cA, 600, .inl (zi_F F))), (a2, .inl (cB, 600, .inl (zi_F G))), (o, .inl (cO, 1, .inr (.inl f)))] sz)) 0 0 (va_A [(x, .inr (4, [.ref q, .ref q2, .ref hh, .int (zi_n rd), .int (zi_n br)])), (q, .inr (3, [.ref a, .int (zi_n n)])), (q2, .inr (3, [.ref a2, .int (zi_n k)])), (hh, .inr (2, [.ref q])), (a, .inl (cA, 600, .inl (zi_F F))), (a2, .inl (cB, 600, .inl (zi_F G))), (o, .inl (cO, 1, .inr (.inl f)))] sz) := by
  refine va_MetW (cc := cL_ratio) (maxL := 4) (ret := some .int) (hh := [(0, 9, 12, 32)]) (by decide) rfl ?_
  intro p e s m args below meth c s₁ B hml hv
  obtain ⟨rfl, hsz, hP, hK, hD0⟩ := hv
  have hx := B.exec
  have hb := B.bytes
  have hr := B.returns
  have hts0 := atoms_spec (ws := wsL_ratio) B.pre
  have hown : s.vm.findClass RL = some m.cls := findClass_of_methodNamed B.named
  subst hsz
  have hD := hD0.self (sz := s.heap.size)
  generalize hAe : va_A [(x, .inr (4, [.ref q, .ref q2, .ref hh, .int (zi_n rd), .int (zi_n br)])), (q, .inr (3, [.ref a, .int (zi_n n)])), (q2, .inr (3, [.ref a2, .int (zi_n k)])), (hh, .inr (2, [.ref q])), (a, .inl (cA, 600, .inl (zi_F F))), (a2, .inl (cB, 600, .inl (zi_F G))), (o, .inl (cO, 1, .inr (.inl f)))] s.heap.size = A at hD ⊢
  have hA : ∀ q : Nat, s.heap.size ≤ q → A q := fun q h => by rw [← hAe]; exact Or.inr h
  have hS : va_S A s.heap s.heap [] := va_S.rf
  have hP : va_P D vwCl [(x, .inr (4, [.ref q, .ref q2, .ref hh, .int (zi_n rd), .int (zi_n br)])), (q, .inr (3, [.ref a, .int (zi_n n)])), (q2, .inr (3, [.ref a2, .int (zi_n k)])), (hh, .inr (2, [.ref q])), (a, .inl (cA, 600, .inl (zi_F F))), (a2, .inl (cB, 600, .inl (zi_F G))), (o, .inl (cO, 1, .inr (.inl f)))] s.heap := hP
  have hl := lv_entry ([.ref x, .int (zi_n p0), .ref o]) (n := 4) (Nat.le_of_ble_eq_true rfl)
  rw [lg_entry_eq]
  generalize (lg_sl ([.ref x, .int (zi_n p0), .ref o]) ++ List.replicate (4 - (lg_sl ([.ref x, .int (zi_n p0), .ref o])).length) Slot.unset).toArray = ls at hl ⊢
  have hl : lv_has ls 4 [(0, .ref x), (1, .int (zi_n p0)), (2, .ref o)] := hl
  refine lv_aload_n hx hb dL_ratio_0 rfl (lv_at hl 2 rfl) ?_
  refine zr_iconst hx hb dL_ratio_1 ?_
  refine lv_aload_n hx hb dL_ratio_2 rfl (lv_at hl 0 rfl) ?_
  refine lv_iload_n hx hb dL_ratio_3 rfl (lv_at hl 1 rfl) ?_
  refine zc_V (As := [.int (zi_n p0)]) (rest := [.int (zi_n 0), .ref o]) ⟨hx, hb, hml, hown, hts0⟩ (c_Z_ratio l D x q q2 hh a a2 cA cB F G n k rd br hF hn hG hk hrd hbr p0 hR bp0 hp) (cwV 1 hts0 gL_ratio_X3_ratio rfl rfl rfl (by decide +kernel) ⟨(Nat.le_of_ble_eq_true rfl), (Nat.le_of_ble_eq_true rfl)⟩) hP hK [0, 1, 2, 3, 4, 5] [0, 1] rfl rfl (ci := 4) rfl rfl rfl rfl hl.1 rfl (Nat.le_of_ble_eq_true rfl) dL_ratio_4 ⟨Nat.zero_le _, Nat.zero_le _⟩ (fun r hr1 => ?_)
  obtain ⟨rfl, hE⟩ := hr1
  refine lv_i2l hx hb dL_ratio_7 rfl ?_
  refine va_last hx hb hK hP hD hS 6 2 rfl rfl (zi_in (a := 0) ⟨by decide, by decide⟩ (by decide)) dL_ratio_8 (fun H locs hP hD hS => ?_)
  have hP : va_P D vwCl [(x, .inr (4, [.ref q, .ref q2, .ref hh, .int (zi_n rd), .int (zi_n br)])), (q, .inr (3, [.ref a, .int (zi_n n)])), (q2, .inr (3, [.ref a2, .int (zi_n k)])), (hh, .inr (2, [.ref q])), (a, .inl (cA, 600, .inl (zi_F F))), (a2, .inl (cB, 600, .inl (zi_F G))), (o, .inl (cO, 1, .inr (.inl (vp_updL f 0 (zi_n (zh_raE F n rd p0)).toInt64))))] H := hP
  have hD : va_D A [(x, .inr (4, [.ref q, .ref q2, .ref hh, .int (zi_n rd), .int (zi_n br)])), (q, .inr (3, [.ref a, .int (zi_n n)])), (q2, .inr (3, [.ref a2, .int (zi_n k)])), (hh, .inr (2, [.ref q])), (a, .inl (cA, 600, .inl (zi_F F))), (a2, .inl (cB, 600, .inl (zi_F G))), (o, .inl (cO, 1, .inr (.inl (vp_updL f 0 (zi_n (zh_raE F n rd p0)).toInt64))))] := hD
  refine lv_goto (tgt := 15) hx hb dL_ratio_9 (by decide) ?_
  refine zr_iconst hx hb dL_ratio_15 ?_
  exact W.iret (v := zi_n 0) hx hb hr (fun t ht hW => ⟨⟨zi_n 0, (), rfl, ⟨rfl, hE⟩, by rw [ht]; exact hP, va_K.moved hW.alike hK, hD⟩, hS.F ht⟩) hS.2.2 dL_ratio_16
def wtL_ratio : List Cond := .codeWith yL_ratio cL_ratio 4 (some .int) [(0, 9, 12, 32)] :: .methodLink RX3 169 (Bundle.initS "java/lang/ArithmeticException") :: wsL_ratio
theorem gtL_ratio : GoodIn wtL_ratio (wsV RL 28 RX3 yX3_ratio wtX3_ratio) := zg_ext gL_ratio_X3_ratio List.mem_cons_self rfl
theorem gtL_law_ratio : GoodIn (.methodLink RX3 169 (Bundle.initS "java/lang/ArithmeticException") :: wsL_law) (va_wsS RL 130 yL_ratio wtL_ratio) := zg_extS gL_law_L_ratio List.mem_cons_self rfl
set_option maxHeartbeats 4000000 in
set_option maxRecDepth 100000 in
theorem t_L_ratio (l : Launch) (htr : l.stackTraces = false) (D : va_G) (x q q2 hh a a2 : Nat) (cA cB : ClassId) (F G : Nat → Int) (n k rd br : Int) (hF : zi_By F) (hn : 0 ≤ n ∧ n ≤ 600) (hG : zi_By G) (hk : 0 ≤ k ∧ k ≤ 600) (hrd : rd = 0 ∨ rd = 1) (hbr : 0 ≤ br ∧ br ≤ 15) (o : Nat) (cO : ClassId) (f : Nat → Int64) (sz : Nat) (p0 : Int) (hR : rd = 1 → (64 ≤ n ∧ k = n) ∧ (1 ≤ F 0 ∧ F 0 ≤ 8) ∧ (64 ≤ zh_len F n ∧ zh_len F n ≤ n) ∧ (64 ≤ zh_t F 14 ∧ zh_t F 14 ≤ zh_len F n) ∧ (64 ≤ zh_t F 12 ∧ zh_t F 12 + 480 ≤ zh_t F 14) ∧ (64 ≤ zh_t F 8 ∧ 0 ≤ zh_sg F n ∧ 4 ≤ zh_eb F n)) (bp0 : p0 = 0 ∨ p0 = 1) (hp : rd = 1 ∧ (zh_dv F n p0 = 0)) (sa : Nat) : Met l yL_ratio wtL_ratio ({ frames := 8, cells := 1, slots := 6, locals := 104 }) (va_Pc [.ref x, .int (zi_n p0), .ref o] (zp_X D vwCl sz [(x, .inr (4, [.ref q, .ref q2, .ref hh, .int (zi_n rd), .int (zi_n br)])), (q, .inr (3, [.ref a, .int (zi_n n)])), (q2, .inr (3, [.ref a2, .int (zi_n k)])), (hh, .inr (2, [.ref q])), (a, .inl (cA, 600, .inl (zi_F F))), (a2, .inl (cB, 600, .inl (zi_F G))), (o, .inl (cO, 1, .inr (.inl f)))] [(cA, .int), (cB, .int), (cO, .long)] zn_R 167 "there are 0 entries" sa)) (va_Qi (fun (r : Int32) (_ : Unit) => r = zi_n 1) (fun _ => zp_B D vwCl [(cA, .int), (cB, .int), (cO, .long)] (va_A [(x, .inr (4, [.ref q, .ref q2, .ref hh, .int (zi_n rd), .int (zi_n br)])), (q, .inr (3, [.ref a, .int (zi_n n)])), (q2, .inr (3, [.ref a2, .int (zi_n k)])), (hh, .inr (2, [.ref q])), (a, .inl (cA, 600, .inl (zi_F F))), (a2, .inl (cB, 600, .inl (zi_F G))), (o, .inl (cO, 1, .inr (.inl f)))] sz) [(x, .inr (4, [.ref q, .ref q2, .ref hh, .int (zi_n rd), .int (zi_n br)])), (q, .inr (3, [.ref a, .int (zi_n n)])), (q2, .inr (3, [.ref a2, .int (zi_n k)])), (hh, .inr (2, [.ref q])), (a, .inl (cA, 600, .inl (zi_F F))), (a2, .inl (cB, 600, .inl (zi_F G))), (o, .inl (cO, 1, .inr (.inl f)))]) (va_A [(x, .inr (4, [.ref q, .ref q2, .ref hh, .int (zi_n rd), .int (zi_n br)])), (q, .inr (3, [.ref a, .int (zi_n n)])), (q2, .inr (3, [.ref a2, .int (zi_n k)])), (hh, .inr (2, [.ref q])), (a, .inl (cA, 600, .inl (zi_F F))), (a2, .inl (cB, 600, .inl (zi_F G))), (o, .inl (cO, 1, .inr (.inl f)))] sz)) 1 6 (va_A [(x, .inr (4, [.ref q, .ref q2, .ref hh, .int (zi_n rd), .int (zi_n br)])), (q, .inr (3, [.ref a, .int (zi_n n)])), (q2, .inr (3, [.ref a2, .int (zi_n k)])), (hh, .inr (2, [.ref q])), (a, .inl (cA, 600, .inl (zi_F F))), (a2, .inl (cB, 600, .inl (zi_F G))), (o, .inl (cO, 1, .inr (.inl f)))] sz) := by
  refine va_MetW (cc := cL_ratio) (maxL := 4) (ret := some .int) (hh := [(0, 9, 12, 32)]) (by decide) rfl ?_
  intro p e s m args below meth c s₁ B hml hv
  obtain ⟨rfl, ⟨hsz, hP, hK, hD0⟩, hca, hstr, hZU, hZN⟩ := hv
  have hx := B.exec
  have hb := B.bytes
  have hr := B.returns
  have hts0 := atoms_spec (ws := wtL_ratio) B.pre
  have hown : s.vm.findClass RL = some m.cls := findClass_of_methodNamed B.named
  subst hsz
  have hD := hD0.self (sz := s.heap.size)
  generalize hAe : va_A [(x, .inr (4, [.ref q, .ref q2, .ref hh, .int (zi_n rd), .int (zi_n br)])), (q, .inr (3, [.ref a, .int (zi_n n)])), (q2, .inr (3, [.ref a2, .int (zi_n k)])), (hh, .inr (2, [.ref q])), (a, .inl (cA, 600, .inl (zi_F F))), (a2, .inl (cB, 600, .inl (zi_F G))), (o, .inl (cO, 1, .inr (.inl f)))] s.heap.size = A at hD hZU hZN ⊢
  have hA : ∀ q : Nat, s.heap.size ≤ q → A q := fun q h => by rw [← hAe]; exact Or.inr h
  have hS : va_S A s.heap s.heap [] := va_S.rf
  have hP : va_P D vwCl [(x, .inr (4, [.ref q, .ref q2, .ref hh, .int (zi_n rd), .int (zi_n br)])), (q, .inr (3, [.ref a, .int (zi_n n)])), (q2, .inr (3, [.ref a2, .int (zi_n k)])), (hh, .inr (2, [.ref q])), (a, .inl (cA, 600, .inl (zi_F F))), (a2, .inl (cB, 600, .inl (zi_F G))), (o, .inl (cO, 1, .inr (.inl f)))] s.heap := hP
  have hl := lv_entry ([.ref x, .int (zi_n p0), .ref o]) (n := 4) (Nat.le_of_ble_eq_true rfl)
  rw [lg_entry_eq]
  generalize (lg_sl ([.ref x, .int (zi_n p0), .ref o]) ++ List.replicate (4 - (lg_sl ([.ref x, .int (zi_n p0), .ref o])).length) Slot.unset).toArray = ls at hl ⊢
  have hl : lv_has ls 4 [(0, .ref x), (1, .int (zi_n p0)), (2, .ref o)] := hl
  have hts : ∀ w ∈ wsL_ratio, w.before (([.ref x, .int (zi_n p0), .ref o] : List Value).toArray) s = true := fun w h => hts0 w (List.mem_cons_of_mem _ (List.mem_cons_of_mem _ h))
  have htab : c.exceptionTable.toList = [] ++ ⟨0, 9, 12, 32⟩ :: [] := (vx_table (x := yL_ratio) (hh := [(0, 9, 12, 32)]) B (hts0 _ List.mem_cons_self)).trans rfl
  refine lv_aload_n hx hb dL_ratio_0 rfl (lv_at hl 2 rfl) ?_
  refine zr_iconst hx hb dL_ratio_1 ?_
  refine lv_aload_n hx hb dL_ratio_2 rfl (lv_at hl 0 rfl) ?_
  refine lv_iload_n hx hb dL_ratio_3 rfl (lv_at hl 1 rfl) ?_
  have hPc := hP.sub (ws' := [(x, .inr (4, [.ref q, .ref q2, .ref hh, .int (zi_n rd), .int (zi_n br)])), (q, .inr (3, [.ref a, .int (zi_n n)])), (q2, .inr (3, [.ref a2, .int (zi_n k)])), (hh, .inr (2, [.ref q])), (a, .inl (cA, 600, .inl (zi_F F))), (a2, .inl (cB, 600, .inl (zi_F G)))]) [0, 1, 2, 3, 4, 5] rfl
  have hDc := hD.sub (ws' := [(x, .inr (4, [.ref q, .ref q2, .ref hh, .int (zi_n rd), .int (zi_n br)])), (q, .inr (3, [.ref a, .int (zi_n n)])), (q2, .inr (3, [.ref a2, .int (zi_n k)])), (hh, .inr (2, [.ref q])), (a, .inl (cA, 600, .inl (zi_F F))), (a2, .inl (cB, 600, .inl (zi_F G)))]) [0, 1, 2, 3, 4, 5] (by decide) rfl
  have hKc := hK.sub (tys' := [(cA, .int), (cB, .int)]) [0, 1] rfl
  have hFc := va_free (wc := [(x, .inr (4, [.ref q, .ref q2, .ref hh, .int (zi_n rd), .int (zi_n br)])), (q, .inr (3, [.ref a, .int (zi_n n)])), (q2, .inr (3, [.ref a2, .int (zi_n k)])), (hh, .inr (2, [.ref q])), (a, .inl (cA, 600, .inl (zi_F F))), (a2, .inl (cB, 600, .inl (zi_F G)))]) hD hS hA [0, 1, 2, 3, 4, 5] rfl
  refine vx_calli (vx_runV (As := [.int (zi_n p0)]) (rest := [.int (zi_n 0), .ref o]) ⟨hx, hb, hml, hown, hts0⟩ (t_Z_ratio l htr D x q q2 hh a a2 cA cB F G n k rd br hF hn hG hk hrd hbr s.heap.size p0 hR bp0 hp sa) (cwV 1 hts0 gtL_ratio rfl rfl rfl (by decide +kernel) ⟨(Nat.le_of_ble_eq_true rfl), (Nat.le_of_ble_eq_true rfl)⟩) ⟨zp_X_blind rfl, va_recv hKc hPc (ci := 4) (q0 := 0) rfl rfl, fun U hU hW => ⟨rfl, ⟨by rw [hU], by rw [hU]; exact hPc, va_K.moved hW.alike hKc, hDc.weaken (fun _ _ _ _ => trivial)⟩, zn_P_warm rfl hW hca, vk_R.warm hW hstr, by rw [hU]; exact vx_Zq.moved hW.alike (hZU.narrow hFc), by rw [hU]; exact vx_Zq.moved hW.alike (hZN.narrow hFc)⟩⟩ rfl rfl hl.1 rfl (lv_room (Nat.le_of_ble_eq_true rfl)) dL_ratio_4 ⟨(Nat.le_of_ble_eq_true rfl), (Nat.le_of_ble_eq_true rfl)⟩) hS (fun _ _ h => h.elim) hFc (fun q h1 h2 => absurd h1 (Nat.not_lt.mpr h2)) (fun E ce q9 u t H1 locs1 ht hal hpx hBX hz1 hk1 hS1 hc9 hv9 hcl9 => ?_) (fun r u t H1 locs1 ht hal hp9 => hp9.elim)
  subst hBX
  have hP1 := hP.kept (fun k x hx9 => hk1 x.1 ((hP k x hx9).lt) (Nat.not_le.mpr ((hP k x hx9).lt)))
  refine vx_catch (own := RL) (name := "java/lang/ArithmeticException") hown [] ⟨0, 9, 12, 32⟩ [] htab (fun z hz => nomatch hz) (by decide) (by decide) (hts (.classLink RL 32 "java/lang/ArithmeticException") (by decide +kernel)) (va_Nw.use rfl (hca _ List.mem_cons_self)) hc9 hv9 hcl9 ?_
  refine W.eq (g2 := F0 m 12 ls [.ref q9]) rfl ?_
  refine W.widen (k := 1) (n := 6) (by decide) (by decide) ?_
  refine lv_astore_n (lv' := [(3, .ref q9), (0, .ref x), (1, .int (zi_n p0)), (2, .ref o)]) hx hb dL_ratio_12 rfl hl (by decide) rfl (fun ls hl => ?_)
  refine zr_iconst hx hb dL_ratio_13 ?_
  exact W.iret (v := zi_n 1) hx hb hr (fun t ht hW => ⟨⟨zi_n 1, (), rfl, rfl, by rw [ht]; exact hP1, va_K.moved hW.alike hK, hD⟩, hS1.F ht⟩) hS1.2.2 dL_ratio_14

/-! Calls: a read leaves the heap as it is; a write gives back its cells beside the rest. -/
abbrev zp_Q (D : va_G) (cl : List vw_C) (wc : va_W) (tc : List (ClassId × FieldType)) : State → Prop := fun U => va_P D cl wc U.heap ∧ va_K D cl tc U
abbrev zp_P (D : va_G) (cl : List vw_C) (sz : Nat) (wc : va_W) (tc : List (ClassId × FieldType)) : State → Prop := fun U => U.heap.size = sz ∧ va_P D cl wc U.heap ∧ va_K D cl tc U ∧ va_D (fun _ => True) wc
abbrev zp_B (D : va_G) (cl : List vw_C) (tc : List (ClassId × FieldType)) (A : Nat → Prop) (w1 : va_W) : State → Prop := fun t => va_P D cl w1 t.heap ∧ va_K D cl tc t ∧ va_D A w1
theorem zl_r {v E lo hi : Int} (h : E = v) (hb : lo ≤ v ∧ v ≤ hi) : zi_n v = zi_n E ∧ lo ≤ E ∧ E ≤ hi := by subst h; exact ⟨rfl, hb⟩
theorem zl_t {P : Prop} (h : P) : (zi_n 1 = zi_n 1 ∧ P) ∨ (zi_n 1 = zi_n 0 ∧ ¬ P) := Or.inl ⟨rfl, h⟩
theorem zl_f {P : Prop} (h : ¬ P) : (zi_n 0 = zi_n 1 ∧ P) ∨ (zi_n 0 = zi_n 0 ∧ ¬ P) := Or.inr ⟨rfl, h⟩
theorem zl_b1 : narrow .boolean (.int (zi_n 1)) = .int (zi_n 1) := by decide
theorem zl_b0 : narrow .boolean (.int (zi_n 0)) = .int (zi_n 0) := by decide
section ZC
variable {p : Program} {l : Launch} {e : Env} {R : Room} {s : State} {m : MethodId} {args : Array Value} {below : List Frame} {meth : Method} {c : Code} {H : Heap} {locs : List Loc} {cells slots : Nat} {Q : State → Prop}
variable {cc : ByteArray} {pc : Nat} {ls : Array Slot} {rest st0 As : List Value} {D : va_G} {cl : List vw_C} {A : Nat → Prop} {tys tc : List (ClassId × FieldType)} {ws wc wr : va_W} {H0 : Heap}
variable {Ts wsy : List Cond} {bytes : ByteArray} {nL maxL index n mc ms b ci : Nat} {own C : String} {y : MethodName} {ret : Option FieldType} {rm : Room} {q : vw_C} {fs : List Value}
theorem zr_ialdk {a : Nat} (hx : p.tables.exec = Jvm.exec) (hb : c.code = cc) (hK : va_K D cl tys s) (hP : va_P D cl ws H) (q0 t0 : Nat) {cA : ClassId} {N k : Nat} {f : Nat → Int} (ha : ws[q0]? = some (a, .inl (cA, N, .inl (zi_F f)))) (ht : tys[t0]? = some (cA, .int)) {i : Int} (hn : N ≤ 2147483647) (h0 : 0 ≤ i ∧ i < N) (hk : i.toNat = k) (hd : decode cc pc = .ok (.iaload, 1)) (kk : W p l e R s m args below meth c H locs cells slots Q (F0 m (pc + 1) ls (.int (zi_n (f k)) :: rest))) : W p l e R s m args below meth c H locs cells slots Q (F0 m pc ls (.int (zi_n i) :: .ref a :: rest)) :=
  zr_iald hx hb hK hP q0 t0 ha ht hn h0 hd (by rw [hk]; exact kk)
/-- a read of an object -/
theorem zc_V {post : Int32 → Prop} (S : CallFix p m c cc nL s args Ts own) (hM : Met l y wsy rm (va_Pc (.ref b :: As) (zp_Q D cl wc tc)) (vp_Si post) 0 0 (fun _ => False)) (cw : CallW R s args own C index y bytes maxL ret wsy rm 0 0 n)
    (hP : va_P D cl ws H) (hK : va_K D cl tys s) (is ts : List Nat) (h1 : is.filterMap (fun i => ws[i]?) = wc) (h2 : ts.filterMap (fun i => tys[i]?) = tc) (hc : cl[ci]? = some q) (hC : q.1 = C) (he : wc[0]? = some (b, .inr (ci, fs)))
    (hn : As.length = n) (hsz : ls.size = nL) (hst : st0 = As.reverse ++ .ref b :: rest) (hW : (rest.map fun v => v.category).sum ≤ 8) (hd : decode cc pc = .ok (.invokevirtual index, 3)) (hf : cells ≤ R.cells ∧ slots ≤ R.slots)
    (kk : ∀ r : Int32, post r → W p l e R s m args below meth c H locs cells slots Q (F0 m (pc + 3) ls (.int r :: rest))) : W p l e R s m args below meth c H locs cells slots Q (F0 m pc ls st0) := by
  subst hC
  exact vp_callSi (va_Run.run (va_runV S hM cw ⟨fun a U g mk q => ⟨q.1, q.2.1, va_K.moved (u := U) (U := U.calling g mk a) (Vm.Alike.refl U.vm) q.2.2⟩, va_recv hK (hP.sub is h1) hc he, fun U hU hW => ⟨rfl, by rw [hU]; exact hP.sub is h1, va_K.moved hW.alike (hK.sub ts h2)⟩⟩ rfl hn hsz hst (lv_room hW) hd hf)) kk
/-- a static method without objects -/
theorem zc_S {post : Int32 → Prop} (S : CallFix p m c cc nL s args Ts own) (hM : Met l y wsy rm (va_Pc As (fun _ => True)) (vp_Si post) 0 0 (fun _ => False)) (cw : CallB R s args own index y bytes maxL ret wsy rm 0 0 n ∧ (Cond.static y).before args s = true)
    (hn : As.length = n) (hsz : ls.size = nL) (hst : st0 = As.reverse ++ rest) (hW : (rest.map fun v => v.category).sum ≤ 8) (hd : decode cc pc = .ok (.invokestatic index, 3)) (hf : cells ≤ R.cells ∧ slots ≤ R.slots)
    (kk : ∀ r : Int32, post r → W p l e R s m args below meth c H locs cells slots Q (F0 m (pc + 3) ls (.int r :: rest))) : W p l e R s m args below meth c H locs cells slots Q (F0 m pc ls st0) :=
  vp_callSi (va_Run.run (va_runS S hM cw ⟨fun _ _ _ _ q => q, fun _ _ _ => ⟨rfl, trivial⟩⟩ rfl hn hsz hst (lv_room hW) hd hf)) kk
/-- a write that answers an int -/
theorem zc_Vi {K : Type} {post : Int32 → K → Prop} {w1 wf : K → va_W} (S : CallFix p m c cc nL s args Ts own) (hM : Met l y wsy rm (va_Pc (.ref b :: As) (zp_P D cl H.size wc tc)) (va_Qi post (fun u => zp_B D cl tc (va_A wc H.size) (w1 u)) (va_A wc H.size)) mc ms (va_A wc H.size)) (cw : CallW R s args own C index y bytes maxL ret wsy rm mc ms n)
    (hP : va_P D cl ws H) (hD : va_D A ws) (hK : va_K D cl tys s) (hS : va_S A H0 H locs) (hA : ∀ q, H0.size ≤ q → A q) (is ir ts ip : List Nat) (h1 : is.filterMap (fun i => ws[i]?) = wc) (g1 : is.map (fun i => ws[i]?) = wc.map some) (d1 : va_nd is = true) (g2 : ir.map (fun i => ws[i]?) = wr.map some) (d2 : va_nd ir = true) (d3 : ∀ i ∈ ir, i ∉ is)
    (h2 : ts.filterMap (fun i => tys[i]?) = tc) (h3 : ∀ u, ip.filterMap (fun i => (wr ++ w1 u)[i]?) = wf u) (g3 : ∀ u, ip.map (fun i => (wr ++ w1 u)[i]?) = (wf u).map some) (d4 : va_nd ip = true) (hc : cl[ci]? = some q) (hC : q.1 = C) (he : wc[0]? = some (b, .inr (ci, fs)))
    (hn : As.length = n) (hsz : ls.size = nL) (hst : st0 = As.reverse ++ .ref b :: rest) (hW : (rest.map fun v => v.category).sum ≤ 8) (hd : decode cc pc = .ok (.invokevirtual index, 3)) (hf : cells + mc ≤ R.cells ∧ slots + ms ≤ R.slots)
    (kk : ∀ (r : Int32) (u : K), post r u → ∀ (H1 : Heap) (locs1 : List Loc), va_P D cl (wf u) H1 → va_D A (wf u) → va_S A H0 H1 locs1 → W p l e R s m args below meth c H1 locs1 (cells + mc) (slots + ms) Q (F0 m (pc + 3) ls (.int r :: rest))) : W p l e R s m args below meth c H locs cells slots Q (F0 m pc ls st0) := by
  subst hC
  have hF := va_free (wc := wc) hD hS hA is g1
  refine va_calli (va_runV S hM cw ⟨fun a U g mk q => ⟨q.1, q.2.1, q.2.2.1, va_K.moved (u := U) (U := U.calling g mk a) (Vm.Alike.refl U.vm) q.2.2.2.1, q.2.2.2.2⟩, va_recv hK (hP.sub is h1) hc he, fun U hU hW => ⟨rfl, by rw [hU], by rw [hU]; exact hP.sub is h1, va_K.moved hW.alike (hK.sub ts h2), (hD.sub is d1 g1).weaken (fun _ _ _ _ => trivial)⟩⟩ rfl hn hsz hst (lv_room hW) hd hf) hS (fun q _ h => hF q h) hF (fun r u t H1 locs1 ht hvm hw hB hz1 hk1 hS1 => ?_)
  obtain ⟨hP1, -, hD1⟩ := hB
  rw [ht] at hP1
  obtain ⟨hP2, hD2⟩ := va_join (wr := wr) (w1 := w1 u) hP hD is ir g1 g2 d2 d3 hk1 hF hP1 hD1
  exact kk r u hw H1 locs1 (hP2.sub ip (h3 u)) (hD2.sub ip d4 (g3 u)) hS1
/-- a write that answers nothing -/
theorem zc_Vv {K : Type} {post : K → Prop} {w1 wf : K → va_W} (S : CallFix p m c cc nL s args Ts own) (hM : Met l y wsy rm (va_Pc (.ref b :: As) (zp_P D cl H.size wc tc)) (va_Qv post (fun u => zp_B D cl tc (va_A wc H.size) (w1 u)) (va_A wc H.size)) mc ms (va_A wc H.size)) (cw : CallW R s args own C index y bytes maxL ret wsy rm mc ms n)
    (hP : va_P D cl ws H) (hD : va_D A ws) (hK : va_K D cl tys s) (hS : va_S A H0 H locs) (hA : ∀ q, H0.size ≤ q → A q) (is ir ts ip : List Nat) (h1 : is.filterMap (fun i => ws[i]?) = wc) (g1 : is.map (fun i => ws[i]?) = wc.map some) (d1 : va_nd is = true) (g2 : ir.map (fun i => ws[i]?) = wr.map some) (d2 : va_nd ir = true) (d3 : ∀ i ∈ ir, i ∉ is)
    (h2 : ts.filterMap (fun i => tys[i]?) = tc) (h3 : ∀ u, ip.filterMap (fun i => (wr ++ w1 u)[i]?) = wf u) (g3 : ∀ u, ip.map (fun i => (wr ++ w1 u)[i]?) = (wf u).map some) (d4 : va_nd ip = true) (hc : cl[ci]? = some q) (hC : q.1 = C) (he : wc[0]? = some (b, .inr (ci, fs)))
    (hn : As.length = n) (hsz : ls.size = nL) (hst : st0 = As.reverse ++ .ref b :: rest) (hW : (rest.map fun v => v.category).sum ≤ 8) (hd : decode cc pc = .ok (.invokevirtual index, 3)) (hf : cells + mc ≤ R.cells ∧ slots + ms ≤ R.slots)
    (kk : ∀ (u : K), post u → ∀ (H1 : Heap) (locs1 : List Loc), va_P D cl (wf u) H1 → va_D A (wf u) → va_S A H0 H1 locs1 → W p l e R s m args below meth c H1 locs1 (cells + mc) (slots + ms) Q (F0 m (pc + 3) ls rest)) : W p l e R s m args below meth c H locs cells slots Q (F0 m pc ls st0) := by
  subst hC
  have hF := va_free (wc := wc) hD hS hA is g1
  refine va_callv (va_runV S hM cw ⟨fun a U g mk q => ⟨q.1, q.2.1, q.2.2.1, va_K.moved (u := U) (U := U.calling g mk a) (Vm.Alike.refl U.vm) q.2.2.2.1, q.2.2.2.2⟩, va_recv hK (hP.sub is h1) hc he, fun U hU hW => ⟨rfl, by rw [hU], by rw [hU]; exact hP.sub is h1, va_K.moved hW.alike (hK.sub ts h2), (hD.sub is d1 g1).weaken (fun _ _ _ _ => trivial)⟩⟩ rfl hn hsz hst (lv_room hW) hd hf) hS (fun q _ h => hF q h) hF (fun u t H1 locs1 ht hvm hw hB hz1 hk1 hS1 => ?_)
  obtain ⟨hP1, -, hD1⟩ := hB
  rw [ht] at hP1
  obtain ⟨hP2, hD2⟩ := va_join (wr := wr) (w1 := w1 u) hP hD is ir g1 g2 d2 d3 hk1 hF hP1 hD1
  exact kk u hw H1 locs1 (hP2.sub ip (h3 u)) (hD2.sub ip d4 (g3 u)) hS1
end ZC

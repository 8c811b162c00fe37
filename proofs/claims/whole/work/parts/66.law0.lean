/-! The law's own rows. -/
def zx (xs : Nat → Int32) (i : Int) : Int := (xs i.toNat).toInt
theorem zx_b (xs : Nat → Int32) (i : Int) : -2147483648 ≤ zx xs i ∧ zx xs i ≤ 2147483647 := zi_rng _
theorem zh_rdE_b {F : Nat → Int} {n : Int} {u : Nat} (hF : zi_By F) (hn : 0 ≤ n ∧ n ≤ 600) : -70000 ≤ zh_rdE F n u ∧ zh_rdE F n u ≤ 255 := by
  rcases Nat.eq_zero_or_pos u with h | h
  · subst h
    have h0 := hF 0
    show -70000 ≤ F 0 ∧ F 0 ≤ 255
    omega
  · have := zh_rdE_n hF hn h
    omega
section ZLaw
variable {p : Program} {l : Launch} {e : Env} {R : Room} {s : State} {m : MethodId} {args : Array Value} {below : List Frame} {meth : Method} {c : Code} {H : Heap} {locs : List Loc} {cells slots : Nat} {Q : State → Prop}
variable {cc : ByteArray} {pc : Nat} {ls : Array Slot} {rest st0 As : List Value} {D : va_G} {cl : List vw_C} {A : Nat → Prop} {tys tc : List (ClassId × FieldType)} {ws wc wr : va_W} {H0 : Heap}
variable {Ts wsy : List Cond} {bytes : ByteArray} {nL maxL index n mc ms : Nat} {own : String} {y : MethodName} {ret : Option FieldType} {rm : Room}
theorem zr_sld (hx : p.tables.exec = Jvm.exec) (hb : c.code = cc) {b L : Nat} {xs : Nat → Int32} (hX : va_X b L xs s H0) (hbl : b < H0.size) (hbA : ¬ A b) (hS : va_S A H0 H locs) {i : Int} (h0 : 0 ≤ i ∧ i < L) (hL : L ≤ 2147483647) (hd : decode cc pc = .ok (.iaload, 1))
    (k : W p l e R s m args below meth c H locs cells slots Q (F0 m (pc + 1) ls (.int (zi_n (zx xs i)) :: rest))) : W p l e R s m args below meth c H locs cells slots Q (F0 m pc ls (.int (zi_n i) :: .ref b :: rest)) := by
  refine va_sld hx hb hX hbl hbA hS (zi_in h0 hL) hd ?_
  rw [zi_cl h0.1 (by omega)]
  unfold zx at k
  rw [zi_self] at k
  exact k
theorem zr_slen (hx : p.tables.exec = Jvm.exec) (hb : c.code = cc) {b L : Nat} {xs : Nat → Int32} (hX : va_X b L xs s H0) (hbl : b < H0.size) (hbA : ¬ A b) (hS : va_S A H0 H locs) (hd : decode cc pc = .ok (.arraylength, 1))
    (k : W p l e R s m args below meth c H locs cells slots Q (F0 m (pc + 1) ls (.int (zi_n (L : Int)) :: rest))) : W p l e R s m args below meth c H locs cells slots Q (F0 m pc ls (.ref b :: rest)) :=
  va_slen hx hb hX hbl hbA hS hd (by rw [show Int32.ofNat L = zi_n (L : Int) from zi_nI L]; exact k)
theorem zr_ld0 (hx : p.tables.exec = Jvm.exec) (hb : c.code = cc) (hK : va_K D cl tys s) (hP : va_P D cl ws H) (q0 t0 : Nat) {a : Nat} {cA : ClassId} {f : Nat → Int64} {X : Int64} (ha : ws[q0]? = some (a, .inl (cA, 1, .inr (.inl (vp_updL f 0 X))))) (ht : tys[t0]? = some (cA, .long)) (hd : decode cc pc = .ok (.laload, 1))
    (k : W p l e R s m args below meth c H locs cells slots Q (F0 m (pc + 1) ls (.long X :: rest))) : W p l e R s m args below meth c H locs cells slots Q (F0 m pc ls (.int (zi_n 0) :: .ref a :: rest)) := by
  refine va_lald hx hb hK hP q0 t0 ha ht (zi_in (a := 0) ⟨by decide, by decide⟩ (by decide)) hd ?_
  rw [zi_cl (a := 0) (by decide) (by decide)]
  exact k
theorem zr_lcmpE (hx : p.tables.exec = Jvm.exec) (hb : c.code = cc) {x y : Int64} (h : x = y) (hd : decode cc pc = .ok (.lcmp, 1)) (k : W p l e R s m args below meth c H locs cells slots Q (F0 m (pc + 1) ls (.int (zi_n 0) :: rest))) : W p l e R s m args below meth c H locs cells slots Q (F0 m pc ls (.long y :: .long x :: rest)) := by
  subst h
  refine W.lcmp hx hb hd ?_
  rw [show lg_cmp x x = zi_n 0 by simp [lg_cmp, zi_0]]
  exact k
/-- a static helper of the law -/
theorem zc_SWi {K : Type} {post : Int32 → K → Prop} {w1 wf : K → va_W} {hh : List (Nat × Nat × Nat × Nat)} {Pre : State → Prop} (S : CallFix p m c cc nL s args Ts own) (hM : Met l y wsy rm (va_Pc As Pre) (va_Qi post (fun u => zp_B D cl tc (va_A wc H.size) (w1 u)) (va_A wc H.size)) mc ms (va_A wc H.size)) (cw : vx_CSW R s args own index y bytes maxL ret hh wsy rm mc ms n) (hbl : FrameBlind (va_Pc As Pre)) (hpre : ∀ U : State, U.heap = H → s.WarmedH U.vm → Pre U)
    (hP : va_P D cl ws H) (hD : va_D A ws) (hS : va_S A H0 H locs) (hA : ∀ q, H0.size ≤ q → A q) (is ir ip : List Nat) (g1 : is.map (fun i => ws[i]?) = wc.map some) (g2 : ir.map (fun i => ws[i]?) = wr.map some) (d2 : va_nd ir = true) (d3 : ∀ i ∈ ir, i ∉ is)
    (h3 : ∀ u, ip.filterMap (fun i => (wr ++ w1 u)[i]?) = wf u) (g3 : ∀ u, ip.map (fun i => (wr ++ w1 u)[i]?) = (wf u).map some) (d4 : va_nd ip = true)
    (hn : As.length = n) (hsz : ls.size = nL) (hst : st0 = As.reverse ++ rest) (hW : (rest.map fun v => v.category).sum ≤ 8) (hd : decode cc pc = .ok (.invokestatic index, 3)) (hf : cells + mc ≤ R.cells ∧ slots + ms ≤ R.slots)
    (kk : ∀ (r : Int32) (u : K), post r u → ∀ (H1 : Heap) (locs1 : List Loc), va_P D cl (wf u) H1 → va_D A (wf u) → va_S A H0 H1 locs1 → W p l e R s m args below meth c H1 locs1 (cells + mc) (slots + ms) Q (F0 m (pc + 3) ls (.int r :: rest))) : W p l e R s m args below meth c H locs cells slots Q (F0 m pc ls st0) := by
  have hF := va_free (wc := wc) hD hS hA is g1
  refine va_calli (vx_runSW S hM cw ⟨hbl, fun U hU hW => ⟨rfl, hpre U hU hW⟩⟩ rfl hn hsz hst (lv_room hW) hd hf) hS (fun q _ h => hF q h) hF (fun r u t H1 locs1 ht hvm hw hB hz1 hk1 hS1 => ?_)
  obtain ⟨hP1, -, hD1⟩ := hB
  rw [ht] at hP1
  obtain ⟨hP2, hD2⟩ := va_join (wr := wr) (w1 := w1 u) hP hD is ir g1 g2 d2 d3 hk1 hF hP1 hD1
  exact kk r u hw H1 locs1 (hP2.sub ip (h3 u)) (hD2.sub ip d4 (g3 u)) hS1
end ZLaw
theorem zp_P_blind {D : va_G} {cl : List vw_C} {sz : Nat} {wc : va_W} {tc : List (ClassId × FieldType)} {As : List Value} : FrameBlind (va_Pc As (zp_P D cl sz wc tc)) := by
  intro a U g mk q
  obtain ⟨q0, q1, qP, qK, qD⟩ := q
  exact ⟨q0, q1, qP, va_K.moved (u := U) (U := U.calling g mk a) (Vm.Alike.refl U.vm) qK, qD⟩
def R_law : String := "ZHeadsLaw"
def lw_P (b : Addr) (xs : List Int32) (args : Array Value) (s : State) : Prop := args = #[.ref b] ∧ s.IntsAt b xs ∧ xs.length ≤ 2560 ∧ (Jvm.Cond.and given_1 narrow_1).before args s = true
def lw_Q (_ : Array Value) (s : State) (o : Outcome) (t : State) : Prop := o = .returned (some (.int 1)) ∧ Framed s o t [] 3089 121840
def lw_Z (below : List Frame) (a : Array Value) (s : State) : State → Prop := fun t => ∃ o, t.status = .running ∧ Ended t below o ∧ lw_Q a s o t
/-- the law's own end, with 1 on the stack, nothing written that was there before, its room as the claim has it -/
theorem lw_ret {p : Program} {l : Launch} {e : Env} {s : State} {m : MethodId} {below : List Frame} {meth : Method} {c : Code} {b : Nat} (hx : p.tables.exec = Jvm.exec) (hb : c.code = code) (hr : meth.sig.returnType = ret) (hlocks : meth.locks = false) {pc : Nat} {H : Heap} {ls : Array Slot} (hdg : decode code pc = .ok (.ireturn, 1)) : W p l e room_1 s m #[Value.ref b] below meth c H [] 3089 121840 (lw_Z below #[Value.ref b] s) (F0 m pc ls [.int 1]) := by
  intro T hT X
  obtain ⟨fs, hret, hrun, hended, hW, hframe⟩ := X.leave (v := some (.int 1)) (hlocks := hlocks) (fun h => by rw [hr] at h; cases h)
  have hmeth' : T.vm.method? m = some meth := X.method'
  refine ⟨T.setFrames fs, ?_, .returned (some (.int 1)), hrun, hended, rfl, ⟨_, rfl⟩, hW, hframe⟩
  jvm_step X.here [X.here.top, hx, hb, hdg, hmeth', hr, ret, narrow_b1]
  (try refine ⟨rfl, ?_⟩); (try refine ⟨rfl, ?_⟩)
  first | (intro acts; rw [hret _ acts rfl rfl rfl]) | rw [hret _ _ rfl rfl rfl]
  exact Steps.refl _
/-- what holds at the law's entry: the machine, the code, the tables' words (any of lw_tbl by 'hts w (by decide +kernel)'), the script of L ints xs at the cell b, what the Statement gives of the start (any of its parts by flat_of_before) -/
def lw_At (p : Program) (s : State) (m : MethodId) (meth : Method) (c : Code) (b L : Nat) (xs : Nat → Int32) : Prop :=
  p.tables.exec = Jvm.exec ∧ c.code = code ∧ meth.sig.returnType = ret ∧ c.maxLocals = 7 ∧ s.vm.findClass R_law = some m.cls ∧ (∀ w ∈ lw_tbl, w.before #[Value.ref b] s = true) ∧ va_X b L xs s s.heap ∧ b < s.heap.size ∧ meth.locks = false ∧ (Jvm.Cond.and given_1 narrow_1).before #[Value.ref b] s = true

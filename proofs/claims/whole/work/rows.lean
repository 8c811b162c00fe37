section
-- ===== PART A: goes FIRST, ahead of the names: the tables' words, and 'selects' of the private methods out of them =====
/-- a private method of a class that the tables say can be made, by its rows of tables_1 -/
def lw_okq (q : MethodName × Nat) : Prop := (q.1.cls ≠ "java/lang/invoke/MethodHandle" ∧ q.1.cls ≠ "java/lang/invoke/VarHandle") ∧ Cond.instantiable q.1.cls q.2 ∈ tables_1 ∧ Cond.privateMethod q.1 ∈ tables_1 ∧ Cond.instanceMethod q.1 ∈ tables_1
theorem lw_p0 : lw_okq (⟨"ZHeads", "append", "(II)I"⟩, 5) := ⟨⟨by decide +kernel, by decide +kernel⟩, List.mem_of_getElem? (i := 16) (by decide +kernel), List.mem_of_getElem? (i := 71) (by decide +kernel), List.mem_of_getElem? (i := 72) (by decide +kernel)⟩
theorem lw_p1 : lw_okq (⟨"ZHeads$Head", "wordsHold", "()Z"⟩, 1) := ⟨⟨by decide +kernel, by decide +kernel⟩, List.mem_of_getElem? (i := 38) (by decide +kernel), List.mem_of_getElem? (i := 170) (by decide +kernel), List.mem_of_getElem? (i := 171) (by decide +kernel)⟩
theorem lw_p2 : lw_okq (⟨"ZHeads$Head", "endsHold", "()Z"⟩, 1) := ⟨⟨by decide +kernel, by decide +kernel⟩, List.mem_of_getElem? (i := 38) (by decide +kernel), List.mem_of_getElem? (i := 197) (by decide +kernel), List.mem_of_getElem? (i := 198) (by decide +kernel)⟩
theorem lw_p3 : lw_okq (⟨"ZHeads$Head", "moreHolds", "()Z"⟩, 1) := ⟨⟨by decide +kernel, by decide +kernel⟩, List.mem_of_getElem? (i := 38) (by decide +kernel), List.mem_of_getElem? (i := 205) (by decide +kernel), List.mem_of_getElem? (i := 206) (by decide +kernel)⟩
theorem lw_p4 : lw_okq (⟨"ZHeads$Head", "thirdHolds", "()Z"⟩, 1) := ⟨⟨by decide +kernel, by decide +kernel⟩, List.mem_of_getElem? (i := 38) (by decide +kernel), List.mem_of_getElem? (i := 217) (by decide +kernel), List.mem_of_getElem? (i := 218) (by decide +kernel)⟩
theorem lw_p5 : lw_okq (⟨"ZHeads", "sumAsRead", "()I"⟩, 5) := ⟨⟨by decide +kernel, by decide +kernel⟩, List.mem_of_getElem? (i := 16) (by decide +kernel), List.mem_of_getElem? (i := 278) (by decide +kernel), List.mem_of_getElem? (i := 279) (by decide +kernel)⟩
theorem lw_p6 : lw_okq (⟨"ZHeads", "flagBit", "(II)I"⟩, 5) := ⟨⟨by decide +kernel, by decide +kernel⟩, List.mem_of_getElem? (i := 16) (by decide +kernel), List.mem_of_getElem? (i := 304) (by decide +kernel), List.mem_of_getElem? (i := 305) (by decide +kernel)⟩
theorem lw_p7 : lw_okq (⟨"ZHeads", "switchFlag", "(IIZ)V"⟩, 5) := ⟨⟨by decide +kernel, by decide +kernel⟩, List.mem_of_getElem? (i := 16) (by decide +kernel), List.mem_of_getElem? (i := 308) (by decide +kernel), List.mem_of_getElem? (i := 309) (by decide +kernel)⟩
theorem lw_p8 : lw_okq (⟨"java/lang/Throwable", "fillInStackTrace", "(I)Ljava/lang/Throwable;"⟩, 6) := ⟨⟨by decide +kernel, by decide +kernel⟩, List.mem_of_getElem? (i := 374) (by decide +kernel), List.mem_of_getElem? (i := 372) (by decide +kernel), List.mem_of_getElem? (i := 373) (by decide +kernel)⟩
theorem lw_p9 : lw_okq (⟨"ZHeadsModel", "judge", "()I"⟩, 9) := ⟨⟨by decide +kernel, by decide +kernel⟩, List.mem_of_getElem? (i := 488) (by decide +kernel), List.mem_of_getElem? (i := 559) (by decide +kernel), List.mem_of_getElem? (i := 560) (by decide +kernel)⟩
theorem lw_p10 : lw_okq (⟨"ZHeadsModel", "brokenAt", "(II)I"⟩, 9) := ⟨⟨by decide +kernel, by decide +kernel⟩, List.mem_of_getElem? (i := 488) (by decide +kernel), List.mem_of_getElem? (i := 563) (by decide +kernel), List.mem_of_getElem? (i := 564) (by decide +kernel)⟩
theorem lw_p11 : lw_okq (⟨"ZHeadsModel", "two", "(I)I"⟩, 9) := ⟨⟨by decide +kernel, by decide +kernel⟩, List.mem_of_getElem? (i := 488) (by decide +kernel), List.mem_of_getElem? (i := 567) (by decide +kernel), List.mem_of_getElem? (i := 568) (by decide +kernel)⟩
theorem lw_p12 : lw_okq (⟨"ZHeadsModel", "areWords", "(I)Z"⟩, 9) := ⟨⟨by decide +kernel, by decide +kernel⟩, List.mem_of_getElem? (i := 488) (by decide +kernel), List.mem_of_getElem? (i := 577) (by decide +kernel), List.mem_of_getElem? (i := 578) (by decide +kernel)⟩
theorem lw_p13 : lw_okq (⟨"ZHeadsModel", "isThere", "(I)Z"⟩, 9) := ⟨⟨by decide +kernel, by decide +kernel⟩, List.mem_of_getElem? (i := 488) (by decide +kernel), List.mem_of_getElem? (i := 581) (by decide +kernel), List.mem_of_getElem? (i := 582) (by decide +kernel)⟩
theorem lw_p14 : lw_okq (⟨"ZHeadsModel", "startOf", "()I"⟩, 9) := ⟨⟨by decide +kernel, by decide +kernel⟩, List.mem_of_getElem? (i := 488) (by decide +kernel), List.mem_of_getElem? (i := 585) (by decide +kernel), List.mem_of_getElem? (i := 586) (by decide +kernel)⟩
theorem lw_p15 : lw_okq (⟨"ZHeadsModel", "judgeMore", "()I"⟩, 9) := ⟨⟨by decide +kernel, by decide +kernel⟩, List.mem_of_getElem? (i := 488) (by decide +kernel), List.mem_of_getElem? (i := 589) (by decide +kernel), List.mem_of_getElem? (i := 590) (by decide +kernel)⟩
def lw_privs_1 : List (MethodName × Nat) := [(⟨"ZHeads", "append", "(II)I"⟩, 5), (⟨"ZHeads$Head", "wordsHold", "()Z"⟩, 1), (⟨"ZHeads$Head", "endsHold", "()Z"⟩, 1), (⟨"ZHeads$Head", "moreHolds", "()Z"⟩, 1), (⟨"ZHeads$Head", "thirdHolds", "()Z"⟩, 1), (⟨"ZHeads", "sumAsRead", "()I"⟩, 5), (⟨"ZHeads", "flagBit", "(II)I"⟩, 5), (⟨"ZHeads", "switchFlag", "(IIZ)V"⟩, 5), (⟨"java/lang/Throwable", "fillInStackTrace", "(I)Ljava/lang/Throwable;"⟩, 6), (⟨"ZHeadsModel", "judge", "()I"⟩, 9), (⟨"ZHeadsModel", "brokenAt", "(II)I"⟩, 9), (⟨"ZHeadsModel", "two", "(I)I"⟩, 9), (⟨"ZHeadsModel", "areWords", "(I)Z"⟩, 9), (⟨"ZHeadsModel", "isThere", "(I)Z"⟩, 9), (⟨"ZHeadsModel", "startOf", "()I"⟩, 9), (⟨"ZHeadsModel", "judgeMore", "()I"⟩, 9)]
theorem lw_r1 : ∀ q ∈ lw_privs_1, lw_okq q := List.forall_mem_cons.mpr ⟨lw_p0, List.forall_mem_cons.mpr ⟨lw_p1, List.forall_mem_cons.mpr ⟨lw_p2, List.forall_mem_cons.mpr ⟨lw_p3, List.forall_mem_cons.mpr ⟨lw_p4, List.forall_mem_cons.mpr ⟨lw_p5, List.forall_mem_cons.mpr ⟨lw_p6, List.forall_mem_cons.mpr ⟨lw_p7, List.forall_mem_cons.mpr ⟨lw_p8, List.forall_mem_cons.mpr ⟨lw_p9, List.forall_mem_cons.mpr ⟨lw_p10, List.forall_mem_cons.mpr ⟨lw_p11, List.forall_mem_cons.mpr ⟨lw_p12, List.forall_mem_cons.mpr ⟨lw_p13, List.forall_mem_cons.mpr ⟨lw_p14, List.forall_mem_cons.mpr ⟨lw_p15, fun _ h => absurd h List.not_mem_nil⟩⟩⟩⟩⟩⟩⟩⟩⟩⟩⟩⟩⟩⟩⟩⟩
theorem lw_p16 : lw_okq (⟨"ZHeadsModel", "areEnds", "(I)Z"⟩, 9) := ⟨⟨by decide +kernel, by decide +kernel⟩, List.mem_of_getElem? (i := 488) (by decide +kernel), List.mem_of_getElem? (i := 593) (by decide +kernel), List.mem_of_getElem? (i := 594) (by decide +kernel)⟩
theorem lw_p17 : lw_okq (⟨"ZHeadsModel", "isMore", "(I)Z"⟩, 9) := ⟨⟨by decide +kernel, by decide +kernel⟩, List.mem_of_getElem? (i := 488) (by decide +kernel), List.mem_of_getElem? (i := 597) (by decide +kernel), List.mem_of_getElem? (i := 598) (by decide +kernel)⟩
theorem lw_p18 : lw_okq (⟨"ZHeadsModel", "isThird", "(I)Z"⟩, 9) := ⟨⟨by decide +kernel, by decide +kernel⟩, List.mem_of_getElem? (i := 488) (by decide +kernel), List.mem_of_getElem? (i := 601) (by decide +kernel), List.mem_of_getElem? (i := 602) (by decide +kernel)⟩
theorem lw_p19 : lw_okq (⟨"ZHeadsModel", "ofMore", "(I)I"⟩, 9) := ⟨⟨by decide +kernel, by decide +kernel⟩, List.mem_of_getElem? (i := 488) (by decide +kernel), List.mem_of_getElem? (i := 613) (by decide +kernel), List.mem_of_getElem? (i := 614) (by decide +kernel)⟩
theorem lw_p20 : lw_okq (⟨"ZHeadsModel", "thrownAt", "()I"⟩, 9) := ⟨⟨by decide +kernel, by decide +kernel⟩, List.mem_of_getElem? (i := 488) (by decide +kernel), List.mem_of_getElem? (i := 621) (by decide +kernel), List.mem_of_getElem? (i := 622) (by decide +kernel)⟩
theorem lw_p21 : lw_okq (⟨"ZHeadsModel", "packedAt", "(IZ)I"⟩, 9) := ⟨⟨by decide +kernel, by decide +kernel⟩, List.mem_of_getElem? (i := 488) (by decide +kernel), List.mem_of_getElem? (i := 642) (by decide +kernel), List.mem_of_getElem? (i := 643) (by decide +kernel)⟩
theorem lw_p22 : lw_okq (⟨"ZHeadsModel", "mayFirst", "(I)Z"⟩, 9) := ⟨⟨by decide +kernel, by decide +kernel⟩, List.mem_of_getElem? (i := 488) (by decide +kernel), List.mem_of_getElem? (i := 668) (by decide +kernel), List.mem_of_getElem? (i := 669) (by decide +kernel)⟩
theorem lw_p23 : lw_okq (⟨"ZHeadsModel", "maySecond", "(IZZ)Z"⟩, 9) := ⟨⟨by decide +kernel, by decide +kernel⟩, List.mem_of_getElem? (i := 488) (by decide +kernel), List.mem_of_getElem? (i := 672) (by decide +kernel), List.mem_of_getElem? (i := 673) (by decide +kernel)⟩
theorem lw_p24 : lw_okq (⟨"ZHeadsModel", "placeSet", "(I)I"⟩, 9) := ⟨⟨by decide +kernel, by decide +kernel⟩, List.mem_of_getElem? (i := 488) (by decide +kernel), List.mem_of_getElem? (i := 691) (by decide +kernel), List.mem_of_getElem? (i := 692) (by decide +kernel)⟩
def lw_privs_2 : List (MethodName × Nat) := [(⟨"ZHeadsModel", "areEnds", "(I)Z"⟩, 9), (⟨"ZHeadsModel", "isMore", "(I)Z"⟩, 9), (⟨"ZHeadsModel", "isThird", "(I)Z"⟩, 9), (⟨"ZHeadsModel", "ofMore", "(I)I"⟩, 9), (⟨"ZHeadsModel", "thrownAt", "()I"⟩, 9), (⟨"ZHeadsModel", "packedAt", "(IZ)I"⟩, 9), (⟨"ZHeadsModel", "mayFirst", "(I)Z"⟩, 9), (⟨"ZHeadsModel", "maySecond", "(IZZ)Z"⟩, 9), (⟨"ZHeadsModel", "placeSet", "(I)I"⟩, 9)]
theorem lw_r2 : ∀ q ∈ lw_privs_2, lw_okq q := List.forall_mem_cons.mpr ⟨lw_p16, List.forall_mem_cons.mpr ⟨lw_p17, List.forall_mem_cons.mpr ⟨lw_p18, List.forall_mem_cons.mpr ⟨lw_p19, List.forall_mem_cons.mpr ⟨lw_p20, List.forall_mem_cons.mpr ⟨lw_p21, List.forall_mem_cons.mpr ⟨lw_p22, List.forall_mem_cons.mpr ⟨lw_p23, List.forall_mem_cons.mpr ⟨lw_p24, fun _ h => absurd h List.not_mem_nil⟩⟩⟩⟩⟩⟩⟩⟩⟩
def lw_privs : List (MethodName × Nat) := lw_privs_1 ++ (lw_privs_2)
def lw_tbl : List Cond := k2_sels lw_privs ++ tables_1
theorem lw_privs_ok : ∀ q ∈ lw_privs, lw_okq q := by
  show ∀ q ∈ lw_privs_1 ++ (lw_privs_2), lw_okq q
  exact List.forall_mem_append.mpr ⟨lw_r1, lw_r2⟩

/-! ===== BEGIN words of one list among another's, by their places ===== -/
theorem goodIn_r {big : List Cond} (ws : List Cond) (ps : List Nat) (hp : ws = ps.filterMap (fun i => big[i]?)) (h : ws.all goodWord = true) : GoodIn big ws := by
  intro w hw
  have h1 := List.all_eq_true.mp h w hw
  rw [hp] at hw
  obtain ⟨i, -, hi⟩ := List.mem_filterMap.mp hw
  have hm : w ∈ big := by first | exact List.mem_of_getElem? hi | exact List.getElem?_mem hi
  exact ⟨hm, good_of_word h1⟩
theorem goodIn_app {big a b : List Cond} (ha : GoodIn big a) (hb : GoodIn big b) : GoodIn big (a ++ b) := fun w h => (List.mem_append.mp h).elim (ha w) (hb w)
theorem goodIn_ca {big a b : List Cond} {c : Cond} (ha : GoodIn big (c :: a)) (hb : GoodIn big b) : GoodIn big (c :: (a ++ b)) := fun w h => (List.mem_cons.mp h).elim (fun e => ha w (List.mem_cons.mpr (Or.inl e))) (fun h => (List.mem_append.mp h).elim (fun h => ha w (List.mem_cons.mpr (Or.inr h))) (hb w))
theorem goodIn_sub {big ws : List Cond} (hm : ∀ w ∈ ws, w ∈ big) (h : ws.all goodWord = true) : GoodIn big ws := fun w hw => ⟨hm w hw, good_of_word (List.all_eq_true.mp h w hw)⟩
/-! ===== END ===== -/

/-! ===== BEGIN exceptions that leave a method, and their catching by the caller (launches without stack traces) ===== -/
section VXA
/-! The laws vx_back, vx_callV, vx_callS, vx_callSW, vx_throw0, vx_throwS follow proofs of the library, with one case more: JvmDerived/Free/Laws.lean (Back.of_free), Shelf42/LK1.lean (callV, callS), Shelf/KitTraced.lean (throwNew0V, throwNewS). -/

/-- where a method has thrown q: the class by its name, the cell, what was written, the world -/
def vx_T (XC : String → State → State → Prop) (st : State) (q : Addr) (t : State) (mc ms : Nat) (free : Addr → Prop) : Prop :=
  ∃ (E : String) (ce : Cell) (L : List Loc), XC E st t ∧ t.heap[q]? = some ce ∧ ce.vm = .none ∧ st.vm.findClass E = some ce.cls ∧ st.WarmedH t.vm ∧ st.sameButNew ({ t with vm := st.vm } : State) L mc ms ∧ ∀ z ∈ L, free z.base
def vx_Q (Qc : Array Value → State → Outcome → State → Prop) (XC : String → State → State → Prop) (mc ms : Nat) (free : Addr → Prop) : Array Value → State → Outcome → State → Prop := fun a st o t =>
  (Qc a st o t ∧ ∃ L, FrameEnd st o t L mc ms ∧ ∀ q ∈ L, free q.base) ∨ ∃ q, o = .threw q ∧ vx_T XC st q t mc ms free
/-- a callee that returns or throws -/
def vx_Met (l : Launch) (y : MethodName) (ws : List Cond) (rm : Room) (Pc : Array Value → State → Prop) (Qc : Array Value → State → Outcome → State → Prop) (XC : String → State → State → Prop) (mc ms : Nat) (free : Addr → Prop) : Prop :=
  MetFree l y (headSpec ws rm) Pc (fun _ _ _ _ _ => True) (vx_Q Qc XC mc ms free)
def vx_Post (XC : String → State → State → Prop) (mc ms : Nat) (free : Addr → Prop) : Pt → Array Value → Addr → Pt → Prop := fun A a q B =>
  ∃ (g : JFrame) (mk : MethodId) (t : State) (L : List Loc) (E : String) (ce : Cell), B.U.heap = t.heap ∧ B.U.vm = t.vm ∧ XC E (A.U.calling g mk a) t ∧ t.heap[q]? = some ce ∧ ce.vm = .none ∧ A.U.vm.findClass E = some ce.cls ∧ B.locs = A.locs ++ L ∧ (∀ z ∈ L, free z.base) ∧ B.cells = A.cells + mc ∧ B.slots = A.slots + ms
def vx_Back (l : Launch) (R : Room) (p : Program) (e : Env) (below : List Frame) (s : State) (sargs : Array Value) (y : MethodName) (len W9 : Nat)
    (Pre : Pt → Array Value → Prop) (Post : Pt → Array Value → Option Value → Pt → Prop) (PostX : Pt → Array Value → Addr → Pt → Prop) : Prop :=
  ∀ (m : MethodId) (meth : Method) (c : Code) (A : Pt) (g : JFrame) (ig : Instr) (mk : MethodId) (a : Array Value),
    Stand p l e R s m sargs below meth c A.U A.locs A.cells A.slots → g.method = m → g.locals.size = c.maxLocals → decode c.code g.pc = .ok (ig, len) →
    2 * g.monitorRoom + (g.stack.map fun v => v.category).sum ≤ W9 → A.U.methodNamed? y = some mk → Pre A a →
    (∃ (v : Option Value) (B : Pt), Stand p l e R s m sargs below meth c B.U B.locs B.cells B.slots ∧ Post A a v B ∧
      Steps p.tables e below (doInvoke e (A.U.setTop g) [] mk a).1 (B.U.setTop { g with pc := g.pc + len, stack := v.toList ++ g.stack })) ∨
    (∃ (q : Addr) (B : Pt), Stand p l e R s m sargs below meth c B.U B.locs B.cells B.slots ∧ PostX A a q B ∧
      Steps p.tables e below (doInvoke e (A.U.setTop g) [] mk a).1 ((B.U.setTop g).pushFrame (.throwing q)))
section Payer
variable {l : Launch} {R : Room} {p : Program} {e : Env} {below : List Frame} {s : State} {sargs : Array Value} {y : MethodName} {len W9 : Nat}
theorem vx_back {ws : List Cond} {rm : Room} {Pc : Array Value → State → Prop} {Qc : Array Value → State → Outcome → State → Prop} {XC : String → State → State → Prop} {mc ms : Nat} {free : Addr → Prop} {bytes : ByteArray} {maxL : Nat} {ret : Option FieldType}
    (hM : vx_Met l y ws rm Pc Qc XC mc ms free) (hblind : FrameBlind Pc) (hrc : rm.cells = mc) (hrs : rm.slots = ms)
    (hframes : rm.frames + 1 ≤ R.frames) (hlocals : W9 + (maxL + 11) + rm.locals ≤ R.locals)
    (hws : ∀ w ∈ ws, ∀ a' U, s.WarmedH U.vm → w.before a' U = true) (hcode : Cond.code y bytes maxL ret ∈ ws) (hinit : ∀ a' U, s.WarmedH U.vm → (Cond.initialized y.cls).before a' U = true) :
    vx_Back l R p e below s sargs y len W9 (PreOf R mc ms Pc) (PostOf Qc mc ms free) (vx_Post XC mc ms free) := by
  intro m meth c A g ig mk a X hg hsize hdg hW hn hp
  have h1 : (headSpec ws rm).pre.before a A.U = true := atoms_intro fun w hw => hws w hw _ _ X.warmed
  have h2 : (Cond.code y bytes maxL ret).before a A.U = true := hws _ hcode _ _ X.warmed
  have h3 : (Cond.initialized y.cls).before a A.U = true := hinit _ _ X.warmed
  have h4 : A.cells + (headSpec ws rm).room.cells ≤ R.cells := by rw [show (headSpec ws rm).room.cells = mc from hrc]; exact hp.1
  have h5 : A.slots + (headSpec ws rm).room.slots ≤ R.slots := by rw [show (headSpec ws rm).room.slots = ms from hrs]; exact hp.2.1
  have hPc : Pc a (A.U.calling g mk a) := hblind _ _ _ _ hp.2.2
  obtain ⟨U, Ls, c0, s0⟩ := A
  dsimp only [Pt.U, Pt.locs, Pt.cells, Pt.slots] at h1 h2 h3 h4 h5 X hn hPc ⊢
  obtain ⟨methY, cY, hmY, hcY, -, hlY, -, -, -, -⟩ := Cond.code_spec hn h2
  obtain ⟨kY, hkY, -⟩ := className_of_methodNamed hn
  have hinitY : kY.init = .initialized := Cond.initialized_spec (findClass_of_methodNamed hn) hkY h3
  have h : At U g.method c below := by rw [hg]; exact X.here
  have hlocals9 : W9 + (maxL + 11) + (headSpec ws rm).room.locals ≤ R.locals := hlocals
  have happ : (headSpec ws rm).appliesLoose y e.platform (U.calling g mk a) = true :=
    Spec.appliesLoose_calling (g := g) h hdg hn hkY hinitY
      (X.room_calling (g := g) (R' := (headSpec ws rm).room) hsize hmY hcY hframes (by rw [hlY]; omega) h4 h5) h1
  obtain ⟨mid, hmid⟩ := h.above
  have hfr : (U.setTop g).frames = (.java g :: mid) ++ below := by rw [State.frames_setTop' g h.top, hmid]; rfl
  obtain ⟨o, s₂, hsteps, -, hend, hq⟩ := Steps.callFree hM p X.admits X.cas X.clock (acts := []) hfr happ hPc trivial
  have hq' : vx_Q Qc XC mc ms free a (U.calling g mk a) o s₂ := hq
  rw [State.frames_setTop' g h.top] at hend
  obtain ⟨g₀, hg0⟩ := Option.isSome_iff_exists.mp h.top
  obtain ⟨r, hr⟩ := State.topJava?_eq_some.mp hg0
  have hr' : (({ U with heap := s₂.heap, slotsUsed := s₂.slotsUsed } : State).setVm s₂.vm).frames = .java g₀ :: r := hr
  rcases hq' with ⟨hqc, L, hfe, hL⟩ | ⟨q, rfl, E, ce, L, hx, hce, hcv, hcl, hW₂, hsm, hL⟩
  · obtain ⟨⟨v, rfl⟩, hW₂, e2, q2, q3, q4, q5, q6⟩ := id hfe
    have e3 : s₂ = ({ (U.calling g mk a).setFrames s₂.frames with heap := s₂.heap, slotsUsed := s₂.slotsUsed } : State).setVm s₂.vm := by
      have : s₂ = ({ s₂ with vm := (U.calling g mk a).vm } : State).setVm s₂.vm := rfl
      rw [e2] at this
      exact this
    obtain ⟨c₂, i₂, len₂, hc₂, hd₂, hf₂⟩ := hend
    have hW' : U.WarmedH s₂.vm := hW₂
    have hcc : c₂ = c := by
      have h1 : s₂.code? g.method = U.code? g.method := by
        rw [State.code?_eq, State.code?_eq, hW'.alike.method?]
      exact Option.some.inj (hc₂.symm.trans (h1.trans h.code))
    subst hcc
    have hlen : len₂ = len := by rw [hdg] at hd₂; cases hd₂; rfl
    subst hlen
    have hs₂ : s₂ = (({ U with heap := s₂.heap, slotsUsed := s₂.slotsUsed } : State).setVm s₂.vm).setTop { g with pc := g.pc + len₂, stack := v.toList ++ g.stack } := by
      refine e3.trans ?_
      rw [hf₂, State.calling_eq h.top, State.setFrames_setFrames, State.setTop_of_frames _ hr', hr]
      rfl
    have hsame : U.sameButNew ({ U with heap := s₂.heap, slotsUsed := s₂.slotsUsed } : State) L mc ms := by
      refine ⟨?_, q2, q3, q4, q5, q6⟩
      obtain ⟨t, ht, -⟩ := State.frames_cons hr
      show ({ U with heap := s₂.heap, slotsUsed := s₂.slotsUsed } : State) = { U.setFrames U.frames with heap := s₂.heap, slotsUsed := s₂.slotsUsed }
      rw [State.setFrames_self ht]
    subst hg
    refine Or.inl ⟨v, ⟨(({ U with heap := s₂.heap, slotsUsed := s₂.slotsUsed } : State).setVm s₂.vm), Ls ++ L, c0 + mc, s0 + ms⟩,
      ⟨X.admits, X.cas, X.clock, X.frames, X.room, X.hears, X.method, X.code, (X.here.setHeapUsed s₂.heap s₂.slotsUsed).setVm hW'.alike, X.tail, State.WarmedH.trans X.warmed hW', X.limits, X.bytes, X.same.trans (hsame.setVm s.vm)⟩,
      ⟨g, mk, s₂, L, rfl, rfl, hqc, rfl, hL, rfl, rfl⟩, ?_⟩
    show Steps p.tables e below _ ((({ U with heap := s₂.heap, slotsUsed := s₂.slotsUsed } : State).setVm s₂.vm).setTop { g with pc := g.pc + len₂, stack := v.toList ++ g.stack })
    rw [← hs₂]
    exact hsteps
  · obtain ⟨e2, q2, q3, q4, q5, q6⟩ := id hsm
    have e3 : s₂ = ({ (U.calling g mk a).setFrames s₂.frames with heap := s₂.heap, slotsUsed := s₂.slotsUsed } : State).setVm s₂.vm := by
      have : s₂ = ({ s₂ with vm := (U.calling g mk a).vm } : State).setVm s₂.vm := rfl
      rw [e2] at this
      exact this
    have hf₂ : s₂.frames = .throwing q :: .java g :: U.frames.tail := hend
    have hW' : U.WarmedH s₂.vm := hW₂
    have hs₂ : s₂ = ((({ U with heap := s₂.heap, slotsUsed := s₂.slotsUsed } : State).setVm s₂.vm).setTop g).pushFrame (.throwing q) := by
      refine e3.trans ?_
      rw [hf₂, State.calling_eq h.top, State.setFrames_setFrames, State.pushFrame, State.frames_setTop _ hr', State.setTop_of_frames _ hr', State.setFrames_setFrames, hr]
      rfl
    have hsame : U.sameButNew ({ U with heap := s₂.heap, slotsUsed := s₂.slotsUsed } : State) L mc ms := by
      refine ⟨?_, q2, q3, q4, q5, q6⟩
      obtain ⟨t, ht, -⟩ := State.frames_cons hr
      show ({ U with heap := s₂.heap, slotsUsed := s₂.slotsUsed } : State) = { U.setFrames U.frames with heap := s₂.heap, slotsUsed := s₂.slotsUsed }
      rw [State.setFrames_self ht]
    subst hg
    refine Or.inr ⟨q, ⟨(({ U with heap := s₂.heap, slotsUsed := s₂.slotsUsed } : State).setVm s₂.vm), Ls ++ L, c0 + mc, s0 + ms⟩,
      ⟨X.admits, X.cas, X.clock, X.frames, X.room, X.hears, X.method, X.code, (X.here.setHeapUsed s₂.heap s₂.slotsUsed).setVm hW'.alike, X.tail, State.WarmedH.trans X.warmed hW', X.limits, X.bytes, X.same.trans (hsame.setVm s.vm)⟩,
      ⟨g, mk, s₂, L, E, ce, rfl, rfl, hx, hce, hcv, hcl, rfl, hL, rfl, rfl⟩, ?_⟩
    show Steps p.tables e below _ (((({ U with heap := s₂.heap, slotsUsed := s₂.slotsUsed } : State).setVm s₂.vm).setTop g).pushFrame (.throwing q))
    rw [← hs₂]
    exact hsteps
end Payer
section Calls
variable {p : Program} {l : Launch} {e : Env} {R : Room} {s : State} {m : MethodId} {args : Array Value} {below : List Frame} {meth : Method} {c : Code} {T : State} {locs : List Loc} {cells slots : Nat}
theorem vx_callV (X : Stand p l e R s m args below meth c T locs cells slots) (hexec : p.tables.exec = Jvm.exec) {own C : String} {index : Nat} {y : MethodName} {bytes : ByteArray} {maxL : Nat} {ret : Option FieldType}
    (hown : s.vm.findClass own = some m.cls) (hlink : (Cond.methodLink own index y).before args s = true) (hinst : (Cond.instanceMethod y).before args s = true) (hsel : (Cond.selects C y y).before args s = true)
    (hcode : (Cond.code y bytes maxL ret).before args s = true) (hy : y.cls ≠ "java/lang/invoke/MethodHandle" ∧ y.cls ≠ "java/lang/invoke/VarHandle")
    {W9 : Nat} {Pre : Pt → Array Value → Prop} {Post : Pt → Array Value → Option Value → Pt → Prop} {PostX : Pt → Array Value → Addr → Pt → Prop} (hK : vx_Back l R p e below s args y 3 W9 Pre Post PostX)
    {b : Addr} {cellB : Cell} (hcell : T.heap[b]? = some cellB) (hobj : cellB.vm.isStatics = false) (hcls : s.vm.findClass C = some cellB.cls)
    {g : JFrame} (hg : g.method = m) (hsize : g.locals.size = c.maxLocals) {argsL rest : List Value} (hlen : ∀ sig, parseMethodDescriptor y.desc = some sig → argsL.length = sig.parameters.length)
    (hstack : g.stack = argsL.reverse ++ .ref b :: rest) (hW : 2 * g.monitorRoom + (rest.map fun v => v.category).sum ≤ W9) (hdg : decode c.code g.pc = .ok (.invokevirtual index, 3))
    (hpre : ∀ vm₁, s.WarmedH vm₁ → Pre ⟨T.setVm vm₁, locs, cells, slots⟩ (Value.ref b :: argsL).toArray) :
    (∃ (v : Option Value) (vm₁ : Vm) (B : Pt), s.WarmedH vm₁ ∧ Stand p l e R s m args below meth c B.U B.locs B.cells B.slots ∧ Post ⟨T.setVm vm₁, locs, cells, slots⟩ (Value.ref b :: argsL).toArray v B ∧
      ∀ target, Steps p.tables e below (B.U.setTop { g with pc := g.pc + 3, stack := v.toList ++ rest }) target → Steps p.tables e below (T.setTop g) target) ∨
    (∃ (q : Addr) (vm₁ : Vm) (B : Pt), s.WarmedH vm₁ ∧ Stand p l e R s m args below meth c B.U B.locs B.cells B.slots ∧ PostX ⟨T.setVm vm₁, locs, cells, slots⟩ (Value.ref b :: argsL).toArray q B ∧
      Steps p.tables e below (T.setTop g) ((B.U.setTop { g with stack := rest }).pushFrame (.throwing q))) := by
  obtain ⟨mk, methM, hnamed, hmethM, hstM, habM⟩ := Cond.instanceMethod_spec hinst
  obtain ⟨methM', cM, hmethM', -, -, -, -, -, -, hsigM⟩ := Cond.code_spec hnamed hcode
  cases hmethM.symm.trans hmethM'
  obtain ⟨c2, r2, m2, q1, q2, q3, q4, kP, hkP, hkPi⟩ := Cond.selects_spec hsel
  cases hcls.symm.trans q1
  cases (State.methodFound?_of_named hnamed hy).symm.trans q2
  cases hnamed.symm.trans q3
  have hselP : selectMethod e.platform s.vm cellB.cls mk = .method mk := by rw [Launch.admits_selectMethod X.admits]; exact q4
  obtain ⟨vm₁, X₁, hstep₁⟩ := X.invokevirtual hexec hown hlink hnamed hmethM hstM hkP hkPi hy (a := b) (cell := cellB) hcell
    (fun z h => by rw [h] at hobj; cases hobj) hselP hmethM habM hkP hkPi (g := g) hg (argsL := argsL) (rest := rest) (hlen _ hsigM) hstack hdg
  rcases hK m meth c ⟨T.setVm vm₁, locs, cells, slots⟩ { g with stack := rest } (.invokevirtual index) mk (Value.ref b :: argsL).toArray X₁ hg hsize hdg hW (X₁.named hnamed) (hpre vm₁ X₁.warmed) with ⟨v, B, X', hpost, hsteps⟩ | ⟨q, B, X', hpost, hsteps⟩
  · exact Or.inl ⟨v, vm₁, B, X₁.warmed, X', hpost, fun target h => hstep₁ _ fun acts => by rw [doInvoke_state]; exact hsteps.trans h⟩
  · exact Or.inr ⟨q, vm₁, B, X₁.warmed, X', hpost, hstep₁ _ fun acts => by rw [doInvoke_state]; exact hsteps⟩
theorem vx_callS (X : Stand p l e R s m args below meth c T locs cells slots) (hexec : p.tables.exec = Jvm.exec) {own : String} {index : Nat} {y : MethodName} {bytes : ByteArray} {maxL : Nat} {ret : Option FieldType}
    (hown : s.vm.findClass own = some m.cls) (hlink : (Cond.methodLink own index y).before args s = true) (hstat : (Cond.static y).before args s = true) (hinit : (Cond.initialized y.cls).before args s = true)
    (hcode : (Cond.code y bytes maxL ret).before args s = true) (hy : y.cls ≠ "java/lang/invoke/MethodHandle" ∧ y.cls ≠ "java/lang/invoke/VarHandle")
    {W9 : Nat} {Pre : Pt → Array Value → Prop} {Post : Pt → Array Value → Option Value → Pt → Prop} {PostX : Pt → Array Value → Addr → Pt → Prop} (hK : vx_Back l R p e below s args y 3 W9 Pre Post PostX)
    {g : JFrame} (hg : g.method = m) (hsize : g.locals.size = c.maxLocals) {argsL rest : List Value} (hlen : ∀ sig, parseMethodDescriptor y.desc = some sig → argsL.length = sig.parameters.length)
    (hstack : g.stack = argsL.reverse ++ rest) (hW : 2 * g.monitorRoom + (rest.map fun v => v.category).sum ≤ W9) (hdg : decode c.code g.pc = .ok (.invokestatic index, 3))
    (hpre : ∀ vm₁, s.WarmedH vm₁ → Pre ⟨T.setVm vm₁, locs, cells, slots⟩ argsL.toArray) :
    (∃ (v : Option Value) (vm₁ : Vm) (B : Pt), s.WarmedH vm₁ ∧ Stand p l e R s m args below meth c B.U B.locs B.cells B.slots ∧ Post ⟨T.setVm vm₁, locs, cells, slots⟩ argsL.toArray v B ∧
      ∀ target, Steps p.tables e below (B.U.setTop { g with pc := g.pc + 3, stack := v.toList ++ rest }) target → Steps p.tables e below (T.setTop g) target) ∨
    (∃ (q : Addr) (vm₁ : Vm) (B : Pt), s.WarmedH vm₁ ∧ Stand p l e R s m args below meth c B.U B.locs B.cells B.slots ∧ PostX ⟨T.setVm vm₁, locs, cells, slots⟩ argsL.toArray q B ∧
      Steps p.tables e below (T.setTop g) ((B.U.setTop { g with stack := rest }).pushFrame (.throwing q))) := by
  obtain ⟨mk, hnamed⟩ := Cond.code_named hcode
  obtain ⟨methM, cM, hmethM, -, -, -, -, -, -, hsigM⟩ := Cond.code_spec hnamed hcode
  have hstatic : methM.isStatic = true := Cond.static_spec hnamed hmethM hstat
  obtain ⟨kP, hkP, -⟩ := className_of_methodNamed hnamed
  have hinitP : kP.init = .initialized := Cond.initialized_spec (findClass_of_methodNamed hnamed) hkP hinit
  obtain ⟨vm₁, X₁, hstep₁⟩ := X.invokestatic hexec hown hlink hnamed hmethM hstatic hkP hinitP hy (g := g) hg (argsL := argsL) (rest := rest) (hlen _ hsigM) hstack hdg
  rcases hK m meth c ⟨T.setVm vm₁, locs, cells, slots⟩ { g with stack := rest } (.invokestatic index) mk argsL.toArray X₁ hg hsize hdg hW (X₁.named hnamed) (hpre vm₁ X₁.warmed) with ⟨v, B, X', hpost, hsteps⟩ | ⟨q, B, X', hpost, hsteps⟩
  · exact Or.inl ⟨v, vm₁, B, X₁.warmed, X', hpost, fun target h => hstep₁ _ fun acts => by rw [doInvoke_state]; exact hsteps.trans h⟩
  · exact Or.inr ⟨q, vm₁, B, X₁.warmed, X', hpost, hstep₁ _ fun acts => by rw [doInvoke_state]; exact hsteps⟩
end Calls
theorem vx_cls {s : State} {T : State} {vm₁ : Vm} {E : String} {k : ClassId} (hW : s.WarmedH vm₁) (h : (T.setVm vm₁).vm.findClass E = some k) : s.vm.findClass E = some k := by
  have h1 : vm₁.findClass E = some k := h
  rw [hW.alike.findClass] at h1
  exact h1
/-- the method's frame g, with q thrown over it -/
def vx_W (p : Program) (l : Launch) (e : Env) (R : Room) (s : State) (m : MethodId) (args : Array Value) (below : List Frame) (meth : Method) (c : Code) (H : Heap) (locs : List Loc) (cells slots : Nat) (Q : State → Prop) (g : JFrame) (q : Addr) : Prop :=
  ∀ T : State, T.heap = H → Stand p l e R s m args below meth c T locs cells slots → ∃ t, Steps p.tables e below ((T.setTop g).pushFrame (.throwing q)) t ∧ Q t
def vx_Run (p : Program) (l : Launch) (e : Env) (R : Room) (s : State) (m : MethodId) (args : Array Value) (below : List Frame) (meth : Method) (c : Code) (H : Heap) (locs : List Loc) (cells slots mc ms : Nat) (g : JFrame) (rest : List Value) (Qa : State → Outcome → State → Prop) (XC : String → State → State → Prop) (free : Addr → Prop) : Prop :=
  ∀ T : State, T.heap = H → Stand p l e R s m args below meth c T locs cells slots →
    (∃ (v : Option Value) (st₀ t T' : State) (L : List Loc), st₀.heap = H ∧ Stand p l e R s m args below meth c T' (locs ++ L) (cells + mc) (slots + ms) ∧ (∀ q ∈ L, free q.base) ∧ T'.heap = t.heap ∧ T'.vm = t.vm ∧ Qa st₀ (.returned v) t ∧
      Goes p e below T g T' { g with pc := g.pc + 3, stack := v.toList ++ rest }) ∨
    (∃ (q : Addr) (st₀ t T' : State) (L : List Loc) (E : String) (ce : Cell), st₀.heap = H ∧ Stand p l e R s m args below meth c T' (locs ++ L) (cells + mc) (slots + ms) ∧ (∀ z ∈ L, free z.base) ∧ T'.heap = t.heap ∧ T'.vm = t.vm ∧ XC E st₀ t ∧ t.heap[q]? = some ce ∧ ce.vm = .none ∧ s.vm.findClass E = some ce.cls ∧
      Steps p.tables e below (T.setTop g) ((T'.setTop { g with stack := rest }).pushFrame (.throwing q)))
def vx_X {S : Type} (px : S → Prop) (B : String → S → State → Prop) (A : Nat → Prop) : String → State → State → Prop := fun E st t => ∃ u : S, px u ∧ B E u t ∧ va_F A st t
section Runs
variable {p : Program} {l : Launch} {e : Env} {R : Room} {s : State} {m : MethodId} {args : Array Value} {below : List Frame} {meth : Method} {c : Code} {H : Heap} {locs : List Loc} {cells slots : Nat}
variable {y : MethodName} {bytes cc : ByteArray} {maxL nL mc ms n index : Nat} {ret : Option FieldType} {ws : List Cond} {rm : Room} {Pc : Array Value → State → Prop} {Qc : Array Value → State → Outcome → State → Prop} {XC : String → State → State → Prop} {free : Addr → Prop} {Ts : List Cond} {own C : String} {b : Addr} {As rest : List Value} {g : JFrame}
theorem vx_callBack (cb : CallB R s args own index y bytes maxL ret ws rm mc ms n) (hM : vx_Met l y ws rm Pc Qc XC mc ms free) (hbl : FrameBlind Pc) : vx_Back l R p e below s args y 3 8 (PreOf R mc ms Pc) (PostOf Qc mc ms free) (vx_Post XC mc ms free) := by
  obtain ⟨hrc, hrs, hfr, hlo, hws, hcw, -, hini, -⟩ := cb
  exact vx_back (bytes := bytes) (maxL := maxL) (ret := ret) hM hbl hrc hrs hfr hlo hws hcw (fun a' U hW => word_at hW (Or.inl (by first | rfl | simp [Cond.onTables, Cond.keeps, Cond.steady])) hini)
theorem vx_runV (S : CallFix p m c cc nL s args Ts own) (hM : vx_Met l y ws rm Pc Qc XC mc ms free) (cw : CallW R s args own C index y bytes maxL ret ws rm mc ms n) (hp : PreV s H C b Pc As)
    (hg : g.method = m) (hn : As.length = n) (hsize : g.locals.size = nL) (hstack : g.stack = As.reverse ++ .ref b :: rest) (hW : 2 * g.monitorRoom + (rest.map fun v => v.category).sum ≤ 8) (hdg : decode cc g.pc = .ok (.invokevirtual index, 3)) (hf : cells + mc ≤ R.cells ∧ slots + ms ≤ R.slots) :
    vx_Run p l e R s m args below meth c H locs cells slots mc ms g rest (Qc (Value.ref b :: As).toArray) XC free := by
  have hK : vx_Back l R p e below s args y 3 8 (PreOf R mc ms Pc) (PostOf Qc mc ms free) (vx_Post XC mc ms free) := vx_callBack cw.1 hM hp.1
  obtain ⟨⟨-, -, -, -, -, -, hcode, -, hy, hlen, hl⟩, hin, hse⟩ := cw
  obtain ⟨hx, hb, hml, ho, -⟩ := S
  obtain ⟨-, ⟨cellB, hcB, hoB, hclB⟩, hPc⟩ := hp
  intro T hT X
  rcases vx_callV X hx (C := C) (bytes := bytes) (maxL := maxL) (ret := ret) ho hl hin hse hcode hy hK (by rw [hT]; exact hcB) hoB hclB hg (hsize.trans hml.symm) (argsL := As) (rest := rest) (fun sig h => hn.trans (hlen sig h)) hstack hW (by rw [hb]; exact hdg)
    (fun vm₁ hW₁ => ⟨hf.1, hf.2, hPc (T.setVm vm₁) hT hW₁⟩) with ⟨v, vm₁, ⟨U', l2, c2, s2⟩, hW₁, X', ⟨g', mk, t, L, e1, e2, hq, h1, hL, h2, h3⟩, st⟩ | ⟨q, vm₁, ⟨U', l2, c2, s2⟩, hW₁, X', ⟨g', mk, t, L, E, ce, e1, e2, hq, hce, hcv, hcl, h1, hL, h2, h3⟩, st⟩
  · dsimp only [Pt.U, Pt.locs, Pt.cells, Pt.slots] at X' e1 e2 h1 h2 h3 st
    subst h1; subst h2; subst h3
    exact Or.inl ⟨v, (T.setVm vm₁).calling g' mk (Value.ref b :: As).toArray, t, U', L, hT, X', hL, e1, e2, hq, st⟩
  · dsimp only [Pt.U, Pt.locs, Pt.cells, Pt.slots] at X' e1 e2 h1 h2 h3 st hcl
    subst h1; subst h2; subst h3
    exact Or.inr ⟨q, (T.setVm vm₁).calling g' mk (Value.ref b :: As).toArray, t, U', L, E, ce, hT, X', hL, e1, e2, hq, hce, hcv, vx_cls hW₁ hcl, st⟩
theorem vx_runS (S : CallFix p m c cc nL s args Ts own) (hM : vx_Met l y ws rm Pc Qc XC mc ms free) (cw : CallB R s args own index y bytes maxL ret ws rm mc ms n ∧ (Cond.static y).before args s = true) (hp : PreS s H Pc As)
    (hg : g.method = m) (hn : As.length = n) (hsize : g.locals.size = nL) (hstack : g.stack = As.reverse ++ rest) (hW : 2 * g.monitorRoom + (rest.map fun v => v.category).sum ≤ 8) (hdg : decode cc g.pc = .ok (.invokestatic index, 3)) (hf : cells + mc ≤ R.cells ∧ slots + ms ≤ R.slots) :
    vx_Run p l e R s m args below meth c H locs cells slots mc ms g rest (Qc As.toArray) XC free := by
  have hK : vx_Back l R p e below s args y 3 8 (PreOf R mc ms Pc) (PostOf Qc mc ms free) (vx_Post XC mc ms free) := vx_callBack cw.1 hM hp.1
  obtain ⟨⟨-, -, -, -, -, -, hcode, hini, hy, hlen, hl⟩, hstt⟩ := cw
  obtain ⟨hx, hb, hml, ho, -⟩ := S
  intro T hT X
  rcases vx_callS X hx (bytes := bytes) (maxL := maxL) (ret := ret) ho hl hstt hini hcode hy hK hg (hsize.trans hml.symm) (argsL := As) (rest := rest) (fun sig h => hn.trans (hlen sig h)) hstack hW (by rw [hb]; exact hdg)
    (fun vm₁ hW₁ => ⟨hf.1, hf.2, hp.2 (T.setVm vm₁) hT hW₁⟩) with ⟨v, vm₁, ⟨U', l2, c2, s2⟩, hW₁, X', ⟨g', mk, t, L, e1, e2, hq, h1, hL, h2, h3⟩, st⟩ | ⟨q, vm₁, ⟨U', l2, c2, s2⟩, hW₁, X', ⟨g', mk, t, L, E, ce, e1, e2, hq, hce, hcv, hcl, h1, hL, h2, h3⟩, st⟩
  · dsimp only [Pt.U, Pt.locs, Pt.cells, Pt.slots] at X' e1 e2 h1 h2 h3 st
    subst h1; subst h2; subst h3
    exact Or.inl ⟨v, (T.setVm vm₁).calling g' mk As.toArray, t, U', L, hT, X', hL, e1, e2, hq, st⟩
  · dsimp only [Pt.U, Pt.locs, Pt.cells, Pt.slots] at X' e1 e2 h1 h2 h3 st hcl
    subst h1; subst h2; subst h3
    exact Or.inr ⟨q, (T.setVm vm₁).calling g' mk As.toArray, t, U', L, E, ce, hT, X', hL, e1, e2, hq, hce, hcv, vx_cls hW₁ hcl, st⟩
end Runs
section Rows
variable {p : Program} {l : Launch} {e : Env} {R : Room} {s : State} {m : MethodId} {args : Array Value} {below : List Frame} {meth : Method} {c : Code} {H : Heap} {locs : List Loc} {cells slots : Nat} {Q : State → Prop}
variable {mc ms : Nat} {free : Addr → Prop} {A0 A1 : Nat → Prop} {H0 : Heap} {a : Array Value} {pc : Nat} {ls : Array Slot} {st0 rest : List Value}
theorem vx_keep {st₀ t T' : State} {L : List Loc} (h0 : st₀.heap = H) (e1 : T'.heap = t.heap) (hS : va_S A0 H0 H locs) (hA : ∀ q, q < H.size → A1 q → A0 q) (hf : ∀ q, free q → A0 q) (hL : ∀ q ∈ L, free q.base) (hF : va_F A1 st₀ t) :
    H.size ≤ T'.heap.size ∧ (∀ q : Nat, q < H.size → ¬ A1 q → T'.heap[q]? = H[q]?) ∧ va_S A0 H0 T'.heap (locs ++ L) := by
  obtain ⟨hz, hk⟩ := hF
  rw [h0] at hz hk
  exact ⟨by rw [e1]; exact hz, fun q h1 h2 => by rw [e1]; exact hk q h1 h2,
    ⟨Nat.le_trans hS.1 (by rw [e1]; exact hz), fun q h1 h2 => by rw [e1, hk q (Nat.lt_of_lt_of_le h1 hS.1) (fun z => h2 (hA q (Nat.lt_of_lt_of_le h1 hS.1) z))]; exact hS.2.1 q h1 h2, fun q hq => by
      rcases List.mem_append.mp hq with h | h
      · exact hS.2.2 q h
      · exact hf _ (hL q h)⟩⟩
theorem vx_calli {S SX : Type} {post : Int32 → S → Prop} {px : SX → Prop} {B : S → State → Prop} {BX : String → SX → State → Prop} {AX : Nat → Prop} (hr : vx_Run p l e R s m args below meth c H locs cells slots mc ms (F0 m pc ls st0) rest (va_Qi post B A1 a) (vx_X px BX AX) free) (hS : va_S A0 H0 H locs) (hA : ∀ q, q < H.size → A1 q → A0 q) (hf : ∀ q, free q → A0 q) (hAX : ∀ q, q < H.size → AX q → A0 q)
    (kx : ∀ (E : String) (ce : Cell) (q9 : Addr) (u : SX) (t : State) (H1 : Heap) (locs1 : List Loc), t.heap = H1 → s.vm.Alike t.vm → px u → BX E u t → H.size ≤ H1.size → (∀ q : Nat, q < H.size → ¬ AX q → H1[q]? = H[q]?) → va_S A0 H0 H1 locs1 → H1[q9]? = some ce → ce.vm = .none → s.vm.findClass E = some ce.cls → vx_W p l e R s m args below meth c H1 locs1 (cells + mc) (slots + ms) Q (F0 m pc ls rest) q9)
    (kk : ∀ (r : Int32) (u : S) (t : State) (H1 : Heap) (locs1 : List Loc), t.heap = H1 → s.vm.Alike t.vm → post r u → B u t → H.size ≤ H1.size → (∀ q : Nat, q < H.size → ¬ A1 q → H1[q]? = H[q]?) → va_S A0 H0 H1 locs1 → W p l e R s m args below meth c H1 locs1 (cells + mc) (slots + ms) Q (F0 m (pc + 3) ls (.int r :: rest))) : W p l e R s m args below meth c H locs cells slots Q (F0 m pc ls st0) := by
  intro T hT X
  rcases hr T hT X with ⟨v, st₀, t, T', L, h0, X', hL, e1, e2, ⟨⟨r, u, hv, hp, hb⟩, hF⟩, st⟩ | ⟨q, st₀, t, T', L, E, ce, h0, X', hL, e1, e2, ⟨u, hp, hb, hF⟩, hce, hcv, hcl, st⟩
  · cases hv
    obtain ⟨k1, k2, k3⟩ := vx_keep h0 e1 hS hA hf hL hF
    obtain ⟨t2, a1, b1⟩ := kk r u t T'.heap (locs ++ L) e1.symm (by rw [← e2]; exact X'.warmed.alike) hp hb k1 k2 k3 T' rfl X'
    exact ⟨t2, st t2 a1, b1⟩
  · obtain ⟨k1, k2, k3⟩ := vx_keep h0 e1 hS hAX hf hL hF
    obtain ⟨t2, a1, b1⟩ := kx E ce q u t T'.heap (locs ++ L) e1.symm (by rw [← e2]; exact X'.warmed.alike) hp hb k1 k2 k3 (by rw [e1]; exact hce) hcv hcl T' rfl X'
    exact ⟨t2, st.trans a1, b1⟩
theorem vx_calll {S SX : Type} {post : Int64 → S → Prop} {px : SX → Prop} {B : S → State → Prop} {BX : String → SX → State → Prop} {AX : Nat → Prop} (hr : vx_Run p l e R s m args below meth c H locs cells slots mc ms (F0 m pc ls st0) rest (va_Ql post B A1 a) (vx_X px BX AX) free) (hS : va_S A0 H0 H locs) (hA : ∀ q, q < H.size → A1 q → A0 q) (hf : ∀ q, free q → A0 q) (hAX : ∀ q, q < H.size → AX q → A0 q)
    (kx : ∀ (E : String) (ce : Cell) (q9 : Addr) (u : SX) (t : State) (H1 : Heap) (locs1 : List Loc), t.heap = H1 → s.vm.Alike t.vm → px u → BX E u t → H.size ≤ H1.size → (∀ q : Nat, q < H.size → ¬ AX q → H1[q]? = H[q]?) → va_S A0 H0 H1 locs1 → H1[q9]? = some ce → ce.vm = .none → s.vm.findClass E = some ce.cls → vx_W p l e R s m args below meth c H1 locs1 (cells + mc) (slots + ms) Q (F0 m pc ls rest) q9)
    (kk : ∀ (r : Int64) (u : S) (t : State) (H1 : Heap) (locs1 : List Loc), t.heap = H1 → s.vm.Alike t.vm → post r u → B u t → H.size ≤ H1.size → (∀ q : Nat, q < H.size → ¬ A1 q → H1[q]? = H[q]?) → va_S A0 H0 H1 locs1 → W p l e R s m args below meth c H1 locs1 (cells + mc) (slots + ms) Q (F0 m (pc + 3) ls (.long r :: rest))) : W p l e R s m args below meth c H locs cells slots Q (F0 m pc ls st0) := by
  intro T hT X
  rcases hr T hT X with ⟨v, st₀, t, T', L, h0, X', hL, e1, e2, ⟨⟨r, u, hv, hp, hb⟩, hF⟩, st⟩ | ⟨q, st₀, t, T', L, E, ce, h0, X', hL, e1, e2, ⟨u, hp, hb, hF⟩, hce, hcv, hcl, st⟩
  · cases hv
    obtain ⟨k1, k2, k3⟩ := vx_keep h0 e1 hS hA hf hL hF
    obtain ⟨t2, a1, b1⟩ := kk r u t T'.heap (locs ++ L) e1.symm (by rw [← e2]; exact X'.warmed.alike) hp hb k1 k2 k3 T' rfl X'
    exact ⟨t2, st t2 a1, b1⟩
  · obtain ⟨k1, k2, k3⟩ := vx_keep h0 e1 hS hAX hf hL hF
    obtain ⟨t2, a1, b1⟩ := kx E ce q u t T'.heap (locs ++ L) e1.symm (by rw [← e2]; exact X'.warmed.alike) hp hb k1 k2 k3 (by rw [e1]; exact hce) hcv hcl T' rfl X'
    exact ⟨t2, st.trans a1, b1⟩
theorem vx_callf {S SX : Type} {post : UInt32 → S → Prop} {px : SX → Prop} {B : S → State → Prop} {BX : String → SX → State → Prop} {AX : Nat → Prop} (hr : vx_Run p l e R s m args below meth c H locs cells slots mc ms (F0 m pc ls st0) rest (va_Qf post B A1 a) (vx_X px BX AX) free) (hS : va_S A0 H0 H locs) (hA : ∀ q, q < H.size → A1 q → A0 q) (hf : ∀ q, free q → A0 q) (hAX : ∀ q, q < H.size → AX q → A0 q)
    (kx : ∀ (E : String) (ce : Cell) (q9 : Addr) (u : SX) (t : State) (H1 : Heap) (locs1 : List Loc), t.heap = H1 → s.vm.Alike t.vm → px u → BX E u t → H.size ≤ H1.size → (∀ q : Nat, q < H.size → ¬ AX q → H1[q]? = H[q]?) → va_S A0 H0 H1 locs1 → H1[q9]? = some ce → ce.vm = .none → s.vm.findClass E = some ce.cls → vx_W p l e R s m args below meth c H1 locs1 (cells + mc) (slots + ms) Q (F0 m pc ls rest) q9)
    (kk : ∀ (r : UInt32) (u : S) (t : State) (H1 : Heap) (locs1 : List Loc), t.heap = H1 → s.vm.Alike t.vm → post r u → B u t → H.size ≤ H1.size → (∀ q : Nat, q < H.size → ¬ A1 q → H1[q]? = H[q]?) → va_S A0 H0 H1 locs1 → W p l e R s m args below meth c H1 locs1 (cells + mc) (slots + ms) Q (F0 m (pc + 3) ls (.float r :: rest))) : W p l e R s m args below meth c H locs cells slots Q (F0 m pc ls st0) := by
  intro T hT X
  rcases hr T hT X with ⟨v, st₀, t, T', L, h0, X', hL, e1, e2, ⟨⟨r, u, hv, hp, hb⟩, hF⟩, st⟩ | ⟨q, st₀, t, T', L, E, ce, h0, X', hL, e1, e2, ⟨u, hp, hb, hF⟩, hce, hcv, hcl, st⟩
  · cases hv
    obtain ⟨k1, k2, k3⟩ := vx_keep h0 e1 hS hA hf hL hF
    obtain ⟨t2, a1, b1⟩ := kk r u t T'.heap (locs ++ L) e1.symm (by rw [← e2]; exact X'.warmed.alike) hp hb k1 k2 k3 T' rfl X'
    exact ⟨t2, st t2 a1, b1⟩
  · obtain ⟨k1, k2, k3⟩ := vx_keep h0 e1 hS hAX hf hL hF
    obtain ⟨t2, a1, b1⟩ := kx E ce q u t T'.heap (locs ++ L) e1.symm (by rw [← e2]; exact X'.warmed.alike) hp hb k1 k2 k3 (by rw [e1]; exact hce) hcv hcl T' rfl X'
    exact ⟨t2, st.trans a1, b1⟩
theorem vx_calld {S SX : Type} {post : UInt64 → S → Prop} {px : SX → Prop} {B : S → State → Prop} {BX : String → SX → State → Prop} {AX : Nat → Prop} (hr : vx_Run p l e R s m args below meth c H locs cells slots mc ms (F0 m pc ls st0) rest (va_Qd post B A1 a) (vx_X px BX AX) free) (hS : va_S A0 H0 H locs) (hA : ∀ q, q < H.size → A1 q → A0 q) (hf : ∀ q, free q → A0 q) (hAX : ∀ q, q < H.size → AX q → A0 q)
    (kx : ∀ (E : String) (ce : Cell) (q9 : Addr) (u : SX) (t : State) (H1 : Heap) (locs1 : List Loc), t.heap = H1 → s.vm.Alike t.vm → px u → BX E u t → H.size ≤ H1.size → (∀ q : Nat, q < H.size → ¬ AX q → H1[q]? = H[q]?) → va_S A0 H0 H1 locs1 → H1[q9]? = some ce → ce.vm = .none → s.vm.findClass E = some ce.cls → vx_W p l e R s m args below meth c H1 locs1 (cells + mc) (slots + ms) Q (F0 m pc ls rest) q9)
    (kk : ∀ (r : UInt64) (u : S) (t : State) (H1 : Heap) (locs1 : List Loc), t.heap = H1 → s.vm.Alike t.vm → post r u → B u t → H.size ≤ H1.size → (∀ q : Nat, q < H.size → ¬ A1 q → H1[q]? = H[q]?) → va_S A0 H0 H1 locs1 → W p l e R s m args below meth c H1 locs1 (cells + mc) (slots + ms) Q (F0 m (pc + 3) ls (.double r :: rest))) : W p l e R s m args below meth c H locs cells slots Q (F0 m pc ls st0) := by
  intro T hT X
  rcases hr T hT X with ⟨v, st₀, t, T', L, h0, X', hL, e1, e2, ⟨⟨r, u, hv, hp, hb⟩, hF⟩, st⟩ | ⟨q, st₀, t, T', L, E, ce, h0, X', hL, e1, e2, ⟨u, hp, hb, hF⟩, hce, hcv, hcl, st⟩
  · cases hv
    obtain ⟨k1, k2, k3⟩ := vx_keep h0 e1 hS hA hf hL hF
    obtain ⟨t2, a1, b1⟩ := kk r u t T'.heap (locs ++ L) e1.symm (by rw [← e2]; exact X'.warmed.alike) hp hb k1 k2 k3 T' rfl X'
    exact ⟨t2, st t2 a1, b1⟩
  · obtain ⟨k1, k2, k3⟩ := vx_keep h0 e1 hS hAX hf hL hF
    obtain ⟨t2, a1, b1⟩ := kx E ce q u t T'.heap (locs ++ L) e1.symm (by rw [← e2]; exact X'.warmed.alike) hp hb k1 k2 k3 (by rw [e1]; exact hce) hcv hcl T' rfl X'
    exact ⟨t2, st.trans a1, b1⟩
theorem vx_callv {S SX : Type} {post : S → Prop} {px : SX → Prop} {B : S → State → Prop} {BX : String → SX → State → Prop} {AX : Nat → Prop} (hr : vx_Run p l e R s m args below meth c H locs cells slots mc ms (F0 m pc ls st0) rest (va_Qv post B A1 a) (vx_X px BX AX) free) (hS : va_S A0 H0 H locs) (hA : ∀ q, q < H.size → A1 q → A0 q) (hf : ∀ q, free q → A0 q) (hAX : ∀ q, q < H.size → AX q → A0 q)
    (kx : ∀ (E : String) (ce : Cell) (q9 : Addr) (u : SX) (t : State) (H1 : Heap) (locs1 : List Loc), t.heap = H1 → s.vm.Alike t.vm → px u → BX E u t → H.size ≤ H1.size → (∀ q : Nat, q < H.size → ¬ AX q → H1[q]? = H[q]?) → va_S A0 H0 H1 locs1 → H1[q9]? = some ce → ce.vm = .none → s.vm.findClass E = some ce.cls → vx_W p l e R s m args below meth c H1 locs1 (cells + mc) (slots + ms) Q (F0 m pc ls rest) q9)
    (kk : ∀ (u : S) (t : State) (H1 : Heap) (locs1 : List Loc), t.heap = H1 → s.vm.Alike t.vm → post u → B u t → H.size ≤ H1.size → (∀ q : Nat, q < H.size → ¬ A1 q → H1[q]? = H[q]?) → va_S A0 H0 H1 locs1 → W p l e R s m args below meth c H1 locs1 (cells + mc) (slots + ms) Q (F0 m (pc + 3) ls (rest))) : W p l e R s m args below meth c H locs cells slots Q (F0 m pc ls st0) := by
  intro T hT X
  rcases hr T hT X with ⟨v, st₀, t, T', L, h0, X', hL, e1, e2, ⟨⟨u, hv, hp, hb⟩, hF⟩, st⟩ | ⟨q, st₀, t, T', L, E, ce, h0, X', hL, e1, e2, ⟨u, hp, hb, hF⟩, hce, hcv, hcl, st⟩
  · cases hv
    obtain ⟨k1, k2, k3⟩ := vx_keep h0 e1 hS hA hf hL hF
    obtain ⟨t2, a1, b1⟩ := kk u t T'.heap (locs ++ L) e1.symm (by rw [← e2]; exact X'.warmed.alike) hp hb k1 k2 k3 T' rfl X'
    exact ⟨t2, st t2 a1, b1⟩
  · obtain ⟨k1, k2, k3⟩ := vx_keep h0 e1 hS hAX hf hL hF
    obtain ⟨t2, a1, b1⟩ := kx E ce q u t T'.heap (locs ++ L) e1.symm (by rw [← e2]; exact X'.warmed.alike) hp hb k1 k2 k3 (by rw [e1]; exact hce) hcv hcl T' rfl X'
    exact ⟨t2, st.trans a1, b1⟩
end Rows
section Ends
variable {p : Program} {l : Launch} {e : Env} {R : Room} {s : State} {m : MethodId} {args : Array Value} {below : List Frame} {meth : Method} {c : Code} {H : Heap} {locs : List Loc} {cells slots : Nat} {Q : State → Prop}
variable {mc ms : Nat} {free : Addr → Prop} {A0 A1 : Nat → Prop} {H0 : Heap} {a : Array Value} {ls : Array Slot} {st0 rest : List Value}
variable {Qc : Array Value → State → Outcome → State → Prop} {XC : String → State → State → Prop}
/-- what a body that may throw owes at its end -/
def vx_MQ (below : List Frame) (Qc : Array Value → State → Outcome → State → Prop) (XC : String → State → State → Prop) (a : Array Value) (s : State) (mc ms : Nat) (free : Addr → Prop) : State → Prop := fun t =>
  ∃ o, t.status = .running ∧ Ended t below o ∧ vx_Q Qc XC mc ms free a s o t
theorem vx_ret {g : JFrame} {mc ms : Nat} (k : W p l e R s m args below meth c H locs cells slots (MQ below Qc args s mc ms free) g) : W p l e R s m args below meth c H locs cells slots (vx_MQ below Qc XC args s mc ms free) g := by
  intro T hT X
  obtain ⟨t, a1, o, b1, b2, b3, b4⟩ := k T hT X
  exact ⟨t, a1, o, b1, b2, Or.inl ⟨b3, b4⟩⟩
/-- not caught here: it goes on to the caller -/
theorem vx_widen {g : JFrame} {q : Addr} {k n : Nat} (h1 : cells ≤ k) (h2 : slots ≤ n) (kk : vx_W p l e R s m args below meth c H locs k n Q g q) : vx_W p l e R s m args below meth c H locs cells slots Q g q := fun T hT X => kk T hT (stand_widen X h1 h2)
theorem vx_out {pc : Nat} {E : String} {ce : Cell} {q : Addr} {mc ms : Nat} (hout : ∀ x ∈ c.exceptionTable.toList, covers x pc = false) (hlocks : meth.locks = false) (hcell : H[q]? = some ce) (hv : ce.vm = .none) (hcl : s.vm.findClass E = some ce.cls)
    (hx : ∀ t : State, t.heap = H → s.vm.Alike t.vm → XC E s t) (hf : ∀ z ∈ locs, free z.base) (hc : cells ≤ mc) (hs : slots ≤ ms) :
    vx_W p l e R s m args below meth c H locs cells slots (vx_MQ below Qc XC args s mc ms free) (F0 m pc ls rest) q := by
  intro T hT X
  obtain ⟨st1, hrun, hend, hW, hsm⟩ := X.leaveThrown q (g := F0 m pc ls rest) rfl rfl rfl hout hlocks
  have hcell9 : (T.setFrames (.throwing q :: below)).heap[q]? = some ce := by
    show T.heap[q]? = some ce
    rw [hT]; exact hcell
  exact ⟨_, st1, .threw q, hrun, hend, Or.inr ⟨q, rfl, E, ce, locs, hx _ hT hW.alike, hcell9, hv, hcl, hW, hsm.mono hc hs, hf⟩⟩
theorem vx_frame {U : State} {k n : Nat} (h : s.sameButNew ({ U with vm := s.vm } : State) locs k n) : s.heap.size ≤ U.heap.size ∧ ∀ q : Nat, q < s.heap.size → (∀ z ∈ locs, z.base ≠ q) → U.heap[q]? = s.heap[q]? := by
  obtain ⟨-, h2, -, -, -, h6⟩ := h
  refine ⟨h2, fun q hq hz => ?_⟩
  obtain ⟨c9, e1, e2, e3, e4⟩ := h6 q _ (Array.getElem?_eq_getElem hq)
  have hs : c9.slots = (s.heap[q]).slots := Array.ext_getElem? fun i => e4 i fun hm => hz _ hm rfl
  have h9 : c9 = s.heap[q] := by
    rw [hs] at e2
    exact e2
  have e5 : U.heap[q]? = some c9 := e1
  rw [e5, h9, Array.getElem?_eq_getElem hq]
/-- the words of a throw but the four that speak of the heap -/
def vx_no (w : Cond) : Bool := decide (w ≠ .isRef (.static Bundle.tN "UNASSIGNED_STACK" Bundle.steD)) && decide (w ≠ .isRef (.static Bundle.tN "SUPPRESSED_SENTINEL" Bundle.listD)) && decide (w ≠ .laysStatic Bundle.tN "UNASSIGNED_STACK" Bundle.steD) && decide (w ≠ .laysStatic Bundle.tN "SUPPRESSED_SENTINEL" Bundle.listD)
def vx_at0 (own : String) (ic : Nat) (X : String) (names : List String) : List Cond := (Bundle.ownAtoms0 own ic X names).filter vx_no
def vx_atS (own : String) (ic : Nat) (X : String) (names : List String) : List Cond := (Bundle.ownAtoms own ic X names).filter vx_no
/-- a word that the tables alone decide, or a good one -/
def vx_ot (w : Cond) : Bool := w.onTables || goodWord w
theorem vx_ot_at {args a' : Array Value} {s U : State} {w : Cond} (hW : s.WarmedH U.vm) (hvm : s.vm = U.vm) (hg : vx_ot w = true) (h : w.before args s = true) : w.before a' U = true := by
  simp only [vx_ot, Bool.or_eq_true] at hg
  rcases hg with hg | hg
  · exact va_tabs hg hvm h
  · exact word_at hW (good_of_word hg) h
/-- a list's words: the good ones out of the method's own list, the others by premises of their own -/
theorem vx_hat {args : Array Value} {s : State} {L B : List Cond} (h1 : ∀ w ∈ L.filter goodWord, w.before args s = true) (h2 : ∀ w ∈ L.filter (fun w => !goodWord w), w ∈ B) (h3 : ∀ w ∈ B, w.before args s = true) : ∀ w ∈ L, w.before args s = true := by
  intro w hw
  by_cases g : goodWord w = true
  · exact h1 w (List.mem_filter.mpr ⟨hw, g⟩)
  · refine h3 w (h2 w (List.mem_filter.mpr ⟨hw, ?_⟩))
    show (!goodWord w) = true
    cases hgw : goodWord w
    · rfl
    · exact absurd hgw g
theorem vx_c {args : Array Value} {s : State} {w : Cond} {B : List Cond} (h : w.before args s = true) (t : ∀ w ∈ B, w.before args s = true) : ∀ w' ∈ w :: B, w'.before args s = true := fun w' h' => (List.mem_cons.mp h').elim (fun e => by rw [e]; exact h) (t w')
theorem vx_n {args : Array Value} {s : State} : ∀ w ∈ ([] : List Cond), w.before args s = true := fun _ h => nomatch h
theorem vx_own {args : Array Value} {s : State} {L : List Cond} (h1 : ∀ w ∈ L.filter vx_no, w.before args s = true)
    (hU : (Cond.isRef (.static Bundle.tN "UNASSIGNED_STACK" Bundle.steD)).before args s = true) (hN : (Cond.isRef (.static Bundle.tN "SUPPRESSED_SENTINEL" Bundle.listD)).before args s = true)
    (lU : (Cond.laysStatic Bundle.tN "UNASSIGNED_STACK" Bundle.steD).before args s = true) (lN : (Cond.laysStatic Bundle.tN "SUPPRESSED_SENTINEL" Bundle.listD).before args s = true) : ∀ w ∈ L, w.before args s = true := by
  intro w hw
  by_cases e1 : w = .isRef (.static Bundle.tN "UNASSIGNED_STACK" Bundle.steD)
  · rw [e1]; exact hU
  · by_cases e2 : w = .isRef (.static Bundle.tN "SUPPRESSED_SENTINEL" Bundle.listD)
    · rw [e2]; exact hN
    · by_cases e3 : w = .laysStatic Bundle.tN "UNASSIGNED_STACK" Bundle.steD
      · rw [e3]; exact lU
      · by_cases e4 : w = .laysStatic Bundle.tN "SUPPRESSED_SENTINEL" Bundle.listD
        · rw [e4]; exact lN
        · exact h1 w (List.mem_filter.mpr ⟨hw, by unfold vx_no; rw [decide_eq_true e1, decide_eq_true e2, decide_eq_true e3, decide_eq_true e4]; rfl⟩)
/-- where a static field lies, its class's statics cell in H -/
def vx_L (C n d : String) (A : Nat → Prop) (U : State) (H : Heap) : Prop := ∃ (c : ClassId) (k : Class) (i : Nat) (f : Field) (a : Nat) (cell : Cell), U.vm.findClass C = some c ∧ U.fieldFound? C n d = some (c, k, i, f) ∧ f.isStatic = true ∧ k.statics = some a ∧ H[a]? = some cell ∧ cell.vm.isStatics = true ∧ cell.cls = c ∧ f.slot < cell.slots.size ∧ k.staticTypes[f.slot]? = some f.type ∧ ¬ A a
theorem vx_L.moved {C n d : String} {A : Nat → Prop} {u U : State} {H : Heap} (hvm : u.vm.Alike U.vm) (h : vx_L C n d A u H) : vx_L C n d A U H := by
  obtain ⟨c, k, i, f, a, cell, h1, h2, h3, h4, h5, h6, h7, h8, h9, h10⟩ := h
  obtain ⟨k', hi', he⟩ := State.fieldFound?_setVm hvm h2
  exact ⟨c, k', i, f, a, cell, by rw [hvm.findClass]; exact h1, hi', h3, by rw [he]; exact h4, h5, h6, h7, h8, by rw [he]; exact h9, h10⟩
theorem vx_L.kept {C n d : String} {A : Nat → Prop} {U : State} {H H1 : Heap} (h : vx_L C n d A U H) (hq : ∀ a : Nat, a < H.size → ¬ A a → H1[a]? = H[a]?) : vx_L C n d A U H1 := by
  obtain ⟨c, k, i, f, a, cell, h1, h2, h3, h4, h5, h6, h7, h8, h9, h10⟩ := h
  exact ⟨c, k, i, f, a, cell, h1, h2, h3, h4, by rw [hq a (Array.getElem?_eq_some_iff.mp h5).1 h10]; exact h5, h6, h7, h8, h9, h10⟩
theorem vx_L.narrow {C n d : String} {A B : Nat → Prop} {U : State} {H : Heap} (h : vx_L C n d A U H) (hAB : ∀ q, B q → A q) : vx_L C n d B U H := by
  obtain ⟨c, k, i, f, a, cell, h1, h2, h3, h4, h5, h6, h7, h8, h9, h10⟩ := h
  exact ⟨c, k, i, f, a, cell, h1, h2, h3, h4, h5, h6, h7, h8, h9, fun z => h10 (hAB _ z)⟩
theorem vx_L.word {C n d : String} {A : Nat → Prop} {s : State} {args : Array Value} (h : vx_L C n d A s s.heap) : (Cond.laysStatic C n d).before args s = true := by
  obtain ⟨c, k, i, f, a, cell, h1, h2, h3, h4, h5, h6, h7, h8, h9, -⟩ := h
  show (Cond.laysStatic C n d).holds args s none s [] = true
  exact Cond.laysStatic_of h1 h2 h3 h4 h5 h6 h7 h8 h9
/-- .. and what it holds: null or some reference -/
def vx_Zq (C n d : String) (A : Nat → Prop) (U : State) (H : Heap) : Prop := va_Zq C n d A U H ∧ vx_L C n d A U H
theorem vx_Zq.moved {C n d : String} {A : Nat → Prop} {u U : State} {H : Heap} (hvm : u.vm.Alike U.vm) (h : vx_Zq C n d A u H) : vx_Zq C n d A U H := ⟨va_Zq.moved hvm h.1, vx_L.moved hvm h.2⟩
theorem vx_Zq.kept {C n d : String} {A : Nat → Prop} {U : State} {H H1 : Heap} (h : vx_Zq C n d A U H) (hq : ∀ a : Nat, a < H.size → ¬ A a → H1[a]? = H[a]?) : vx_Zq C n d A U H1 := ⟨va_Zq.kept h.1 hq, vx_L.kept h.2 hq⟩
theorem vx_Zq.narrow {C n d : String} {A B : Nat → Prop} {U : State} {H : Heap} (h : vx_Zq C n d A U H) (hAB : ∀ q, B q → A q) : vx_Zq C n d B U H := ⟨va_Zq.narrow h.1 hAB, vx_L.narrow h.2 hAB⟩
theorem vx_Zqof {args : Array Value} {s : State} {C n d : String} {A : Nat → Prop} (hl : (Cond.laysStatic C n d).before args s = true) (hini : (Cond.initialized C).before args s = true) (h : (Cond.isRef (.static C n d)).before args s = true) (hA : ∀ a : Nat, a < s.heap.size → ¬ A a) : vx_Zq C n d A s s.heap := by
  refine ⟨va_Zqof hl hini h hA, ?_⟩
  obtain ⟨c, k, i, f, a, cell, h1, h2, h3, h4, h5, h6, h7, h8, h9⟩ := Cond.laysStatic_spec hl
  exact ⟨c, k, i, f, a, cell, h1, h2, h3, h4, h5, h6, h7, h8, h9, hA a (Array.getElem?_eq_some_iff.mp h5).1⟩
theorem vx_isRef {C n d : String} {v : Value} {A : Nat → Prop} {s : State} {args : Array Value} (h : va_Z C n d v A s s.heap) (hv : v.isRef = true) : (Cond.isRef (.static C n d)).before args s = true := by
  obtain ⟨cf, kf, fi, f, a, cell, h1, h2, h3, h4, h5, h6, h7, -⟩ := h
  have he : (Term.static C n d).eval args s none [] s = some v := by
    simp [Term.eval, State.fieldNamed?, h1, h2, h4, h5, h6, h7]
  simp only [Cond.before, Cond.holds, Cond.value, he]
  cases v <;> simp_all [Value.isRef]
theorem vx_isRefq {C n d : String} {A : Nat → Prop} {s : State} {args : Array Value} (h : va_Zq C n d A s s.heap) : (Cond.isRef (.static C n d)).before args s = true := by
  rcases h with h | ⟨t, h⟩
  · exact vx_isRef h rfl
  · exact vx_isRef h rfl
/-- the same frame, seen from here: as if the method were called anew in this heap -/
theorem vx_rebase {T : State} (X : Stand p l e R s m args below meth c T locs cells slots) {R' : Room} (hf : R'.frames ≤ R.frames) (hl : R'.locals ≤ R.locals) (hc : cells + R'.cells ≤ R.cells) (hs : slots + R'.slots ≤ R.slots) :
    Stand p l e R' ((T.setVm s.vm).setFrames (.invoking m args :: below)) m args below meth c T [] 0 0 := by
  have htop : (T.setVm s.vm).topJava?.isSome := X.here.top
  have hF : ((T.setVm s.vm).setFrames (.invoking m args :: below)).frames = .invoking m args :: below := State.frames_setFrames _ (State.cur_lt_of_top htop)
  obtain ⟨g₀, hg0⟩ := Option.isSome_iff_exists.mp htop
  obtain ⟨r, hr⟩ := State.topJava?_eq_some.mp hg0
  have hl9 : e.platform.stackLimits (T.setVm s.vm).me = e.platform.stackLimits s.me := X.limits
  have hb9 : (T.setVm s.vm).me.stackBytes = s.me.stackBytes := X.bytes
  refine ⟨X.admits, X.cas, X.clock, hF, ?_, X.hears, X.method, X.code, X.here, X.tail, X.warmed, ?_, ?_, ?_⟩
  · have h := X.room
    have hU : ((T.setVm s.vm).setFrames (.invoking m args :: below)).localsInUse = s.localsInUse := by
      rw [State.localsInUse_invoking hF (meth := meth) (c := c) X.method X.code, State.localsInUse_invoking X.frames X.method X.code]
    simp only [State.hasRoom, Bool.and_eq_true, decide_eq_true_eq] at h ⊢
    obtain ⟨⟨⟨⟨h1, h2, h3, h4, h5, h6⟩, h7⟩, h8⟩, h9⟩ := h
    rw [X.frames, List.length_cons] at h2 h3
    have q1 := X.heapSize
    have q2 := X.used
    simp only [hF, hU, List.length_cons, State.stackLimits_setFrames, State.stackBytes_setFrames, hl9, hb9]
    refine ⟨⟨⟨⟨by omega, by omega, by omega, by omega, by omega, h6⟩, ?_⟩, ?_⟩, X.book⟩
    · show T.heap.size + R'.cells ≤ e.platform.maxCells
      omega
    · show T.slotsUsed + R'.slots ≤ e.platform.maxSlots
      omega
  · rw [State.stackLimits_setFrames]; rfl
  · rw [State.stackBytes_setFrames]; rfl
  · refine ⟨?_, Nat.le_refl _, Nat.le_refl _, ?_, ?_, fun a c9 h9 => ⟨c9, h9, rfl, rfl, fun _ _ => rfl⟩⟩
    · obtain ⟨t, ht, -⟩ := State.frames_cons hr
      show T.setVm s.vm = { ((T.setVm s.vm).setFrames (.invoking m args :: below)).setFrames (T.setVm s.vm).frames with heap := T.heap, slotsUsed := T.slotsUsed }
      rw [State.setFrames_setFrames, State.setFrames_self ht]
      rfl
    · show T.slotsUsed = T.slotsUsed + ((T.heap.toList.drop T.heap.size).map (·.slots.size)).sum
      rw [List.drop_eq_nil_of_le (Nat.le_of_eq Array.length_toList)]
      rfl
    · show ((T.heap.toList.drop T.heap.size).map (·.slots.size)).sum ≤ 0
      rw [List.drop_eq_nil_of_le (Nat.le_of_eq Array.length_toList)]
      exact Nat.le_refl _
/-- 'throw new E()': new; dup; invokespecial; athrow -/
theorem vx_throw0 {cc : ByteArray} {pc : Nat} (hexec : p.tables.exec = Jvm.exec) (hb : c.code = cc) (hl : l.stackTraces = false) {own cls : String} {names : List String} {ik ic mc ms : Nat} {A : Nat → Prop}
    (hown : s.vm.findClass own = some m.cls) (hcls : Bundle.fit cls = true) (hnames : ∀ n ∈ names, Bundle.fit n = true)
    (hk : (Cond.classLink own ik cls).before args s = true) (hini : (Cond.initialized cls).before args s = true) (hat : ∀ w ∈ vx_at0 own ic cls names, w.before args s = true)
    (hgood : ∀ w ∈ Cond.classLink own ik cls :: Cond.initialized cls :: vx_at0 own ic cls names, vx_ot w = true)
    (hU : vx_Zq Bundle.tN "UNASSIGNED_STACK" Bundle.steD A s s.heap) (hN : vx_Zq Bundle.tN "SUPPRESSED_SENTINEL" Bundle.listD A s s.heap) (hS : va_S A s.heap H locs) (hsize : ls.size = c.maxLocals)
    (d0 : decode cc pc = .ok (.new ik, 3)) (d3 : decode cc (pc + 3) = .ok (.dup, 1)) (d4 : decode cc (pc + 4) = .ok (.invokespecial ic, 3)) (d7 : decode cc (pc + 7) = .ok (.athrow, 1))
    (hout : ∀ x ∈ c.exceptionTable.toList, covers x (pc + 7) = false)
    (hRframes : names.length + 3 < R.frames) (hRlocals : (rest.map fun v => v.category).sum + (13 * (names.length + 1) + 42) ≤ R.locals) (hRcells : cells + 1 ≤ R.cells) (hRslots : slots + 6 ≤ R.slots) (hlocks : meth.locks = false)
    (hx : ∀ t : State, s.vm.Alike t.vm → H.size ≤ t.heap.size → (∀ q : Nat, q < H.size → t.heap[q]? = H[q]?) → XC cls s t)
    (hf : ∀ z ∈ locs, free z.base) (hc : cells + 1 ≤ mc) (hs : slots + 6 ≤ ms) :
    W p l e R s m args below meth c H locs cells slots (vx_MQ below Qc XC args s mc ms free) (F0 m pc ls rest) := by
  intro T hT X
  have htr : e.platform.stackTraces = false := (show e.platform.stackTraces = l.stackTraces by rw [X.admits.platform]).trans hl
  have Y := vx_rebase X (R' := { frames := R.frames, locals := R.locals, cells := 1, slots := 6 }) (Nat.le_refl _) (Nat.le_refl _) hRcells hRslots
  obtain ⟨s', hA⟩ : ∃ z, z = (T.setVm s.vm).setFrames (.invoking m args :: below) := ⟨_, rfl⟩
  rw [← hA] at Y
  have hvm : s'.vm = s.vm := by rw [hA]; rfl
  have hhp : s'.heap = H := by rw [hA]; exact hT
  have hW0 : s.WarmedH s'.vm := by rw [hvm]; exact State.WarmedH.refl s
  have hat' : ∀ w ∈ vx_at0 own ic cls names, w.before args s' = true := fun w hw => vx_ot_at hW0 hvm.symm (hgood w (List.mem_cons_of_mem _ (List.mem_cons_of_mem _ hw))) (hat w hw)
  have hk' : (Cond.classLink own ik cls).before args s' = true := vx_ot_at hW0 hvm.symm (hgood _ List.mem_cons_self) hk
  have hini' : (Cond.initialized cls).before args s' = true := vx_ot_at hW0 hvm.symm (hgood _ (List.mem_cons_of_mem _ List.mem_cons_self)) hini
  have hU' : vx_Zq Bundle.tN "UNASSIGNED_STACK" Bundle.steD A s' s'.heap := by rw [hhp]; exact vx_Zq.moved hW0.alike (hU.kept hS.2.1)
  have hN' : vx_Zq Bundle.tN "SUPPRESSED_SENTINEL" Bundle.listD A s' s'.heap := by rw [hhp]; exact vx_Zq.moved hW0.alike (hN.kept hS.2.1)
  have h : ∀ w ∈ Bundle.ownAtoms0 own ic cls names, w.before args s' = true := vx_own hat' (vx_isRefq hU'.1) (vx_isRefq hN'.1) hU'.2.word hN'.2.word
  have hown' : s'.vm.findClass own = some m.cls := by rw [hvm]; exact hown
  have hins : (Cond.instantiable cls 6).before args s' = true := h _ (by simp [Bundle.ownAtoms0])
  obtain ⟨vm₁, cX, kX, hfX, hkX, -, -, X₁, st1⟩ := Y.newCold hexec (own := own) (C := cls) (index := ik) (n := 6) hown' hk' hins hini'
    (g := F0 m pc ls rest) rfl (by rw [hb]; exact d0) (Nat.le_refl _) (Nat.le_refl _)
  generalize hT1 : (T.setVm vm₁).pushCell { cls := cX, slots := kX.instanceTypes.map defaultValue, vm := .none } = T1 at X₁ st1
  have hcat : (Value.ref T.heap.size).category = 1 := rfl
  have hcellA : T1.heap[T.heap.size]? = some (freshCell cX kX) := by rw [← hT1]; exact State.heap_pushCell_size _ _
  have d3' : decode c.code (pc + 3) = .ok (.dup, 1) := by rw [hb]; exact d3
  obtain ⟨U, hsteps, hrun, hend, hW, hsame, ce, hce, hO⟩ := X₁.ctorThrow0 hexec htr (own := own) (cls := cls) (names := names) (ic := ic) hown' hcls hnames h (fun x hx => nomatch hx) hfX hkX hcellA (by rw [hhp, hT]; exact Nat.le_refl _)
    (g := { method := m, pc := pc + 4, locals := ls, stack := .ref T.heap.size :: .ref T.heap.size :: rest, locked := none }) rfl hsize rfl rfl (rest := rest) rfl
    (by rw [hb]; exact d4) (by rw [hb]; exact d7) hout hRframes (by simp only [List.map_cons, List.sum_cons, hcat]; omega) hlocks
  obtain ⟨f1, f2⟩ := vx_frame hsame
  rw [hhp] at f1 f2
  have hWs : s.WarmedH U.vm := State.WarmedH.trans hW0 hW
  have hcl : s.vm.findClass cls = some ce.cls := by
    have h9 := hO.cls
    rw [hvm] at h9
    exact h9
  have hall : s.sameButNew ({ U with vm := s.vm } : State) locs mc ms := by
    subst hA
    obtain ⟨e1, e2⟩ := hsame
    rw [State.setFrames_setFrames] at e1
    have h2 : (T.setVm s.vm).sameButNew ({ U with vm := s.vm } : State) [] (0 + 1) (0 + 6) := ⟨e1, e2⟩
    have h3 := X.same.trans h2
    rw [List.append_nil] at h3
    exact h3.mono hc hs
  refine ⟨U, ?_, .threw T.heap.size, hrun, hend, Or.inr ⟨T.heap.size, rfl, cls, ce, locs, hx U hWs.alike f1 (fun q hq => f2 q hq (fun z hz => nomatch hz)), hce, hO.vm, hcl, hWs, hall, hf⟩⟩
  refine st1 _ ?_
  show Steps p.tables e below (T1.setTop { method := m, pc := pc + 3, locals := ls, stack := .ref T.heap.size :: rest, locked := none }) _
  jvm_step X₁.here [X₁.here.top, hexec, d3', Value.category]
  exact hsteps
/-- 'throw new E("text")': new; dup; ldc; invokespecial; athrow -/
theorem vx_throwS {cc : ByteArray} {pc : Nat} (hexec : p.tables.exec = Jvm.exec) (hb : c.code = cc) (hl : l.stackTraces = false) {own cls text : String} {names : List String} {ik is ic mc ms sa : Nat} {A : Nat → Prop}
    (hown : s.vm.findClass own = some m.cls) (hcls : Bundle.fit cls = true) (hnames : ∀ n ∈ names, Bundle.fit n = true)
    (hk : (Cond.classLink own ik cls).before args s = true) (hini : (Cond.initialized cls).before args s = true) (hstr : vk_R own is text sa s) (hat : ∀ w ∈ vx_atS own ic cls names, w.before args s = true)
    (hgood : ∀ w ∈ Cond.classLink own ik cls :: Cond.initialized cls :: vx_atS own ic cls names, vx_ot w = true)
    (hU : vx_Zq Bundle.tN "UNASSIGNED_STACK" Bundle.steD A s s.heap) (hN : vx_Zq Bundle.tN "SUPPRESSED_SENTINEL" Bundle.listD A s s.heap) (hS : va_S A s.heap H locs) (hsize : ls.size = c.maxLocals)
    (d0 : decode cc pc = .ok (.new ik, 3)) (d3 : decode cc (pc + 3) = .ok (.dup, 1)) (d4 : decode cc (pc + 4) = .ok (.ldc is, 2)) (d6 : decode cc (pc + 6) = .ok (.invokespecial ic, 3)) (d9 : decode cc (pc + 9) = .ok (.athrow, 1))
    (hout : ∀ x ∈ c.exceptionTable.toList, covers x (pc + 9) = false)
    (hRframes : names.length + 3 < R.frames) (hRlocals : (rest.map fun v => v.category).sum + (13 * (names.length + 1) + 43) ≤ R.locals) (hRcells : cells + 1 ≤ R.cells) (hRslots : slots + 6 ≤ R.slots) (hlocks : meth.locks = false)
    (hx : ∀ t : State, s.vm.Alike t.vm → H.size ≤ t.heap.size → (∀ q : Nat, q < H.size → t.heap[q]? = H[q]?) → XC cls s t)
    (hf : ∀ z ∈ locs, free z.base) (hc : cells + 1 ≤ mc) (hs : slots + 6 ≤ ms) :
    W p l e R s m args below meth c H locs cells slots (vx_MQ below Qc XC args s mc ms free) (F0 m pc ls rest) := by
  intro T hT X
  have htr : e.platform.stackTraces = false := (show e.platform.stackTraces = l.stackTraces by rw [X.admits.platform]).trans hl
  have Y := vx_rebase X (R' := { frames := R.frames, locals := R.locals, cells := 1, slots := 6 }) (Nat.le_refl _) (Nat.le_refl _) hRcells hRslots
  obtain ⟨s', hA⟩ : ∃ z, z = (T.setVm s.vm).setFrames (.invoking m args :: below) := ⟨_, rfl⟩
  rw [← hA] at Y
  have hvm : s'.vm = s.vm := by rw [hA]; rfl
  have hhp : s'.heap = H := by rw [hA]; exact hT
  have hW0 : s.WarmedH s'.vm := by rw [hvm]; exact State.WarmedH.refl s
  have hat' : ∀ w ∈ vx_atS own ic cls names, w.before args s' = true := fun w hw => vx_ot_at hW0 hvm.symm (hgood w (List.mem_cons_of_mem _ (List.mem_cons_of_mem _ hw))) (hat w hw)
  have hk' : (Cond.classLink own ik cls).before args s' = true := vx_ot_at hW0 hvm.symm (hgood _ List.mem_cons_self) hk
  have hini' : (Cond.initialized cls).before args s' = true := vx_ot_at hW0 hvm.symm (hgood _ (List.mem_cons_of_mem _ List.mem_cons_self)) hini
  have hU' : vx_Zq Bundle.tN "UNASSIGNED_STACK" Bundle.steD A s' s'.heap := by rw [hhp]; exact vx_Zq.moved hW0.alike (hU.kept hS.2.1)
  have hN' : vx_Zq Bundle.tN "SUPPRESSED_SENTINEL" Bundle.listD A s' s'.heap := by rw [hhp]; exact vx_Zq.moved hW0.alike (hN.kept hS.2.1)
  have h : ∀ w ∈ Bundle.ownAtoms own ic cls names, w.before args s' = true := vx_own hat' (vx_isRefq hU'.1) (vx_isRefq hN'.1) hU'.2.word hN'.2.word
  have hown' : s'.vm.findClass own = some m.cls := by rw [hvm]; exact hown
  have hins : (Cond.instantiable cls 6).before args s' = true := h _ (by simp [Bundle.ownAtoms])
  obtain ⟨vm₁, cX, kX, hfX, hkX, -, -, X₁, st1⟩ := Y.newCold hexec (own := own) (C := cls) (index := ik) (n := 6) hown' hk' hins hini'
    (g := F0 m pc ls rest) rfl (by rw [hb]; exact d0) (Nat.le_refl _) (Nat.le_refl _)
  generalize hT1 : (T.setVm vm₁).pushCell { cls := cX, slots := kX.instanceTypes.map defaultValue, vm := .none } = T1 at X₁ st1
  have hcat : (Value.ref T.heap.size).category = 1 := rfl
  have hcellA : T1.heap[T.heap.size]? = some (freshCell cX kX) := by rw [← hT1]; exact State.heap_pushCell_size _ _
  have d3' : decode c.code (pc + 3) = .ok (.dup, 1) := by rw [hb]; exact d3
  have d4' : decode c.code (pc + 4) = .ok (.ldc is, 2) := by rw [hb]; exact d4
  have hstr' : vk_R own is text sa s' := vk_R.warm hW0 hstr
  obtain ⟨U, hsteps, hrun, hend, hW, hsame, ce, hce, hO⟩ := X₁.ctorThrowS hexec htr (own := own) (cls := cls) (names := names) (ic := ic) hown' hcls hnames h (fun x hx => nomatch hx) hfX hkX hcellA (by rw [hhp, hT]; exact Nat.le_refl _) (msg := .ref sa) rfl
    (g := { method := m, pc := pc + 6, locals := ls, stack := .ref sa :: .ref T.heap.size :: .ref T.heap.size :: rest, locked := none }) rfl hsize rfl rfl (rest := rest) rfl
    (by rw [hb]; exact d6) (by rw [hb]; exact d9) hout hRframes (by simp only [List.map_cons, List.sum_cons, hcat]; omega) hlocks
  obtain ⟨f1, f2⟩ := vx_frame hsame
  rw [hhp] at f1 f2
  have hWs : s.WarmedH U.vm := State.WarmedH.trans hW0 hW
  have hcl : s.vm.findClass cls = some ce.cls := by
    have h9 := hO.cls
    rw [hvm] at h9
    exact h9
  have hall : s.sameButNew ({ U with vm := s.vm } : State) locs mc ms := by
    subst hA
    obtain ⟨e1, e2⟩ := hsame
    rw [State.setFrames_setFrames] at e1
    have h2 : (T.setVm s.vm).sameButNew ({ U with vm := s.vm } : State) [] (0 + 1) (0 + 6) := ⟨e1, e2⟩
    have h3 := X.same.trans h2
    rw [List.append_nil] at h3
    exact h3.mono hc hs
  refine ⟨U, ?_, .threw T.heap.size, hrun, hend, Or.inr ⟨T.heap.size, rfl, cls, ce, locs, hx U hWs.alike f1 (fun q hq => f2 q hq (fun z hz => nomatch hz)), hce, hO.vm, hcl, hWs, hall, hf⟩⟩
  refine st1 _ ?_
  show Steps p.tables e below (T1.setTop { method := m, pc := pc + 3, locals := ls, stack := .ref T.heap.size :: rest, locked := none }) _
  jvm_step X₁.here [X₁.here.top, hexec, d3', Value.category]
  exact X₁.ldcString hexec (own := own) (text := text) (index := is) (a := sa) hown' hstr'.1 hstr'.2
    (g := { method := m, pc := pc + 4, locals := ls, stack := .ref T.heap.size :: .ref T.heap.size :: rest, locked := none }) rfl d4' _ hsteps
/-- 'throw new E("text")', the text by a wide index -/
theorem vx_throwSW {cc : ByteArray} {pc : Nat} (hexec : p.tables.exec = Jvm.exec) (hb : c.code = cc) (hl : l.stackTraces = false) {own cls text : String} {names : List String} {ik is ic mc ms sa : Nat} {A : Nat → Prop}
    (hown : s.vm.findClass own = some m.cls) (hcls : Bundle.fit cls = true) (hnames : ∀ n ∈ names, Bundle.fit n = true)
    (hk : (Cond.classLink own ik cls).before args s = true) (hini : (Cond.initialized cls).before args s = true) (hstr : vk_R own is text sa s) (hat : ∀ w ∈ vx_atS own ic cls names, w.before args s = true)
    (hgood : ∀ w ∈ Cond.classLink own ik cls :: Cond.initialized cls :: vx_atS own ic cls names, vx_ot w = true)
    (hU : vx_Zq Bundle.tN "UNASSIGNED_STACK" Bundle.steD A s s.heap) (hN : vx_Zq Bundle.tN "SUPPRESSED_SENTINEL" Bundle.listD A s s.heap) (hS : va_S A s.heap H locs) (hsize : ls.size = c.maxLocals)
    (d0 : decode cc pc = .ok (.new ik, 3)) (d3 : decode cc (pc + 3) = .ok (.dup, 1)) (d4 : decode cc (pc + 4) = .ok (.ldc_w is, 3)) (d7 : decode cc (pc + 7) = .ok (.invokespecial ic, 3)) (d10 : decode cc (pc + 10) = .ok (.athrow, 1))
    (hout : ∀ x ∈ c.exceptionTable.toList, covers x (pc + 10) = false)
    (hRframes : names.length + 3 < R.frames) (hRlocals : (rest.map fun v => v.category).sum + (13 * (names.length + 1) + 43) ≤ R.locals) (hRcells : cells + 1 ≤ R.cells) (hRslots : slots + 6 ≤ R.slots) (hlocks : meth.locks = false)
    (hx : ∀ t : State, s.vm.Alike t.vm → H.size ≤ t.heap.size → (∀ q : Nat, q < H.size → t.heap[q]? = H[q]?) → XC cls s t)
    (hf : ∀ z ∈ locs, free z.base) (hc : cells + 1 ≤ mc) (hs : slots + 6 ≤ ms) :
    W p l e R s m args below meth c H locs cells slots (vx_MQ below Qc XC args s mc ms free) (F0 m pc ls rest) := by
  intro T hT X
  have htr : e.platform.stackTraces = false := (show e.platform.stackTraces = l.stackTraces by rw [X.admits.platform]).trans hl
  have Y := vx_rebase X (R' := { frames := R.frames, locals := R.locals, cells := 1, slots := 6 }) (Nat.le_refl _) (Nat.le_refl _) hRcells hRslots
  obtain ⟨s', hA⟩ : ∃ z, z = (T.setVm s.vm).setFrames (.invoking m args :: below) := ⟨_, rfl⟩
  rw [← hA] at Y
  have hvm : s'.vm = s.vm := by rw [hA]; rfl
  have hhp : s'.heap = H := by rw [hA]; exact hT
  have hW0 : s.WarmedH s'.vm := by rw [hvm]; exact State.WarmedH.refl s
  have hat' : ∀ w ∈ vx_atS own ic cls names, w.before args s' = true := fun w hw => vx_ot_at hW0 hvm.symm (hgood w (List.mem_cons_of_mem _ (List.mem_cons_of_mem _ hw))) (hat w hw)
  have hk' : (Cond.classLink own ik cls).before args s' = true := vx_ot_at hW0 hvm.symm (hgood _ List.mem_cons_self) hk
  have hini' : (Cond.initialized cls).before args s' = true := vx_ot_at hW0 hvm.symm (hgood _ (List.mem_cons_of_mem _ List.mem_cons_self)) hini
  have hU' : vx_Zq Bundle.tN "UNASSIGNED_STACK" Bundle.steD A s' s'.heap := by rw [hhp]; exact vx_Zq.moved hW0.alike (hU.kept hS.2.1)
  have hN' : vx_Zq Bundle.tN "SUPPRESSED_SENTINEL" Bundle.listD A s' s'.heap := by rw [hhp]; exact vx_Zq.moved hW0.alike (hN.kept hS.2.1)
  have h : ∀ w ∈ Bundle.ownAtoms own ic cls names, w.before args s' = true := vx_own hat' (vx_isRefq hU'.1) (vx_isRefq hN'.1) hU'.2.word hN'.2.word
  have hown' : s'.vm.findClass own = some m.cls := by rw [hvm]; exact hown
  have hins : (Cond.instantiable cls 6).before args s' = true := h _ (by simp [Bundle.ownAtoms])
  obtain ⟨vm₁, cX, kX, hfX, hkX, -, -, X₁, st1⟩ := Y.newCold hexec (own := own) (C := cls) (index := ik) (n := 6) hown' hk' hins hini'
    (g := F0 m pc ls rest) rfl (by rw [hb]; exact d0) (Nat.le_refl _) (Nat.le_refl _)
  generalize hT1 : (T.setVm vm₁).pushCell { cls := cX, slots := kX.instanceTypes.map defaultValue, vm := .none } = T1 at X₁ st1
  have hcat : (Value.ref T.heap.size).category = 1 := rfl
  have hcellA : T1.heap[T.heap.size]? = some (freshCell cX kX) := by rw [← hT1]; exact State.heap_pushCell_size _ _
  have d3' : decode c.code (pc + 3) = .ok (.dup, 1) := by rw [hb]; exact d3
  have d4' : decode c.code (pc + 4) = .ok (.ldc_w is, 3) := by rw [hb]; exact d4
  have hstr' : vk_R own is text sa s' := vk_R.warm hW0 hstr
  obtain ⟨U, hsteps, hrun, hend, hW, hsame, ce, hce, hO⟩ := X₁.ctorThrowS hexec htr (own := own) (cls := cls) (names := names) (ic := ic) hown' hcls hnames h (fun x hx => nomatch hx) hfX hkX hcellA (by rw [hhp, hT]; exact Nat.le_refl _) (msg := .ref sa) rfl
    (g := { method := m, pc := pc + 7, locals := ls, stack := .ref sa :: .ref T.heap.size :: .ref T.heap.size :: rest, locked := none }) rfl hsize rfl rfl (rest := rest) rfl
    (by rw [hb]; exact d7) (by rw [hb]; exact d10) hout hRframes (by simp only [List.map_cons, List.sum_cons, hcat]; omega) hlocks
  obtain ⟨f1, f2⟩ := vx_frame hsame
  rw [hhp] at f1 f2
  have hWs : s.WarmedH U.vm := State.WarmedH.trans hW0 hW
  have hcl : s.vm.findClass cls = some ce.cls := by
    have h9 := hO.cls
    rw [hvm] at h9
    exact h9
  have hall : s.sameButNew ({ U with vm := s.vm } : State) locs mc ms := by
    subst hA
    obtain ⟨e1, e2⟩ := hsame
    rw [State.setFrames_setFrames] at e1
    have h2 : (T.setVm s.vm).sameButNew ({ U with vm := s.vm } : State) [] (0 + 1) (0 + 6) := ⟨e1, e2⟩
    have h3 := X.same.trans h2
    rw [List.append_nil] at h3
    exact h3.mono hc hs
  refine ⟨U, ?_, .threw T.heap.size, hrun, hend, Or.inr ⟨T.heap.size, rfl, cls, ce, locs, hx U hWs.alike f1 (fun q hq => f2 q hq (fun z hz => nomatch hz)), hce, hO.vm, hcl, hWs, hall, hf⟩⟩
  refine st1 _ ?_
  show Steps p.tables e below (T1.setTop { method := m, pc := pc + 3, locals := ls, stack := .ref T.heap.size :: rest, locked := none }) _
  jvm_step X₁.here [X₁.here.top, hexec, d3', Value.category]
  exact X₁.ldcStringW hexec (own := own) (text := text) (index := is) (a := sa) hown' hstr'.1 hstr'.2
    (g := { method := m, pc := pc + 4, locals := ls, stack := .ref T.heap.size :: .ref T.heap.size :: rest, locked := none }) rfl d4' _ hsteps
end Ends
section Bodies
variable {l : Launch}
theorem vx_ofW {y : MethodName} {ws ws' : List Cond} {rm : Room} {Pc : Array Value → State → Prop} {Qc : Array Value → State → Outcome → State → Prop} {XC : String → State → State → Prop} {mc ms : Nat} {free : Addr → Prop} {cc : ByteArray} {maxL : Nat} {ret : Option FieldType}
    (hy : plainName y.cls = true) (hw : ws = Cond.code y cc maxL ret :: ws')
    (body : ∀ p e s m args below meth c s₁, BodyLoose p l y (headSpec ws rm) cc maxL ret e s m args below meth c s₁ → c.maxLocals = maxL → (∀ x ∈ c.exceptionTable.toList, False) → Pc args s →
      W p l e (headSpec ws rm).room s m args below meth c s.heap [] 0 0 (vx_MQ below Qc XC args s mc ms free) (entryFrame m args maxL)) : vx_Met l y ws rm Pc Qc XC mc ms free := by
  refine MetFree.of_bodyS (code := cc) (maxLocals := maxL) (ret := ret) hy ?_ ?_
  · intro args s m h hn
    obtain ⟨meth, c, h1, h2, h3, h4, h5, h6, -, -⟩ := Cond.code_spec hn (atoms_spec (ws := ws) h _ (by rw [hw]; exact List.mem_cons_self))
    exact ⟨meth, c, h1, h2, h3, h4, h5, h6⟩
  · intro p e s m args below meth c s₁ B hml hP _
    have hh0 : s₁.heap = s.heap := by rw [B.state]; rfl
    have ht : ∀ x ∈ c.exceptionTable.toList, False := by
      obtain ⟨meth9, c9, h1, h2, -, -, -, -, h7, -⟩ := Cond.code_spec B.named (atoms_spec (ws := ws) B.pre _ (by rw [hw]; exact List.mem_cons_self))
      cases Option.some.inj (h1.symm.trans B.method)
      cases Option.some.inj (h2.symm.trans (Stand.of_body B).code)
      intro x hx
      rw [Array.isEmpty_iff.mp h7] at hx
      cases hx
    obtain ⟨t, a1, o, b1, b2, b3⟩ := body p e s m args below meth c s₁ B hml ht hP s₁ hh0 (Stand.of_body B)
    exact ⟨t, o, a1, b1, b2, b3⟩
/-- the table of a body with handlers -/
theorem vx_table {p : Program} {x y : MethodName} {S : Spec} {cc bytes : ByteArray} {maxL maxL' : Nat} {ret ret' : Option FieldType} {e : Env} {s s₁ : State} {m : MethodId} {args : Array Value} {below : List Frame} {meth : Method} {c : Code} {hh : List (Nat × Nat × Nat × Nat)}
    (B : BodyLoose p l y S cc maxL ret e s m args below meth c s₁) (h : (Cond.codeWith y bytes maxL' ret' hh).before args s = true) : c.exceptionTable.toList = tableOf hh := by
  obtain ⟨m9, meth9, c9, hn9, h1, h2, -, -, h6, -⟩ := Cond.codeWith_spec h
  cases Option.some.inj (hn9.symm.trans B.named)
  cases Option.some.inj (h1.symm.trans B.method)
  cases Option.some.inj (h2.symm.trans (Stand.of_body B).code)
  rw [← h6, table_eq]
end Bodies
end VXA
/-! ===== END ===== -/
/-! ===== BEGIN a static call of a method with an exception table ===== -/
section VXS
variable {p : Program} {l : Launch} {e : Env} {R : Room} {s : State} {m : MethodId} {args : Array Value} {below : List Frame} {meth : Method} {c : Code} {T : State} {H : Heap} {locs : List Loc} {cells slots : Nat}
abbrev vx_CSW (R : Room) (s : State) (args : Array Value) (own : String) (index : Nat) (y : MethodName) (bytes : ByteArray) (maxL : Nat) (ret : Option FieldType) (hh : List (Nat × Nat × Nat × Nat)) (ws : List Cond) (rm : Room) (mc ms n : Nat) : Prop :=
  (rm.cells = mc ∧ rm.slots = ms ∧ rm.frames + 1 ≤ R.frames ∧ 8 + (maxL + 11) + rm.locals ≤ R.locals ∧ (∀ w ∈ ws, ∀ (a' : Array Value) (U : State), s.WarmedH U.vm → w.before a' U = true) ∧ Cond.codeWith y bytes maxL ret hh ∈ ws) ∧
  (Cond.codeWith y bytes maxL ret hh).before args s = true ∧ (Cond.initialized y.cls).before args s = true ∧ (y.cls ≠ "java/lang/invoke/MethodHandle" ∧ y.cls ≠ "java/lang/invoke/VarHandle") ∧
  (∀ sig, parseMethodDescriptor y.desc = some sig → n = sig.parameters.length) ∧ (Cond.methodLink own index y).before args s = true ∧ (Cond.static y).before args s = true
theorem vx_cwSW {own : String} {index maxL mc ms : Nat} {y : MethodName} {bytes : ByteArray} {ret : Option FieldType} {hh : List (Nat × Nat × Nat × Nat)} {Ts ws ws' : List Cond} {rm : Room} (n : Nat) (ht : ∀ w ∈ Ts, w.before args s = true) (hT : GoodIn Ts (va_wsS own index y ws)) (hw : ws = Cond.codeWith y bytes maxL ret hh :: ws') (hrc : rm.cells = mc) (hrs : rm.slots = ms)
    (hd : y.cls ≠ "java/lang/invoke/MethodHandle" ∧ y.cls ≠ "java/lang/invoke/VarHandle" ∧ (parseMethodDescriptor y.desc).map (fun d => d.parameters.length) = some n) (hR : rm.frames + 1 ≤ R.frames ∧ 8 + (maxL + 11) + rm.locals ≤ R.locals) :
    vx_CSW R s args own index y bytes maxL ret hh ws rm mc ms n := by
  have ok : ∀ w ∈ va_wsS own index y ws, w.before args s = true := fun w h => ht w (hT w h).1
  have hG : GoodIn Ts ws := fun w h => hT w (by unfold va_wsS; exact List.mem_append_right _ h)
  have hc : Cond.codeWith y bytes maxL ret hh ∈ ws := by rw [hw]; exact List.mem_cons_self
  refine ⟨⟨hrc, hrs, hR.1, hR.2, pay_in ht hG, hc⟩, ht _ (hG _ hc).1, ok _ (by simp [va_wsS]), ⟨hd.1, hd.2.1⟩, fun sig h => ?_, ok _ (by simp [va_wsS]), ok _ (by simp [va_wsS])⟩
  have h2 := hd.2.2
  rw [h] at h2
  exact (Option.some.inj h2).symm
theorem vx_callSW (X : Stand p l e R s m args below meth c T locs cells slots) (hexec : p.tables.exec = Jvm.exec) {own : String} {index : Nat} {y : MethodName} {bytes : ByteArray} {maxL : Nat} {ret : Option FieldType} {hh : List (Nat × Nat × Nat × Nat)}
    (hown : s.vm.findClass own = some m.cls) (hlink : (Cond.methodLink own index y).before args s = true) (hstat : (Cond.static y).before args s = true) (hinit : (Cond.initialized y.cls).before args s = true)
    (hcode : (Cond.codeWith y bytes maxL ret hh).before args s = true) (hy : y.cls ≠ "java/lang/invoke/MethodHandle" ∧ y.cls ≠ "java/lang/invoke/VarHandle")
    {W9 : Nat} {Pre : Pt → Array Value → Prop} {Post : Pt → Array Value → Option Value → Pt → Prop} (hK : Back l R p e below s args y 3 W9 Pre Post)
    {g : JFrame} (hg : g.method = m) (hsize : g.locals.size = c.maxLocals) {argsL rest : List Value} (hlen : ∀ sig, parseMethodDescriptor y.desc = some sig → argsL.length = sig.parameters.length)
    (hstack : g.stack = argsL.reverse ++ rest) (hW : 2 * g.monitorRoom + (rest.map fun v => v.category).sum ≤ W9) (hdg : decode c.code g.pc = .ok (.invokestatic index, 3))
    (hpre : ∀ vm₁, s.WarmedH vm₁ → Pre ⟨T.setVm vm₁, locs, cells, slots⟩ argsL.toArray) :
    ∃ (v : Option Value) (vm₁ : Vm) (B : Pt), s.WarmedH vm₁ ∧ Stand p l e R s m args below meth c B.U B.locs B.cells B.slots ∧ Post ⟨T.setVm vm₁, locs, cells, slots⟩ argsL.toArray v B ∧
      ∀ target, Steps p.tables e below (B.U.setTop { g with pc := g.pc + 3, stack := v.toList ++ rest }) target → Steps p.tables e below (T.setTop g) target := by
  obtain ⟨mk, methM, cM, hnamed, hmethM, -, -, -, -, -, -, hsigM⟩ := Cond.codeWith_spec hcode
  have hstatic : methM.isStatic = true := Cond.static_spec hnamed hmethM hstat
  obtain ⟨kP, hkP, -⟩ := className_of_methodNamed hnamed
  have hinitP : kP.init = .initialized := Cond.initialized_spec (findClass_of_methodNamed hnamed) hkP hinit
  obtain ⟨vm₁, X₁, hstep₁⟩ := X.invokestatic hexec hown hlink hnamed hmethM hstatic hkP hinitP hy (g := g) hg (argsL := argsL) (rest := rest) (hlen _ hsigM) hstack hdg
  obtain ⟨v, B, X', hpost, hsteps⟩ := hK m meth c ⟨T.setVm vm₁, locs, cells, slots⟩ { g with stack := rest } (.invokestatic index) mk argsL.toArray X₁ hg hsize hdg hW (X₁.named hnamed) (hpre vm₁ X₁.warmed)
  exact ⟨v, vm₁, B, X₁.warmed, X', hpost, fun target h => hstep₁ _ fun acts => by rw [doInvoke_state]; exact hsteps.trans h⟩
theorem vx_runSW {y : MethodName} {bytes cc : ByteArray} {maxL nL mc ms n index : Nat} {ret : Option FieldType} {hh : List (Nat × Nat × Nat × Nat)} {ws : List Cond} {rm : Room} {Pc : Array Value → State → Prop} {Qc : Array Value → State → Outcome → State → Prop} {free : Addr → Prop} {Ts : List Cond} {own : String} {As rest : List Value} {g : JFrame}
    (S : CallFix p m c cc nL s args Ts own) (hM : Met l y ws rm Pc Qc mc ms free) (cw : vx_CSW R s args own index y bytes maxL ret hh ws rm mc ms n) (hp : PreS s H Pc As)
    (hg : g.method = m) (hn : As.length = n) (hsize : g.locals.size = nL) (hstack : g.stack = As.reverse ++ rest) (hW : 2 * g.monitorRoom + (rest.map fun v => v.category).sum ≤ 8) (hdg : decode cc g.pc = .ok (.invokestatic index, 3)) (hf : cells + mc ≤ R.cells ∧ slots + ms ≤ R.slots) :
    va_Run p l e R s m args below meth c H locs cells slots mc ms g rest (Qc As.toArray) (free) := by
  obtain ⟨⟨hrc, hrs, hfr, hlo, hws, hcw⟩, hcode, hini, hy, hlen, hl, hstt⟩ := cw
  have hK : Back l R p e below s args y 3 8 (PreOf R mc ms Pc) (PostOf Qc mc ms free) := va_backW (hh := hh) (bytes := bytes) (maxL := maxL) (ret := ret) hM hp.1 hrc hrs hfr hlo hws hcw (fun a' U hW => word_at hW (Or.inl (by first | rfl | simp [Cond.onTables, Cond.keeps, Cond.steady])) hini)
  obtain ⟨hx, hb, hml, ho, -⟩ := S
  intro T hT X
  obtain ⟨v, vm₁, ⟨U', l2, c2, s2⟩, hW₁, X', ⟨g', mk, t, L, e1, e2, hq, h1, hL, h2, h3⟩, st⟩ := vx_callSW X hx (hh := hh) (bytes := bytes) (maxL := maxL) (ret := ret) ho hl hstt hini hcode hy hK hg (hsize.trans hml.symm) (argsL := As) (rest := rest) (fun sig h => hn.trans (hlen sig h)) hstack hW (by rw [hb]; exact hdg)
    (fun vm₁ hW₁ => ⟨hf.1, hf.2, hp.2 (T.setVm vm₁) hT hW₁⟩)
  dsimp only [Pt.U, Pt.locs, Pt.cells, Pt.slots] at X' e1 e2 h1 h2 h3 st
  subst h1; subst h2; subst h3
  exact ⟨v, (T.setVm vm₁).calling g' mk As.toArray, t, U', L, hT, X', hL, e1, e2, hq, st⟩
theorem vx_lt {D : va_G} {cl : List vw_C} {ws : va_W} {H1 : Heap} (h : va_P D cl ws H1) {k : Nat} {q : Nat × va_E} (hk : ws[k]? = some q) : q.1 < H1.size := (h k q hk).lt
end VXS
/-! ===== END ===== -/
/-! ===== BEGIN methods with a table of their own: called by a name, returning or throwing ===== -/
section VXH
/-! vx_backW, vx_callVX, vx_callSX, vx_callVW, vx_runVW, vx_runVX, vx_runSX, vx_ofWH follow the same proofs as their sisters above (Free/Laws.lean, Shelf42/LK1.lean); vx_outP calls Shelf42/NT130.lean (outThrough). -/
section
variable {l : Launch} {R : Room} {p : Program} {e : Env} {below : List Frame} {s : State} {sargs : Array Value} {y : MethodName} {len W9 : Nat}
theorem vx_backW {ws : List Cond} {rm : Room} {Pc : Array Value → State → Prop} {Qc : Array Value → State → Outcome → State → Prop} {XC : String → State → State → Prop} {mc ms : Nat} {free : Addr → Prop} {bytes : ByteArray} {maxL : Nat} {ret : Option FieldType} {hh : List (Nat × Nat × Nat × Nat)}
    (hM : vx_Met l y ws rm Pc Qc XC mc ms free) (hblind : FrameBlind Pc) (hrc : rm.cells = mc) (hrs : rm.slots = ms)
    (hframes : rm.frames + 1 ≤ R.frames) (hlocals : W9 + (maxL + 11) + rm.locals ≤ R.locals)
    (hws : ∀ w ∈ ws, ∀ a' U, s.WarmedH U.vm → w.before a' U = true) (hcode : Cond.codeWith y bytes maxL ret hh ∈ ws) (hinit : ∀ a' U, s.WarmedH U.vm → (Cond.initialized y.cls).before a' U = true) :
    vx_Back l R p e below s sargs y len W9 (PreOf R mc ms Pc) (PostOf Qc mc ms free) (vx_Post XC mc ms free) := by
  intro m meth c A g ig mk a X hg hsize hdg hW hn hp
  have h1 : (headSpec ws rm).pre.before a A.U = true := atoms_intro fun w hw => hws w hw _ _ X.warmed
  have h2 : (Cond.codeWith y bytes maxL ret hh).before a A.U = true := hws _ hcode _ _ X.warmed
  have h3 : (Cond.initialized y.cls).before a A.U = true := hinit _ _ X.warmed
  have h4 : A.cells + (headSpec ws rm).room.cells ≤ R.cells := by rw [show (headSpec ws rm).room.cells = mc from hrc]; exact hp.1
  have h5 : A.slots + (headSpec ws rm).room.slots ≤ R.slots := by rw [show (headSpec ws rm).room.slots = ms from hrs]; exact hp.2.1
  have hPc : Pc a (A.U.calling g mk a) := hblind _ _ _ _ hp.2.2
  obtain ⟨U, Ls, c0, s0⟩ := A
  dsimp only [Pt.U, Pt.locs, Pt.cells, Pt.slots] at h1 h2 h3 h4 h5 X hn hPc ⊢
  obtain ⟨m9, methY, cY, hn9, hmY, hcY, -, hlY, -⟩ := Cond.codeWith_spec h2
  cases Option.some.inj (hn9.symm.trans hn)
  obtain ⟨kY, hkY, -⟩ := className_of_methodNamed hn
  have hinitY : kY.init = .initialized := Cond.initialized_spec (findClass_of_methodNamed hn) hkY h3
  have h : At U g.method c below := by rw [hg]; exact X.here
  have hlocals9 : W9 + (maxL + 11) + (headSpec ws rm).room.locals ≤ R.locals := hlocals
  have happ : (headSpec ws rm).appliesLoose y e.platform (U.calling g mk a) = true :=
    Spec.appliesLoose_calling (g := g) h hdg hn hkY hinitY
      (X.room_calling (g := g) (R' := (headSpec ws rm).room) hsize hmY hcY hframes (by rw [hlY]; omega) h4 h5) h1
  obtain ⟨mid, hmid⟩ := h.above
  have hfr : (U.setTop g).frames = (.java g :: mid) ++ below := by rw [State.frames_setTop' g h.top, hmid]; rfl
  obtain ⟨o, s₂, hsteps, -, hend, hq⟩ := Steps.callFree hM p X.admits X.cas X.clock (acts := []) hfr happ hPc trivial
  have hq' : vx_Q Qc XC mc ms free a (U.calling g mk a) o s₂ := hq
  rw [State.frames_setTop' g h.top] at hend
  obtain ⟨g₀, hg0⟩ := Option.isSome_iff_exists.mp h.top
  obtain ⟨r, hr⟩ := State.topJava?_eq_some.mp hg0
  have hr' : (({ U with heap := s₂.heap, slotsUsed := s₂.slotsUsed } : State).setVm s₂.vm).frames = .java g₀ :: r := hr
  rcases hq' with ⟨hqc, L, hfe, hL⟩ | ⟨q, rfl, E, ce, L, hx, hce, hcv, hcl, hW₂, hsm, hL⟩
  · obtain ⟨⟨v, rfl⟩, hW₂, e2, q2, q3, q4, q5, q6⟩ := id hfe
    have e3 : s₂ = ({ (U.calling g mk a).setFrames s₂.frames with heap := s₂.heap, slotsUsed := s₂.slotsUsed } : State).setVm s₂.vm := by
      have : s₂ = ({ s₂ with vm := (U.calling g mk a).vm } : State).setVm s₂.vm := rfl
      rw [e2] at this
      exact this
    obtain ⟨c₂, i₂, len₂, hc₂, hd₂, hf₂⟩ := hend
    have hW' : U.WarmedH s₂.vm := hW₂
    have hcc : c₂ = c := by
      have h1 : s₂.code? g.method = U.code? g.method := by
        rw [State.code?_eq, State.code?_eq, hW'.alike.method?]
      exact Option.some.inj (hc₂.symm.trans (h1.trans h.code))
    subst hcc
    have hlen : len₂ = len := by rw [hdg] at hd₂; cases hd₂; rfl
    subst hlen
    have hs₂ : s₂ = (({ U with heap := s₂.heap, slotsUsed := s₂.slotsUsed } : State).setVm s₂.vm).setTop { g with pc := g.pc + len₂, stack := v.toList ++ g.stack } := by
      refine e3.trans ?_
      rw [hf₂, State.calling_eq h.top, State.setFrames_setFrames, State.setTop_of_frames _ hr', hr]
      rfl
    have hsame : U.sameButNew ({ U with heap := s₂.heap, slotsUsed := s₂.slotsUsed } : State) L mc ms := by
      refine ⟨?_, q2, q3, q4, q5, q6⟩
      obtain ⟨t, ht, -⟩ := State.frames_cons hr
      show ({ U with heap := s₂.heap, slotsUsed := s₂.slotsUsed } : State) = { U.setFrames U.frames with heap := s₂.heap, slotsUsed := s₂.slotsUsed }
      rw [State.setFrames_self ht]
    subst hg
    refine Or.inl ⟨v, ⟨(({ U with heap := s₂.heap, slotsUsed := s₂.slotsUsed } : State).setVm s₂.vm), Ls ++ L, c0 + mc, s0 + ms⟩,
      ⟨X.admits, X.cas, X.clock, X.frames, X.room, X.hears, X.method, X.code, (X.here.setHeapUsed s₂.heap s₂.slotsUsed).setVm hW'.alike, X.tail, State.WarmedH.trans X.warmed hW', X.limits, X.bytes, X.same.trans (hsame.setVm s.vm)⟩,
      ⟨g, mk, s₂, L, rfl, rfl, hqc, rfl, hL, rfl, rfl⟩, ?_⟩
    show Steps p.tables e below _ ((({ U with heap := s₂.heap, slotsUsed := s₂.slotsUsed } : State).setVm s₂.vm).setTop { g with pc := g.pc + len₂, stack := v.toList ++ g.stack })
    rw [← hs₂]
    exact hsteps
  · obtain ⟨e2, q2, q3, q4, q5, q6⟩ := id hsm
    have e3 : s₂ = ({ (U.calling g mk a).setFrames s₂.frames with heap := s₂.heap, slotsUsed := s₂.slotsUsed } : State).setVm s₂.vm := by
      have : s₂ = ({ s₂ with vm := (U.calling g mk a).vm } : State).setVm s₂.vm := rfl
      rw [e2] at this
      exact this
    have hf₂ : s₂.frames = .throwing q :: .java g :: U.frames.tail := hend
    have hW' : U.WarmedH s₂.vm := hW₂
    have hs₂ : s₂ = ((({ U with heap := s₂.heap, slotsUsed := s₂.slotsUsed } : State).setVm s₂.vm).setTop g).pushFrame (.throwing q) := by
      refine e3.trans ?_
      rw [hf₂, State.calling_eq h.top, State.setFrames_setFrames, State.pushFrame, State.frames_setTop _ hr', State.setTop_of_frames _ hr', State.setFrames_setFrames, hr]
      rfl
    have hsame : U.sameButNew ({ U with heap := s₂.heap, slotsUsed := s₂.slotsUsed } : State) L mc ms := by
      refine ⟨?_, q2, q3, q4, q5, q6⟩
      obtain ⟨t, ht, -⟩ := State.frames_cons hr
      show ({ U with heap := s₂.heap, slotsUsed := s₂.slotsUsed } : State) = { U.setFrames U.frames with heap := s₂.heap, slotsUsed := s₂.slotsUsed }
      rw [State.setFrames_self ht]
    subst hg
    refine Or.inr ⟨q, ⟨(({ U with heap := s₂.heap, slotsUsed := s₂.slotsUsed } : State).setVm s₂.vm), Ls ++ L, c0 + mc, s0 + ms⟩,
      ⟨X.admits, X.cas, X.clock, X.frames, X.room, X.hears, X.method, X.code, (X.here.setHeapUsed s₂.heap s₂.slotsUsed).setVm hW'.alike, X.tail, State.WarmedH.trans X.warmed hW', X.limits, X.bytes, X.same.trans (hsame.setVm s.vm)⟩,
      ⟨g, mk, s₂, L, E, ce, rfl, rfl, hx, hce, hcv, hcl, rfl, hL, rfl, rfl⟩, ?_⟩
    show Steps p.tables e below _ (((({ U with heap := s₂.heap, slotsUsed := s₂.slotsUsed } : State).setVm s₂.vm).setTop g).pushFrame (.throwing q))
    rw [← hs₂]
    exact hsteps
end
variable {p : Program} {l : Launch} {e : Env} {R : Room} {s : State} {m : MethodId} {args : Array Value} {below : List Frame} {meth : Method} {c : Code} {T : State} {H : Heap} {locs : List Loc} {cells slots : Nat}
theorem vx_callVX (X : Stand p l e R s m args below meth c T locs cells slots) (hexec : p.tables.exec = Jvm.exec) {own C : String} {index : Nat} {y : MethodName} {bytes : ByteArray} {maxL : Nat} {ret : Option FieldType} {hh : List (Nat × Nat × Nat × Nat)}
    (hown : s.vm.findClass own = some m.cls) (hlink : (Cond.methodLink own index y).before args s = true) (hinst : (Cond.instanceMethod y).before args s = true) (hsel : (Cond.selects C y y).before args s = true)
    (hcode : (Cond.codeWith y bytes maxL ret hh).before args s = true) (hy : y.cls ≠ "java/lang/invoke/MethodHandle" ∧ y.cls ≠ "java/lang/invoke/VarHandle")
    {W9 : Nat} {Pre : Pt → Array Value → Prop} {Post : Pt → Array Value → Option Value → Pt → Prop} {PostX : Pt → Array Value → Addr → Pt → Prop} (hK : vx_Back l R p e below s args y 3 W9 Pre Post PostX)
    {b : Addr} {cellB : Cell} (hcell : T.heap[b]? = some cellB) (hobj : cellB.vm.isStatics = false) (hcls : s.vm.findClass C = some cellB.cls)
    {g : JFrame} (hg : g.method = m) (hsize : g.locals.size = c.maxLocals) {argsL rest : List Value} (hlen : ∀ sig, parseMethodDescriptor y.desc = some sig → argsL.length = sig.parameters.length)
    (hstack : g.stack = argsL.reverse ++ .ref b :: rest) (hW : 2 * g.monitorRoom + (rest.map fun v => v.category).sum ≤ W9) (hdg : decode c.code g.pc = .ok (.invokevirtual index, 3))
    (hpre : ∀ vm₁, s.WarmedH vm₁ → Pre ⟨T.setVm vm₁, locs, cells, slots⟩ (Value.ref b :: argsL).toArray) :
    (∃ (v : Option Value) (vm₁ : Vm) (B : Pt), s.WarmedH vm₁ ∧ Stand p l e R s m args below meth c B.U B.locs B.cells B.slots ∧ Post ⟨T.setVm vm₁, locs, cells, slots⟩ (Value.ref b :: argsL).toArray v B ∧
      ∀ target, Steps p.tables e below (B.U.setTop { g with pc := g.pc + 3, stack := v.toList ++ rest }) target → Steps p.tables e below (T.setTop g) target) ∨
    (∃ (q : Addr) (vm₁ : Vm) (B : Pt), s.WarmedH vm₁ ∧ Stand p l e R s m args below meth c B.U B.locs B.cells B.slots ∧ PostX ⟨T.setVm vm₁, locs, cells, slots⟩ (Value.ref b :: argsL).toArray q B ∧
      Steps p.tables e below (T.setTop g) ((B.U.setTop { g with stack := rest }).pushFrame (.throwing q))) := by
  obtain ⟨mk, methM, hnamed, hmethM, hstM, habM⟩ := Cond.instanceMethod_spec hinst
  obtain ⟨m8, methM', cM, hn8, hmethM', -, -, -, -, -, -, hsigM⟩ := Cond.codeWith_spec hcode
  cases Option.some.inj (hn8.symm.trans hnamed)
  cases hmethM.symm.trans hmethM'
  obtain ⟨c2, r2, m2, q1, q2, q3, q4, kP, hkP, hkPi⟩ := Cond.selects_spec hsel
  cases hcls.symm.trans q1
  cases (State.methodFound?_of_named hnamed hy).symm.trans q2
  cases hnamed.symm.trans q3
  have hselP : selectMethod e.platform s.vm cellB.cls mk = .method mk := by rw [Launch.admits_selectMethod X.admits]; exact q4
  obtain ⟨vm₁, X₁, hstep₁⟩ := X.invokevirtual hexec hown hlink hnamed hmethM hstM hkP hkPi hy (a := b) (cell := cellB) hcell
    (fun z h => by rw [h] at hobj; cases hobj) hselP hmethM habM hkP hkPi (g := g) hg (argsL := argsL) (rest := rest) (hlen _ hsigM) hstack hdg
  rcases hK m meth c ⟨T.setVm vm₁, locs, cells, slots⟩ { g with stack := rest } (.invokevirtual index) mk (Value.ref b :: argsL).toArray X₁ hg hsize hdg hW (X₁.named hnamed) (hpre vm₁ X₁.warmed) with ⟨v, B, X', hpost, hsteps⟩ | ⟨q, B, X', hpost, hsteps⟩
  · exact Or.inl ⟨v, vm₁, B, X₁.warmed, X', hpost, fun target h => hstep₁ _ fun acts => by rw [doInvoke_state]; exact hsteps.trans h⟩
  · exact Or.inr ⟨q, vm₁, B, X₁.warmed, X', hpost, hstep₁ _ fun acts => by rw [doInvoke_state]; exact hsteps⟩
theorem vx_callSX (X : Stand p l e R s m args below meth c T locs cells slots) (hexec : p.tables.exec = Jvm.exec) {own : String} {index : Nat} {y : MethodName} {bytes : ByteArray} {maxL : Nat} {ret : Option FieldType} {hh : List (Nat × Nat × Nat × Nat)}
    (hown : s.vm.findClass own = some m.cls) (hlink : (Cond.methodLink own index y).before args s = true) (hstat : (Cond.static y).before args s = true) (hinit : (Cond.initialized y.cls).before args s = true)
    (hcode : (Cond.codeWith y bytes maxL ret hh).before args s = true) (hy : y.cls ≠ "java/lang/invoke/MethodHandle" ∧ y.cls ≠ "java/lang/invoke/VarHandle")
    {W9 : Nat} {Pre : Pt → Array Value → Prop} {Post : Pt → Array Value → Option Value → Pt → Prop} {PostX : Pt → Array Value → Addr → Pt → Prop} (hK : vx_Back l R p e below s args y 3 W9 Pre Post PostX)
    {g : JFrame} (hg : g.method = m) (hsize : g.locals.size = c.maxLocals) {argsL rest : List Value} (hlen : ∀ sig, parseMethodDescriptor y.desc = some sig → argsL.length = sig.parameters.length)
    (hstack : g.stack = argsL.reverse ++ rest) (hW : 2 * g.monitorRoom + (rest.map fun v => v.category).sum ≤ W9) (hdg : decode c.code g.pc = .ok (.invokestatic index, 3))
    (hpre : ∀ vm₁, s.WarmedH vm₁ → Pre ⟨T.setVm vm₁, locs, cells, slots⟩ argsL.toArray) :
    (∃ (v : Option Value) (vm₁ : Vm) (B : Pt), s.WarmedH vm₁ ∧ Stand p l e R s m args below meth c B.U B.locs B.cells B.slots ∧ Post ⟨T.setVm vm₁, locs, cells, slots⟩ argsL.toArray v B ∧
      ∀ target, Steps p.tables e below (B.U.setTop { g with pc := g.pc + 3, stack := v.toList ++ rest }) target → Steps p.tables e below (T.setTop g) target) ∨
    (∃ (q : Addr) (vm₁ : Vm) (B : Pt), s.WarmedH vm₁ ∧ Stand p l e R s m args below meth c B.U B.locs B.cells B.slots ∧ PostX ⟨T.setVm vm₁, locs, cells, slots⟩ argsL.toArray q B ∧
      Steps p.tables e below (T.setTop g) ((B.U.setTop { g with stack := rest }).pushFrame (.throwing q))) := by
  obtain ⟨mk, methM, cM, hnamed, hmethM, -, -, -, -, -, -, hsigM⟩ := Cond.codeWith_spec hcode
  have hstatic : methM.isStatic = true := Cond.static_spec hnamed hmethM hstat
  obtain ⟨kP, hkP, -⟩ := className_of_methodNamed hnamed
  have hinitP : kP.init = .initialized := Cond.initialized_spec (findClass_of_methodNamed hnamed) hkP hinit
  obtain ⟨vm₁, X₁, hstep₁⟩ := X.invokestatic hexec hown hlink hnamed hmethM hstatic hkP hinitP hy (g := g) hg (argsL := argsL) (rest := rest) (hlen _ hsigM) hstack hdg
  rcases hK m meth c ⟨T.setVm vm₁, locs, cells, slots⟩ { g with stack := rest } (.invokestatic index) mk argsL.toArray X₁ hg hsize hdg hW (X₁.named hnamed) (hpre vm₁ X₁.warmed) with ⟨v, B, X', hpost, hsteps⟩ | ⟨q, B, X', hpost, hsteps⟩
  · exact Or.inl ⟨v, vm₁, B, X₁.warmed, X', hpost, fun target h => hstep₁ _ fun acts => by rw [doInvoke_state]; exact hsteps.trans h⟩
  · exact Or.inr ⟨q, vm₁, B, X₁.warmed, X', hpost, hstep₁ _ fun acts => by rw [doInvoke_state]; exact hsteps⟩
theorem vx_callVW (X : Stand p l e R s m args below meth c T locs cells slots) (hexec : p.tables.exec = Jvm.exec) {own C : String} {index : Nat} {y : MethodName} {bytes : ByteArray} {maxL : Nat} {ret : Option FieldType} {hh : List (Nat × Nat × Nat × Nat)}
    (hown : s.vm.findClass own = some m.cls) (hlink : (Cond.methodLink own index y).before args s = true) (hinst : (Cond.instanceMethod y).before args s = true) (hsel : (Cond.selects C y y).before args s = true)
    (hcode : (Cond.codeWith y bytes maxL ret hh).before args s = true) (hy : y.cls ≠ "java/lang/invoke/MethodHandle" ∧ y.cls ≠ "java/lang/invoke/VarHandle")
    {W9 : Nat} {Pre : Pt → Array Value → Prop} {Post : Pt → Array Value → Option Value → Pt → Prop} (hK : Back l R p e below s args y 3 W9 Pre Post)
    {b : Addr} {cellB : Cell} (hcell : T.heap[b]? = some cellB) (hobj : cellB.vm.isStatics = false) (hcls : s.vm.findClass C = some cellB.cls)
    {g : JFrame} (hg : g.method = m) (hsize : g.locals.size = c.maxLocals) {argsL rest : List Value} (hlen : ∀ sig, parseMethodDescriptor y.desc = some sig → argsL.length = sig.parameters.length)
    (hstack : g.stack = argsL.reverse ++ .ref b :: rest) (hW : 2 * g.monitorRoom + (rest.map fun v => v.category).sum ≤ W9) (hdg : decode c.code g.pc = .ok (.invokevirtual index, 3))
    (hpre : ∀ vm₁, s.WarmedH vm₁ → Pre ⟨T.setVm vm₁, locs, cells, slots⟩ (Value.ref b :: argsL).toArray) :
    ∃ (v : Option Value) (vm₁ : Vm) (B : Pt), s.WarmedH vm₁ ∧ Stand p l e R s m args below meth c B.U B.locs B.cells B.slots ∧ Post ⟨T.setVm vm₁, locs, cells, slots⟩ (Value.ref b :: argsL).toArray v B ∧
      ∀ target, Steps p.tables e below (B.U.setTop { g with pc := g.pc + 3, stack := v.toList ++ rest }) target → Steps p.tables e below (T.setTop g) target := by
  obtain ⟨mk, methM, hnamed, hmethM, hstM, habM⟩ := Cond.instanceMethod_spec hinst
  obtain ⟨m8, methM', cM, hn8, hmethM', -, -, -, -, -, -, hsigM⟩ := Cond.codeWith_spec hcode
  cases Option.some.inj (hn8.symm.trans hnamed)
  cases hmethM.symm.trans hmethM'
  obtain ⟨c2, r2, m2, q1, q2, q3, q4, kP, hkP, hkPi⟩ := Cond.selects_spec hsel
  cases hcls.symm.trans q1
  cases (State.methodFound?_of_named hnamed hy).symm.trans q2
  cases hnamed.symm.trans q3
  have hselP : selectMethod e.platform s.vm cellB.cls mk = .method mk := by rw [Launch.admits_selectMethod X.admits]; exact q4
  obtain ⟨vm₁, X₁, hstep₁⟩ := X.invokevirtual hexec hown hlink hnamed hmethM hstM hkP hkPi hy (a := b) (cell := cellB) hcell
    (fun z h => by rw [h] at hobj; cases hobj) hselP hmethM habM hkP hkPi (g := g) hg (argsL := argsL) (rest := rest) (hlen _ hsigM) hstack hdg
  obtain ⟨v, B, X', hpost, hsteps⟩ := hK m meth c ⟨T.setVm vm₁, locs, cells, slots⟩ { g with stack := rest } (.invokevirtual index) mk (Value.ref b :: argsL).toArray X₁ hg hsize hdg hW (X₁.named hnamed) (hpre vm₁ X₁.warmed)
  exact ⟨v, vm₁, B, X₁.warmed, X', hpost, fun target h => hstep₁ _ fun acts => by rw [doInvoke_state]; exact hsteps.trans h⟩
abbrev vx_CVW (R : Room) (s : State) (args : Array Value) (own C : String) (index : Nat) (y : MethodName) (bytes : ByteArray) (maxL : Nat) (ret : Option FieldType) (hh : List (Nat × Nat × Nat × Nat)) (ws : List Cond) (rm : Room) (mc ms n : Nat) : Prop :=
  (rm.cells = mc ∧ rm.slots = ms ∧ rm.frames + 1 ≤ R.frames ∧ 8 + (maxL + 11) + rm.locals ≤ R.locals ∧ (∀ w ∈ ws, ∀ (a' : Array Value) (U : State), s.WarmedH U.vm → w.before a' U = true) ∧ Cond.codeWith y bytes maxL ret hh ∈ ws) ∧
  (Cond.codeWith y bytes maxL ret hh).before args s = true ∧ (Cond.initialized y.cls).before args s = true ∧ (y.cls ≠ "java/lang/invoke/MethodHandle" ∧ y.cls ≠ "java/lang/invoke/VarHandle") ∧
  (∀ sig, parseMethodDescriptor y.desc = some sig → n = sig.parameters.length) ∧ (Cond.methodLink own index y).before args s = true ∧ (Cond.instanceMethod y).before args s = true ∧ (Cond.selects C y y).before args s = true
theorem vx_cwVW {own C : String} {index maxL mc ms : Nat} {y : MethodName} {bytes : ByteArray} {ret : Option FieldType} {hh : List (Nat × Nat × Nat × Nat)} {Ts ws ws' : List Cond} {rm : Room} (n : Nat) (ht : ∀ w ∈ Ts, w.before args s = true) (hT : GoodIn Ts (wsV own index C y ws)) (hw : ws = Cond.codeWith y bytes maxL ret hh :: ws') (hrc : rm.cells = mc) (hrs : rm.slots = ms)
    (hd : y.cls = C ∧ y.cls ≠ "java/lang/invoke/MethodHandle" ∧ y.cls ≠ "java/lang/invoke/VarHandle" ∧ (parseMethodDescriptor y.desc).map (fun d => d.parameters.length) = some n) (hR : rm.frames + 1 ≤ R.frames ∧ 8 + (maxL + 11) + rm.locals ≤ R.locals) :
    vx_CVW R s args own C index y bytes maxL ret hh ws rm mc ms n := by
  obtain ⟨hC, hd⟩ := hd
  subst hC
  have ok : ∀ w ∈ wsV own index y.cls y ws, w.before args s = true := fun w h => ht w (hT w h).1
  have hG : GoodIn Ts ws := fun w h => hT w (by unfold wsV; exact List.mem_append_right _ h)
  have hc : Cond.codeWith y bytes maxL ret hh ∈ ws := by rw [hw]; exact List.mem_cons_self
  refine ⟨⟨hrc, hrs, hR.1, hR.2, pay_in ht hG, hc⟩, ht _ (hG _ hc).1, ok _ (by simp [wsV]), ⟨hd.1, hd.2.1⟩, fun sig h => ?_, ok _ (by simp [wsV]), ok _ (by simp [wsV]), ok _ (by simp [wsV])⟩
  have h2 := hd.2.2
  rw [h] at h2
  exact (Option.some.inj h2).symm
theorem vx_runVW {y : MethodName} {bytes cc : ByteArray} {maxL nL mc ms n index : Nat} {ret : Option FieldType} {hh : List (Nat × Nat × Nat × Nat)} {ws : List Cond} {rm : Room} {Pc : Array Value → State → Prop} {Qc : Array Value → State → Outcome → State → Prop} {free : Addr → Prop} {Ts : List Cond} {own C : String} {b : Addr} {As rest : List Value} {g : JFrame}
    (S : CallFix p m c cc nL s args Ts own) (hM : Met l y ws rm Pc Qc mc ms free) (cw : vx_CVW R s args own C index y bytes maxL ret hh ws rm mc ms n) (hp : PreV s H C b Pc As)
    (hg : g.method = m) (hn : As.length = n) (hsize : g.locals.size = nL) (hstack : g.stack = As.reverse ++ .ref b :: rest) (hW : 2 * g.monitorRoom + (rest.map fun v => v.category).sum ≤ 8) (hdg : decode cc g.pc = .ok (.invokevirtual index, 3)) (hf : cells + mc ≤ R.cells ∧ slots + ms ≤ R.slots) :
    va_Run p l e R s m args below meth c H locs cells slots mc ms g rest (Qc (Value.ref b :: As).toArray) free := by
  obtain ⟨⟨hrc, hrs, hfr, hlo, hws, hcw⟩, hcode, hini, hy, hlen, hl, hin, hse⟩ := cw
  have hK : Back l R p e below s args y 3 8 (PreOf R mc ms Pc) (PostOf Qc mc ms free) := va_backW (hh := hh) (bytes := bytes) (maxL := maxL) (ret := ret) hM hp.1 hrc hrs hfr hlo hws hcw (fun a' U hW => word_at hW (Or.inl (by first | rfl | simp [Cond.onTables, Cond.keeps, Cond.steady])) hini)
  obtain ⟨hx, hb, hml, ho, -⟩ := S
  obtain ⟨-, ⟨cellB, hcB, hoB, hclB⟩, hPc⟩ := hp
  intro T hT X
  obtain ⟨v, vm₁, ⟨U', l2, c2, s2⟩, hW₁, X', ⟨g', mk, t, L, e1, e2, hq, h1, hL, h2, h3⟩, st⟩ := vx_callVW X hx (C := C) (hh := hh) (bytes := bytes) (maxL := maxL) (ret := ret) ho hl hin hse hcode hy hK (by rw [hT]; exact hcB) hoB hclB hg (hsize.trans hml.symm) (argsL := As) (rest := rest) (fun sig h => hn.trans (hlen sig h)) hstack hW (by rw [hb]; exact hdg)
    (fun vm₁ hW₁ => ⟨hf.1, hf.2, hPc (T.setVm vm₁) hT hW₁⟩)
  dsimp only [Pt.U, Pt.locs, Pt.cells, Pt.slots] at X' e1 e2 h1 h2 h3 st
  subst h1; subst h2; subst h3
  exact ⟨v, (T.setVm vm₁).calling g' mk (Value.ref b :: As).toArray, t, U', L, hT, X', hL, e1, e2, hq, st⟩
section
variable {y : MethodName} {bytes cc : ByteArray} {maxL nL mc ms n index : Nat} {ret : Option FieldType} {ws : List Cond} {rm : Room} {Pc : Array Value → State → Prop} {Qc : Array Value → State → Outcome → State → Prop} {XC : String → State → State → Prop} {free : Addr → Prop} {Ts : List Cond} {own C : String} {b : Addr} {As rest : List Value} {g : JFrame}
theorem vx_runVX {hh : List (Nat × Nat × Nat × Nat)} (S : CallFix p m c cc nL s args Ts own) (hM : vx_Met l y ws rm Pc Qc XC mc ms free) (cw : vx_CVW R s args own C index y bytes maxL ret hh ws rm mc ms n) (hp : PreV s H C b Pc As)
    (hg : g.method = m) (hn : As.length = n) (hsize : g.locals.size = nL) (hstack : g.stack = As.reverse ++ .ref b :: rest) (hW : 2 * g.monitorRoom + (rest.map fun v => v.category).sum ≤ 8) (hdg : decode cc g.pc = .ok (.invokevirtual index, 3)) (hf : cells + mc ≤ R.cells ∧ slots + ms ≤ R.slots) :
    vx_Run p l e R s m args below meth c H locs cells slots mc ms g rest (Qc (Value.ref b :: As).toArray) XC free := by
  obtain ⟨⟨hrc, hrs, hfr, hlo, hws, hcw⟩, hcode, hini, hy, hlen, hl, hin, hse⟩ := cw
  have hK : vx_Back l R p e below s args y 3 8 (PreOf R mc ms Pc) (PostOf Qc mc ms free) (vx_Post XC mc ms free) := vx_backW (hh := hh) (bytes := bytes) (maxL := maxL) (ret := ret) hM hp.1 hrc hrs hfr hlo hws hcw (fun a' U hW => word_at hW (Or.inl (by first | rfl | simp [Cond.onTables, Cond.keeps, Cond.steady])) hini)
  obtain ⟨hx, hb, hml, ho, -⟩ := S
  obtain ⟨-, ⟨cellB, hcB, hoB, hclB⟩, hPc⟩ := hp
  intro T hT X
  rcases vx_callVX X hx (C := C) (hh := hh) (bytes := bytes) (maxL := maxL) (ret := ret) ho hl hin hse hcode hy hK (by rw [hT]; exact hcB) hoB hclB hg (hsize.trans hml.symm) (argsL := As) (rest := rest) (fun sig h => hn.trans (hlen sig h)) hstack hW (by rw [hb]; exact hdg)
    (fun vm₁ hW₁ => ⟨hf.1, hf.2, hPc (T.setVm vm₁) hT hW₁⟩) with ⟨v, vm₁, ⟨U', l2, c2, s2⟩, hW₁, X', ⟨g', mk, t, L, e1, e2, hq, h1, hL, h2, h3⟩, st⟩ | ⟨q, vm₁, ⟨U', l2, c2, s2⟩, hW₁, X', ⟨g', mk, t, L, E, ce, e1, e2, hq, hce, hcv, hcl, h1, hL, h2, h3⟩, st⟩
  · dsimp only [Pt.U, Pt.locs, Pt.cells, Pt.slots] at X' e1 e2 h1 h2 h3 st
    subst h1; subst h2; subst h3
    exact Or.inl ⟨v, (T.setVm vm₁).calling g' mk (Value.ref b :: As).toArray, t, U', L, hT, X', hL, e1, e2, hq, st⟩
  · dsimp only [Pt.U, Pt.locs, Pt.cells, Pt.slots] at X' e1 e2 h1 h2 h3 st hcl
    subst h1; subst h2; subst h3
    exact Or.inr ⟨q, (T.setVm vm₁).calling g' mk (Value.ref b :: As).toArray, t, U', L, E, ce, hT, X', hL, e1, e2, hq, hce, hcv, vx_cls hW₁ hcl, st⟩
theorem vx_runSX {hh : List (Nat × Nat × Nat × Nat)} (S : CallFix p m c cc nL s args Ts own) (hM : vx_Met l y ws rm Pc Qc XC mc ms free) (cw : vx_CSW R s args own index y bytes maxL ret hh ws rm mc ms n) (hp : PreS s H Pc As)
    (hg : g.method = m) (hn : As.length = n) (hsize : g.locals.size = nL) (hstack : g.stack = As.reverse ++ rest) (hW : 2 * g.monitorRoom + (rest.map fun v => v.category).sum ≤ 8) (hdg : decode cc g.pc = .ok (.invokestatic index, 3)) (hf : cells + mc ≤ R.cells ∧ slots + ms ≤ R.slots) :
    vx_Run p l e R s m args below meth c H locs cells slots mc ms g rest (Qc As.toArray) XC free := by
  obtain ⟨⟨hrc, hrs, hfr, hlo, hws, hcw⟩, hcode, hini, hy, hlen, hl, hstt⟩ := cw
  have hK : vx_Back l R p e below s args y 3 8 (PreOf R mc ms Pc) (PostOf Qc mc ms free) (vx_Post XC mc ms free) := vx_backW (hh := hh) (bytes := bytes) (maxL := maxL) (ret := ret) hM hp.1 hrc hrs hfr hlo hws hcw (fun a' U hW => word_at hW (Or.inl (by first | rfl | simp [Cond.onTables, Cond.keeps, Cond.steady])) hini)
  obtain ⟨hx, hb, hml, ho, -⟩ := S
  intro T hT X
  rcases vx_callSX X hx (hh := hh) (bytes := bytes) (maxL := maxL) (ret := ret) ho hl hstt hini hcode hy hK hg (hsize.trans hml.symm) (argsL := As) (rest := rest) (fun sig h => hn.trans (hlen sig h)) hstack hW (by rw [hb]; exact hdg)
    (fun vm₁ hW₁ => ⟨hf.1, hf.2, hp.2 (T.setVm vm₁) hT hW₁⟩) with ⟨v, vm₁, ⟨U', l2, c2, s2⟩, hW₁, X', ⟨g', mk, t, L, e1, e2, hq, h1, hL, h2, h3⟩, st⟩ | ⟨q, vm₁, ⟨U', l2, c2, s2⟩, hW₁, X', ⟨g', mk, t, L, E, ce, e1, e2, hq, hce, hcv, hcl, h1, hL, h2, h3⟩, st⟩
  · dsimp only [Pt.U, Pt.locs, Pt.cells, Pt.slots] at X' e1 e2 h1 h2 h3 st
    subst h1; subst h2; subst h3
    exact Or.inl ⟨v, (T.setVm vm₁).calling g' mk As.toArray, t, U', L, hT, X', hL, e1, e2, hq, st⟩
  · dsimp only [Pt.U, Pt.locs, Pt.cells, Pt.slots] at X' e1 e2 h1 h2 h3 st hcl
    subst h1; subst h2; subst h3
    exact Or.inr ⟨q, (T.setVm vm₁).calling g' mk As.toArray, t, U', L, E, ce, hT, X', hL, e1, e2, hq, hce, hcv, vx_cls hW₁ hcl, st⟩
end
end VXH
theorem vx_ofWH {l : Launch} {y : MethodName} {ws ws' : List Cond} {rm : Room} {Pc : Array Value → State → Prop} {Qc : Array Value → State → Outcome → State → Prop} {XC : String → State → State → Prop} {mc ms : Nat} {free : Addr → Prop} {cc : ByteArray} {maxL : Nat} {ret : Option FieldType} {hh : List (Nat × Nat × Nat × Nat)}
    (hy : plainName y.cls = true) (hw : ws = Cond.codeWith y cc maxL ret hh :: ws')
    (body : ∀ p e s m args below meth c s₁, BodyLoose p l y (headSpec ws rm) cc maxL ret e s m args below meth c s₁ → c.maxLocals = maxL → Pc args s →
      W p l e (headSpec ws rm).room s m args below meth c s.heap [] 0 0 (vx_MQ below Qc XC args s mc ms free) (entryFrame m args maxL)) : vx_Met l y ws rm Pc Qc XC mc ms free := by
  refine MetFree.of_bodyS (code := cc) (maxLocals := maxL) (ret := ret) hy ?_ ?_
  · intro args s m h hn
    obtain ⟨m9, meth, c, hn9, h1, h2, h3, h4, -, h5, h6, -⟩ := Cond.codeWith_spec (atoms_spec (ws := ws) h _ (by rw [hw]; exact List.mem_cons_self))
    cases hn.symm.trans hn9
    exact ⟨meth, c, h1, h2, h3, h4, h5, h6⟩
  · intro p e s m args below meth c s₁ B hml hP _
    have hh0 : s₁.heap = s.heap := by rw [B.state]; rfl
    obtain ⟨t, a1, o, b1, b2, b3⟩ := body p e s m args below meth c s₁ B hml hP s₁ hh0 (Stand.of_body B)
    exact ⟨t, o, a1, b1, b2, b3⟩
/-! ===== END ===== -/

def vx_atN (n : Nat) : List Cond := (Bundle.npeArmAtoms n).filter vx_no
def vx_atM (X : String) (names : List String) : List Cond := (Bundle.messageArmAtoms X names).filter vx_no
end
section
/-! ===== BEGIN printed: names, fields, word lists, decode rows ===== -/
def RX0 : String := "ZHeads$Head"
def TX0 : u_T := fun k => match k with
  | _ => ("ZHeads$Head", "row", "LZHeads$Row;", true)
def tyX0 : Nat → FieldType := fun k => match k with
  | _ => .object "ZHeads$Row"
abbrev wsX00 : List Cond := u_ws RX0 TX0 1
theorem nmX0 : ∀ a, a < 1 → ∀ b, b < 1 → a ≠ b → (TX0 a).2.1 ≠ (TX0 b).2.1 := by decide +kernel
theorem tyX0_ok : ∀ k, k < 1 → parseFieldDescriptor (TX0 k).2.2.1 = some (tyX0 k) := by decide +kernel
abbrev cX0_init : ByteArray := prog_2_method_1_code
def yX0_init : MethodName := ⟨RX0, "<init>", "(LZHeads$Row;)V"⟩
abbrev cX0_version : ByteArray := prog_2_method_2_code
def yX0_version : MethodName := ⟨RX0, "version", "()I"⟩
abbrev cX0_scale : ByteArray := prog_2_method_3_code
def yX0_scale : MethodName := ⟨RX0, "scale", "()I"⟩
abbrev cX0_length : ByteArray := prog_2_method_4_code
def yX0_length : MethodName := ⟨RX0, "length", "()I"⟩
abbrev cX0_staticFrom : ByteArray := prog_2_method_5_code
def yX0_staticFrom : MethodName := ⟨RX0, "staticFrom", "()I"⟩
abbrev cX0_high : ByteArray := prog_2_method_6_code
def yX0_high : MethodName := ⟨RX0, "high", "()I"⟩
abbrev cX0_globals : ByteArray := prog_2_method_7_code
def yX0_globals : MethodName := ⟨RX0, "globals", "()I"⟩
abbrev cX0_objects : ByteArray := prog_2_method_8_code
def yX0_objects : MethodName := ⟨RX0, "objects", "()I"⟩
abbrev cX0_words : ByteArray := prog_2_method_9_code
def yX0_words : MethodName := ⟨RX0, "words", "()I"⟩
abbrev cX0_signs : ByteArray := prog_2_method_10_code
def yX0_signs : MethodName := ⟨RX0, "signs", "()I"⟩
abbrev cX0_entryBytes : ByteArray := prog_2_method_11_code
def yX0_entryBytes : MethodName := ⟨RX0, "entryBytes", "()I"⟩
abbrev cX0_entries : ByteArray := prog_2_method_12_code
def yX0_entries : MethodName := ⟨RX0, "entries", "()I"⟩
abbrev cX0_shorts : ByteArray := prog_2_method_13_code
def yX0_shorts : MethodName := ⟨RX0, "shorts", "()I"⟩
abbrev cX0_start : ByteArray := prog_2_method_14_code
def yX0_start : MethodName := ⟨RX0, "start", "()I"⟩
abbrev cX0_letters : ByteArray := prog_2_method_15_code
def yX0_letters : MethodName := ⟨RX0, "letters", "()I"⟩
abbrev cX0_ends : ByteArray := prog_2_method_16_code
def yX0_ends : MethodName := ⟨RX0, "ends", "()I"⟩
abbrev cX0_more : ByteArray := prog_2_method_17_code
def yX0_more : MethodName := ⟨RX0, "more", "()I"⟩
abbrev cX0_moreWords : ByteArray := prog_2_method_18_code
def yX0_moreWords : MethodName := ⟨RX0, "moreWords", "()I"⟩
abbrev cX0_thirdWord : ByteArray := prog_2_method_19_code
def yX0_thirdWord : MethodName := ⟨RX0, "thirdWord", "()I"⟩
abbrev cX0_unpacked : ByteArray := prog_2_method_20_code
def yX0_unpacked : MethodName := ⟨RX0, "unpacked", "(IZ)I"⟩
abbrev cX0_term : ByteArray := prog_2_method_21_code
def yX0_term : MethodName := ⟨RX0, "term", "(I)I"⟩
abbrev cX0_holds : ByteArray := prog_2_method_22_code
def yX0_holds : MethodName := ⟨RX0, "holds", "(I)Z"⟩
abbrev cX0_placeOf : ByteArray := prog_2_method_23_code
def yX0_placeOf : MethodName := ⟨RX0, "placeOf", "(I)I"⟩
abbrev cX0_wordsHold : ByteArray := prog_2_method_24_code
def yX0_wordsHold : MethodName := ⟨RX0, "wordsHold", "()Z"⟩
abbrev cX0_endsHold : ByteArray := prog_2_method_25_code
def yX0_endsHold : MethodName := ⟨RX0, "endsHold", "()Z"⟩
abbrev cX0_moreHolds : ByteArray := prog_2_method_26_code
def yX0_moreHolds : MethodName := ⟨RX0, "moreHolds", "()Z"⟩
abbrev cX0_thirdHolds : ByteArray := prog_2_method_27_code
def yX0_thirdHolds : MethodName := ⟨RX0, "thirdHolds", "()Z"⟩
abbrev cX0_isWithin : ByteArray := prog_2_method_28_code
def yX0_isWithin : MethodName := ⟨RX0, "isWithin", "(III)Z"⟩
abbrev cX0_fits : ByteArray := prog_2_method_29_code
def yX0_fits : MethodName := ⟨RX0, "fits", "(III)Z"⟩
def RX1 : String := "ZHeads$Rights"
def TX1 : u_T := fun k => match k with
  | _ => ("", "", "", false)
def tyX1 : Nat → FieldType := fun k => match k with
  | _ => .int
abbrev wsX10 : List Cond := u_ws RX1 TX1 0
theorem nmX1 : ∀ a, a < 0 → ∀ b, b < 0 → a ≠ b → (TX1 a).2.1 ≠ (TX1 b).2.1 := by decide +kernel
theorem tyX1_ok : ∀ k, k < 0 → parseFieldDescriptor (TX1 k).2.2.1 = some (tyX1 k) := by decide +kernel
abbrev cX1_isFlag : ByteArray := prog_3_method_2_code
def yX1_isFlag : MethodName := ⟨RX1, "isFlag", "(II)Z"⟩
abbrev cX1_maySwitchFirst : ByteArray := prog_3_method_3_code
def yX1_maySwitchFirst : MethodName := ⟨RX1, "maySwitchFirst", "(IIZ)Z"⟩
abbrev cX1_playerBits : ByteArray := prog_3_method_4_code
def yX1_playerBits : MethodName := ⟨RX1, "playerBits", "(I)I"⟩
abbrev cX1_maySwitchSecond : ByteArray := prog_3_method_5_code
def yX1_maySwitchSecond : MethodName := ⟨RX1, "maySwitchSecond", "(IIZZ)Z"⟩
abbrev cX1_isWide : ByteArray := prog_3_method_6_code
def yX1_isWide : MethodName := ⟨RX1, "isWide", "(I)Z"⟩
abbrev cX1_settableFrom : ByteArray := prog_3_method_7_code
def yX1_settableFrom : MethodName := ⟨RX1, "settableFrom", "(I)I"⟩
abbrev cX1_settingPlace : ByteArray := prog_3_method_8_code
def yX1_settingPlace : MethodName := ⟨RX1, "settingPlace", "(II)I"⟩
def RX2 : String := "ZHeads$Row"
def TX2 : u_T := fun k => match k with
  | 0 => ("ZHeads$Row", "cells", "[I", true)
  | _ => ("ZHeads$Row", "count", "I", false)
def tyX2 : Nat → FieldType := fun k => match k with
  | 0 => .array .int
  | _ => .int
abbrev wsX20 : List Cond := u_ws RX2 TX2 2
theorem nmX2 : ∀ a, a < 2 → ∀ b, b < 2 → a ≠ b → (TX2 a).2.1 ≠ (TX2 b).2.1 := by decide +kernel
theorem tyX2_ok : ∀ k, k < 2 → parseFieldDescriptor (TX2 k).2.2.1 = some (tyX2 k) := by decide +kernel
abbrev cX2_init : ByteArray := prog_4_method_1_code
def yX2_init : MethodName := ⟨RX2, "<init>", "()V"⟩
abbrev cX2_count : ByteArray := prog_4_method_2_code
def yX2_count : MethodName := ⟨RX2, "count", "()I"⟩
abbrev cX2_room : ByteArray := prog_4_method_3_code
def yX2_room : MethodName := ⟨RX2, "room", "()I"⟩
abbrev cX2_has : ByteArray := prog_4_method_4_code
def yX2_has : MethodName := ⟨RX2, "has", "(I)Z"⟩
abbrev cX2_at : ByteArray := prog_4_method_5_code
def yX2_at : MethodName := ⟨RX2, "at", "(I)I"⟩
abbrev cX2_two : ByteArray := prog_4_method_6_code
def yX2_two : MethodName := ⟨RX2, "two", "(I)I"⟩
abbrev cX2_put : ByteArray := prog_4_method_7_code
def yX2_put : MethodName := ⟨RX2, "put", "(II)V"⟩
abbrev cX2_putTwo : ByteArray := prog_4_method_8_code
def yX2_putTwo : MethodName := ⟨RX2, "putTwo", "(II)V"⟩
abbrev cX2_add : ByteArray := prog_4_method_9_code
def yX2_add : MethodName := ⟨RX2, "add", "(I)V"⟩
abbrev cX2_empty : ByteArray := prog_4_method_10_code
def yX2_empty : MethodName := ⟨RX2, "empty", "()V"⟩
abbrev cX2_copy : ByteArray := prog_4_method_11_code
def yX2_copy : MethodName := ⟨RX2, "copy", "(LZHeads$Row;)V"⟩
def RX3 : String := "ZHeads"
def TX3 : u_T := fun k => match k with
  | 0 => ("ZHeads", "file", "LZHeads$Row;", true)
  | 1 => ("ZHeads", "memory", "LZHeads$Row;", true)
  | 2 => ("ZHeads", "head", "LZHeads$Head;", true)
  | 3 => ("ZHeads", "isRead", "Z", false)
  | _ => ("ZHeads", "brokenRule", "I", false)
def tyX3 : Nat → FieldType := fun k => match k with
  | 0 => .object "ZHeads$Row"
  | 1 => .object "ZHeads$Row"
  | 2 => .object "ZHeads$Head"
  | 3 => .boolean
  | _ => .int
abbrev wsX30 : List Cond := u_ws RX3 TX3 5
theorem nmX3 : ∀ a, a < 5 → ∀ b, b < 5 → a ≠ b → (TX3 a).2.1 ≠ (TX3 b).2.1 := by decide +kernel
theorem tyX3_ok : ∀ k, k < 5 → parseFieldDescriptor (TX3 k).2.2.1 = some (tyX3 k) := by decide +kernel
abbrev cX3_init : ByteArray := prog_1_method_1_code
def yX3_init : MethodName := ⟨RX3, "<init>", "()V"⟩
abbrev cX3_octet : ByteArray := prog_1_method_2_code
def yX3_octet : MethodName := ⟨RX3, "octet", "(I)I"⟩
abbrev cX3_feed : ByteArray := prog_1_method_3_code
def yX3_feed : MethodName := ⟨RX3, "feed", "(JI)I"⟩
abbrev cX3_fill : ByteArray := prog_1_method_4_code
def yX3_fill : MethodName := ⟨RX3, "fill", "(II)I"⟩
abbrev cX3_poke : ByteArray := prog_1_method_5_code
def yX3_poke : MethodName := ⟨RX3, "poke", "(II)I"⟩
abbrev cX3_clear : ByteArray := prog_1_method_6_code
def yX3_clear : MethodName := ⟨RX3, "clear", "()I"⟩
abbrev cX3_read : ByteArray := prog_1_method_7_code
def yX3_read : MethodName := ⟨RX3, "read", "()I"⟩
abbrev cX3_rule : ByteArray := prog_1_method_8_code
def yX3_rule : MethodName := ⟨RX3, "rule", "()I"⟩
abbrev cX3_field : ByteArray := prog_1_method_9_code
def yX3_field : MethodName := ⟨RX3, "field", "(I)I"⟩
abbrev cX3_serial : ByteArray := prog_1_method_10_code
def yX3_serial : MethodName := ⟨RX3, "serial", "(I)I"⟩
abbrev cX3_global : ByteArray := prog_1_method_11_code
def yX3_global : MethodName := ⟨RX3, "global", "(I)I"⟩
abbrev cX3_load : ByteArray := prog_1_method_12_code
def yX3_load : MethodName := ⟨RX3, "load", "(I)I"⟩
abbrev cX3_store : ByteArray := prog_1_method_13_code
def yX3_store : MethodName := ⟨RX3, "store", "(II)I"⟩
abbrev cX3_packed : ByteArray := prog_1_method_14_code
def yX3_packed : MethodName := ⟨RX3, "packed", "(IZ)I"⟩
abbrev cX3_first : ByteArray := prog_1_method_15_code
def yX3_first : MethodName := ⟨RX3, "first", "(IZ)I"⟩
abbrev cX3_sum : ByteArray := prog_1_method_16_code
def yX3_sum : MethodName := ⟨RX3, "sum", "()I"⟩
abbrev cX3_agrees : ByteArray := prog_1_method_17_code
def yX3_agrees : MethodName := ⟨RX3, "agrees", "()I"⟩
abbrev cX3_flag : ByteArray := prog_1_method_18_code
def yX3_flag : MethodName := ⟨RX3, "flag", "(IIZZ)I"⟩
abbrev cX3_isOn : ByteArray := prog_1_method_19_code
def yX3_isOn : MethodName := ⟨RX3, "isOn", "(II)I"⟩
abbrev cX3_set : ByteArray := prog_1_method_20_code
def yX3_set : MethodName := ⟨RX3, "set", "(II)I"⟩
abbrev cX3_restart : ByteArray := prog_1_method_21_code
def yX3_restart : MethodName := ⟨RX3, "restart", "()I"⟩
abbrev cX3_sign : ByteArray := prog_1_method_22_code
def yX3_sign : MethodName := ⟨RX3, "sign", "(I)I"⟩
abbrev cX3_ratio : ByteArray := prog_1_method_23_code
def yX3_ratio : MethodName := ⟨RX3, "ratio", "(Z)I"⟩
abbrev cX3_size : ByteArray := prog_1_method_24_code
def yX3_size : MethodName := ⟨RX3, "size", "()I"⟩
abbrev cX3_isByte : ByteArray := prog_1_method_25_code
def yX3_isByte : MethodName := ⟨RX3, "isByte", "(I)Z"⟩
abbrev cX3_isTwo : ByteArray := prog_1_method_26_code
def yX3_isTwo : MethodName := ⟨RX3, "isTwo", "(I)Z"⟩
abbrev cX3_append : ByteArray := prog_1_method_27_code
def yX3_append : MethodName := ⟨RX3, "append", "(II)I"⟩
abbrev cX3_sumAsRead : ByteArray := prog_1_method_28_code
def yX3_sumAsRead : MethodName := ⟨RX3, "sumAsRead", "()I"⟩
abbrev cX3_flagBit : ByteArray := prog_1_method_29_code
def yX3_flagBit : MethodName := ⟨RX3, "flagBit", "(II)I"⟩
abbrev cX3_switchFlag : ByteArray := prog_1_method_30_code
def yX3_switchFlag : MethodName := ⟨RX3, "switchFlag", "(IIZ)V"⟩
def RX4 : String := "ZHeadsModel"
def TX4 : u_T := fun k => match k with
  | 0 => ("ZHeadsModel", "fault", "I", false)
  | 1 => ("ZHeadsModel", "file", "[I", true)
  | 2 => ("ZHeadsModel", "size", "I", false)
  | 3 => ("ZHeadsModel", "isRead", "Z", false)
  | 4 => ("ZHeadsModel", "broken", "I", false)
  | 5 => ("ZHeadsModel", "read", "[I", true)
  | 6 => ("ZHeadsModel", "memory", "[I", true)
  | 7 => ("ZHeadsModel", "version", "I", false)
  | _ => ("ZHeadsModel", "length", "I", false)
def tyX4 : Nat → FieldType := fun k => match k with
  | 0 => .int
  | 1 => .array .int
  | 2 => .int
  | 3 => .boolean
  | 4 => .int
  | 5 => .array .int
  | 6 => .array .int
  | 7 => .int
  | _ => .int
abbrev wsX40 : List Cond := u_ws RX4 TX4 9
theorem nmX4 : ∀ a, a < 9 → ∀ b, b < 9 → a ≠ b → (TX4 a).2.1 ≠ (TX4 b).2.1 := by decide +kernel
theorem tyX4_ok : ∀ k, k < 9 → parseFieldDescriptor (TX4 k).2.2.1 = some (tyX4 k) := by decide +kernel
abbrev cX4_init : ByteArray := prog_6_method_1_code
def yX4_init : MethodName := ⟨RX4, "<init>", "()V"⟩
abbrev cX4_thrown : ByteArray := prog_6_method_2_code
def yX4_thrown : MethodName := ⟨RX4, "thrown", "()I"⟩
abbrev cX4_in : ByteArray := prog_6_method_3_code
def yX4_in : MethodName := ⟨RX4, "in", "(III)Z"⟩
abbrev cX4_octet : ByteArray := prog_6_method_4_code
def yX4_octet : MethodName := ⟨RX4, "octet", "(I)I"⟩
abbrev cX4_feed : ByteArray := prog_6_method_5_code
def yX4_feed : MethodName := ⟨RX4, "feed", "(JI)I"⟩
abbrev cX4_fill : ByteArray := prog_6_method_6_code
def yX4_fill : MethodName := ⟨RX4, "fill", "(II)I"⟩
abbrev cX4_poke : ByteArray := prog_6_method_7_code
def yX4_poke : MethodName := ⟨RX4, "poke", "(II)I"⟩
abbrev cX4_clear : ByteArray := prog_6_method_8_code
def yX4_clear : MethodName := ⟨RX4, "clear", "()I"⟩
abbrev cX4_size : ByteArray := prog_6_method_9_code
def yX4_size : MethodName := ⟨RX4, "size", "()I"⟩
abbrev cX4_isThere : ByteArray := prog_6_method_10_code
def yX4_isThere : MethodName := ⟨RX4, "isThere", "(I)Z"⟩
abbrev cX4_two : ByteArray := prog_6_method_11_code
def yX4_two : MethodName := ⟨RX4, "two", "(I)I"⟩
abbrev cX4_brokenAt : ByteArray := prog_6_method_12_code
def yX4_brokenAt : MethodName := ⟨RX4, "brokenAt", "(II)I"⟩
abbrev cX4_scaleOf : ByteArray := prog_6_method_13_code
def yX4_scaleOf : MethodName := ⟨RX4, "scaleOf", "(I)I"⟩
abbrev cX4_fits : ByteArray := prog_6_method_14_code
def yX4_fits : MethodName := ⟨RX4, "fits", "(III)Z"⟩
abbrev cX4_areWords : ByteArray := prog_6_method_15_code
def yX4_areWords : MethodName := ⟨RX4, "areWords", "(I)Z"⟩
abbrev cX4_areEnds : ByteArray := prog_6_method_16_code
def yX4_areEnds : MethodName := ⟨RX4, "areEnds", "(I)Z"⟩
abbrev cX4_isMore : ByteArray := prog_6_method_17_code
def yX4_isMore : MethodName := ⟨RX4, "isMore", "(I)Z"⟩
abbrev cX4_isThird : ByteArray := prog_6_method_18_code
def yX4_isThird : MethodName := ⟨RX4, "isThird", "(I)Z"⟩
abbrev cX4_startOf : ByteArray := prog_6_method_19_code
def yX4_startOf : MethodName := ⟨RX4, "startOf", "()I"⟩
abbrev cX4_judge : ByteArray := prog_6_method_20_code
def yX4_judge : MethodName := ⟨RX4, "judge", "()I"⟩
abbrev cX4_judgeMore : ByteArray := prog_6_method_21_code
def yX4_judgeMore : MethodName := ⟨RX4, "judgeMore", "()I"⟩
abbrev cX4_read : ByteArray := prog_6_method_22_code
def yX4_read : MethodName := ⟨RX4, "read", "()I"⟩
abbrev cX4_rule : ByteArray := prog_6_method_23_code
def yX4_rule : MethodName := ⟨RX4, "rule", "()I"⟩
abbrev cX4_ofMore : ByteArray := prog_6_method_24_code
def yX4_ofMore : MethodName := ⟨RX4, "ofMore", "(I)I"⟩
abbrev cX4_field : ByteArray := prog_6_method_25_code
def yX4_field : MethodName := ⟨RX4, "field", "(I)I"⟩
abbrev cX4_thrownAt : ByteArray := prog_6_method_26_code
def yX4_thrownAt : MethodName := ⟨RX4, "thrownAt", "()I"⟩
abbrev cX4_serial : ByteArray := prog_6_method_27_code
def yX4_serial : MethodName := ⟨RX4, "serial", "(I)I"⟩
abbrev cX4_global : ByteArray := prog_6_method_28_code
def yX4_global : MethodName := ⟨RX4, "global", "(I)I"⟩
abbrev cX4_load : ByteArray := prog_6_method_29_code
def yX4_load : MethodName := ⟨RX4, "load", "(I)I"⟩
abbrev cX4_store : ByteArray := prog_6_method_30_code
def yX4_store : MethodName := ⟨RX4, "store", "(II)I"⟩
abbrev cX4_packedAt : ByteArray := prog_6_method_31_code
def yX4_packedAt : MethodName := ⟨RX4, "packedAt", "(IZ)I"⟩
abbrev cX4_packed : ByteArray := prog_6_method_32_code
def yX4_packed : MethodName := ⟨RX4, "packed", "(IZ)I"⟩
abbrev cX4_first : ByteArray := prog_6_method_33_code
def yX4_first : MethodName := ⟨RX4, "first", "(IZ)I"⟩
abbrev cX4_sum : ByteArray := prog_6_method_34_code
def yX4_sum : MethodName := ⟨RX4, "sum", "()I"⟩
abbrev cX4_agrees : ByteArray := prog_6_method_35_code
def yX4_agrees : MethodName := ⟨RX4, "agrees", "()I"⟩
abbrev cX4_mayFirst : ByteArray := prog_6_method_36_code
def yX4_mayFirst : MethodName := ⟨RX4, "mayFirst", "(I)Z"⟩
abbrev cX4_maySecond : ByteArray := prog_6_method_37_code
def yX4_maySecond : MethodName := ⟨RX4, "maySecond", "(IZZ)Z"⟩
abbrev cX4_isFlag : ByteArray := prog_6_method_38_code
def yX4_isFlag : MethodName := ⟨RX4, "isFlag", "(II)Z"⟩
abbrev cX4_placeOf : ByteArray := prog_6_method_39_code
def yX4_placeOf : MethodName := ⟨RX4, "placeOf", "(II)I"⟩
abbrev cX4_flag : ByteArray := prog_6_method_40_code
def yX4_flag : MethodName := ⟨RX4, "flag", "(IIZZ)I"⟩
abbrev cX4_isOn : ByteArray := prog_6_method_41_code
def yX4_isOn : MethodName := ⟨RX4, "isOn", "(II)I"⟩
abbrev cX4_isWide : ByteArray := prog_6_method_42_code
def yX4_isWide : MethodName := ⟨RX4, "isWide", "(I)Z"⟩
abbrev cX4_placeSet : ByteArray := prog_6_method_43_code
def yX4_placeSet : MethodName := ⟨RX4, "placeSet", "(I)I"⟩
abbrev cX4_set : ByteArray := prog_6_method_44_code
def yX4_set : MethodName := ⟨RX4, "set", "(II)I"⟩
abbrev cX4_restart : ByteArray := prog_6_method_45_code
def yX4_restart : MethodName := ⟨RX4, "restart", "()I"⟩
abbrev cX4_sign : ByteArray := prog_6_method_46_code
def yX4_sign : MethodName := ⟨RX4, "sign", "(I)I"⟩
abbrev cX4_ratio : ByteArray := prog_6_method_47_code
def yX4_ratio : MethodName := ⟨RX4, "ratio", "(Z)I"⟩
def RJx00060 : String := "java/lang/ArrayIndexOutOfBoundsException"
def TJx00060 : u_T := fun k => match k with
  | 0 => ("java/lang/Throwable", "backtrace", "Ljava/lang/Object;", false)
  | 1 => ("java/lang/Throwable", "detailMessage", "Ljava/lang/String;", false)
  | 2 => ("java/lang/Throwable", "cause", "Ljava/lang/Throwable;", false)
  | 3 => ("java/lang/Throwable", "stackTrace", "[Ljava/lang/StackTraceElement;", false)
  | 4 => ("java/lang/Throwable", "depth", "I", false)
  | _ => ("java/lang/Throwable", "suppressedExceptions", "Ljava/util/List;", false)
def tyJx00060 : Nat → FieldType := fun k => match k with
  | 0 => .object "java/lang/Object"
  | 1 => .object "java/lang/String"
  | 2 => .object "java/lang/Throwable"
  | 3 => .array (.object "java/lang/StackTraceElement")
  | 4 => .int
  | _ => .object "java/util/List"
abbrev wsJx000600 : List Cond := u_ws RJx00060 TJx00060 6
theorem nmJx00060 : ∀ a, a < 6 → ∀ b, b < 6 → a ≠ b → (TJx00060 a).2.1 ≠ (TJx00060 b).2.1 := by decide +kernel
theorem tyJx00060_ok : ∀ k, k < 6 → parseFieldDescriptor (TJx00060 k).2.2.1 = some (tyJx00060 k) := by decide +kernel
abbrev cJx00060_init_a7421 : ByteArray := prog_8_method_2_code
def yJx00060_init_a7421 : MethodName := ⟨RJx00060, "<init>", "(Ljava/lang/String;)V"⟩
def RJ9 : String := "java/lang/Math"
def TJ9 : u_T := fun k => match k with
  | _ => ("", "", "", false)
def tyJ9 : Nat → FieldType := fun k => match k with
  | _ => .int
abbrev wsJ90 : List Cond := u_ws RJ9 TJ9 0
theorem nmJ9 : ∀ a, a < 0 → ∀ b, b < 0 → a ≠ b → (TJ9 a).2.1 ≠ (TJ9 b).2.1 := by decide +kernel
theorem tyJ9_ok : ∀ k, k < 0 → parseFieldDescriptor (TJ9 k).2.2.1 = some (tyJ9 k) := by decide +kernel
abbrev cJ9_abs_0f7a4 : ByteArray := prog_11_method_59_code
def yJ9_abs_0f7a4 : MethodName := ⟨RJ9, "abs", "(I)I"⟩
def RJ0 : String := "java/lang/String"
def TJ0 : u_T := fun k => match k with
  | 0 => ("java/lang/String", "value", "[B", true)
  | _ => ("java/lang/String", "coder", "B", true)
def tyJ0 : Nat → FieldType := fun k => match k with
  | 0 => .array .byte
  | _ => .byte
abbrev wsJ00 : List Cond := u_ws RJ0 TJ0 2
theorem nmJ0 : ∀ a, a < 2 → ∀ b, b < 2 → a ≠ b → (TJ0 a).2.1 ≠ (TJ0 b).2.1 := by decide +kernel
theorem tyJ0_ok : ∀ k, k < 2 → parseFieldDescriptor (TJ0 k).2.2.1 = some (tyJ0 k) := by decide +kernel
def RJ10 : String := "java/lang/System"
def TJ10 : u_T := fun k => match k with
  | _ => ("", "", "", false)
def tyJ10 : Nat → FieldType := fun k => match k with
  | _ => .int
abbrev wsJ100 : List Cond := u_ws RJ10 TJ10 0
theorem nmJ10 : ∀ a, a < 0 → ∀ b, b < 0 → a ≠ b → (TJ10 a).2.1 ≠ (TJ10 b).2.1 := by decide +kernel
theorem tyJ10_ok : ∀ k, k < 0 → parseFieldDescriptor (TJ10 k).2.2.1 = some (tyJ10 k) := by decide +kernel
def RL : String := "ZHeadsLaw"
abbrev cL_serial : ByteArray := method_3_code
def yL_serial : MethodName := ⟨RL, "serial", "(LZHeads;I[J)I"⟩
abbrev cL_global : ByteArray := method_4_code
def yL_global : MethodName := ⟨RL, "global", "(LZHeads;I[J)I"⟩
abbrev cL_load : ByteArray := method_5_code
def yL_load : MethodName := ⟨RL, "load", "(LZHeads;I[J)I"⟩
abbrev cL_first : ByteArray := method_6_code
def yL_first : MethodName := ⟨RL, "first", "(LZHeads;IZ[J)I"⟩
abbrev cL_sign : ByteArray := method_7_code
def yL_sign : MethodName := ⟨RL, "sign", "(LZHeads;I[J)I"⟩
abbrev cL_ratio : ByteArray := method_8_code
def yL_ratio : MethodName := ⟨RL, "ratio", "(LZHeads;Z[J)I"⟩
abbrev cL_law : ByteArray := code
def yL_law : MethodName := ⟨RL, "law", "([I)Z"⟩
def wsX0_init : List Cond := .code yX0_init cX0_init 2 none :: ([.methodLink RX0 3 objectInit, .instanceMethod objectInit, .code objectInit ⟨#[0xb1]⟩ 1 none, .fieldLink RX0 9 "ZHeads$Head" "row" "LZHeads$Row;"] ++ wsX00)
def wsX2_at : List Cond := .code yX2_at cX2_at 2 (some .int) :: ([.fieldLink RX2 15 "ZHeads$Row" "count" "I", .fieldLink RX2 9 "ZHeads$Row" "cells" "[I"] ++ wsX20 ++ (vx_atM "java/lang/ArrayIndexOutOfBoundsException" ["java/lang/IndexOutOfBoundsException", "java/lang/RuntimeException", "java/lang/Exception"]).filter goodWord)
def wsX0_version : List Cond := .code yX0_version cX0_version 1 (some .int) :: ([.fieldLink RX0 9 "ZHeads$Head" "row" "LZHeads$Row;", .methodLink RX0 15 yX2_at, .instanceMethod yX2_at, .selects RX2 yX2_at yX2_at, .initialized RX2, .code yX2_at cX2_at 2 (some .int), .fieldLink RX2 15 "ZHeads$Row" "count" "I", .fieldLink RX2 9 "ZHeads$Row" "cells" "[I"] ++ wsX00 ++ wsX20 ++ (vx_atM "java/lang/ArrayIndexOutOfBoundsException" ["java/lang/IndexOutOfBoundsException", "java/lang/RuntimeException", "java/lang/Exception"]).filter goodWord)
def wsX0_scale : List Cond := .code yX0_scale cX0_scale 2 (some .int) :: ([.methodLink RX0 21 yX0_version, .instanceMethod yX0_version, .selects RX0 yX0_version yX0_version, .initialized RX0, .code yX0_version cX0_version 1 (some .int), .fieldLink RX0 9 "ZHeads$Head" "row" "LZHeads$Row;", .methodLink RX0 15 yX2_at, .instanceMethod yX2_at, .selects RX2 yX2_at yX2_at, .initialized RX2, .code yX2_at cX2_at 2 (some .int), .fieldLink RX2 15 "ZHeads$Row" "count" "I", .fieldLink RX2 9 "ZHeads$Row" "cells" "[I"] ++ wsX00 ++ wsX20 ++ (vx_atM "java/lang/ArrayIndexOutOfBoundsException" ["java/lang/IndexOutOfBoundsException", "java/lang/RuntimeException", "java/lang/Exception"]).filter goodWord)
def wsX2_two : List Cond := .code yX2_two cX2_two 2 (some .int) :: ([.fieldLink RX2 15 "ZHeads$Row" "count" "I", .fieldLink RX2 9 "ZHeads$Row" "cells" "[I"] ++ wsX20 ++ (vx_atM "java/lang/ArrayIndexOutOfBoundsException" ["java/lang/IndexOutOfBoundsException", "java/lang/RuntimeException", "java/lang/Exception"]).filter goodWord)
def wsX2_count : List Cond := .code yX2_count cX2_count 1 (some .int) :: ([.fieldLink RX2 15 "ZHeads$Row" "count" "I"] ++ wsX20)
def wsX0_length_r1 : List Cond := [Cond.fieldLink RX0 9 "ZHeads$Head" "row" "LZHeads$Row;", Cond.methodLink RX0 25 yX2_two, Cond.instanceMethod yX2_two, Cond.selects RX2 yX2_two yX2_two, Cond.initialized RX2, Cond.code yX2_two cX2_two 2 (some .int), Cond.fieldLink RX2 15 "ZHeads$Row" "count" "I", Cond.fieldLink RX2 9 "ZHeads$Row" "cells" "[I", Cond.methodLink RX0 21 yX0_version, Cond.instanceMethod yX0_version, Cond.selects RX0 yX0_version yX0_version, Cond.initialized RX0, Cond.code yX0_version cX0_version 1 (some .int), Cond.methodLink RX0 15 yX2_at, Cond.instanceMethod yX2_at, Cond.selects RX2 yX2_at yX2_at, Cond.code yX2_at cX2_at 2 (some .int), Cond.methodLink RX0 28 yX2_count, Cond.instanceMethod yX2_count, Cond.selects RX2 yX2_count yX2_count, Cond.code yX2_count cX2_count 1 (some .int), Cond.methodLink RX0 31 yX0_scale, Cond.instanceMethod yX0_scale, Cond.selects RX0 yX0_scale yX0_scale]
def wsX0_length_r2 : List Cond := [Cond.code yX0_scale cX0_scale 2 (some .int)]
def wsX0_length : List Cond := .code yX0_length cX0_length 2 (some .int) :: ((wsX0_length_r1 ++ wsX0_length_r2) ++ wsX00 ++ wsX20 ++ (vx_atM "java/lang/ArrayIndexOutOfBoundsException" ["java/lang/IndexOutOfBoundsException", "java/lang/RuntimeException", "java/lang/Exception"]).filter goodWord)
def wsX0_staticFrom : List Cond := .code yX0_staticFrom cX0_staticFrom 1 (some .int) :: ([.fieldLink RX0 9 "ZHeads$Head" "row" "LZHeads$Row;", .methodLink RX0 25 yX2_two, .instanceMethod yX2_two, .selects RX2 yX2_two yX2_two, .initialized RX2, .code yX2_two cX2_two 2 (some .int), .fieldLink RX2 15 "ZHeads$Row" "count" "I", .fieldLink RX2 9 "ZHeads$Row" "cells" "[I"] ++ wsX00 ++ wsX20 ++ (vx_atM "java/lang/ArrayIndexOutOfBoundsException" ["java/lang/IndexOutOfBoundsException", "java/lang/RuntimeException", "java/lang/Exception"]).filter goodWord)
def wsX0_high : List Cond := .code yX0_high cX0_high 1 (some .int) :: ([.fieldLink RX0 9 "ZHeads$Head" "row" "LZHeads$Row;", .methodLink RX0 25 yX2_two, .instanceMethod yX2_two, .selects RX2 yX2_two yX2_two, .initialized RX2, .code yX2_two cX2_two 2 (some .int), .fieldLink RX2 15 "ZHeads$Row" "count" "I", .fieldLink RX2 9 "ZHeads$Row" "cells" "[I"] ++ wsX00 ++ wsX20 ++ (vx_atM "java/lang/ArrayIndexOutOfBoundsException" ["java/lang/IndexOutOfBoundsException", "java/lang/RuntimeException", "java/lang/Exception"]).filter goodWord)
def wsX0_globals : List Cond := .code yX0_globals cX0_globals 1 (some .int) :: ([.fieldLink RX0 9 "ZHeads$Head" "row" "LZHeads$Row;", .methodLink RX0 25 yX2_two, .instanceMethod yX2_two, .selects RX2 yX2_two yX2_two, .initialized RX2, .code yX2_two cX2_two 2 (some .int), .fieldLink RX2 15 "ZHeads$Row" "count" "I", .fieldLink RX2 9 "ZHeads$Row" "cells" "[I"] ++ wsX00 ++ wsX20 ++ (vx_atM "java/lang/ArrayIndexOutOfBoundsException" ["java/lang/IndexOutOfBoundsException", "java/lang/RuntimeException", "java/lang/Exception"]).filter goodWord)
def wsX0_objects : List Cond := .code yX0_objects cX0_objects 1 (some .int) :: ([.fieldLink RX0 9 "ZHeads$Head" "row" "LZHeads$Row;", .methodLink RX0 25 yX2_two, .instanceMethod yX2_two, .selects RX2 yX2_two yX2_two, .initialized RX2, .code yX2_two cX2_two 2 (some .int), .fieldLink RX2 15 "ZHeads$Row" "count" "I", .fieldLink RX2 9 "ZHeads$Row" "cells" "[I"] ++ wsX00 ++ wsX20 ++ (vx_atM "java/lang/ArrayIndexOutOfBoundsException" ["java/lang/IndexOutOfBoundsException", "java/lang/RuntimeException", "java/lang/Exception"]).filter goodWord)
def wsX0_words : List Cond := .code yX0_words cX0_words 1 (some .int) :: ([.fieldLink RX0 9 "ZHeads$Head" "row" "LZHeads$Row;", .methodLink RX0 25 yX2_two, .instanceMethod yX2_two, .selects RX2 yX2_two yX2_two, .initialized RX2, .code yX2_two cX2_two 2 (some .int), .fieldLink RX2 15 "ZHeads$Row" "count" "I", .fieldLink RX2 9 "ZHeads$Row" "cells" "[I"] ++ wsX00 ++ wsX20 ++ (vx_atM "java/lang/ArrayIndexOutOfBoundsException" ["java/lang/IndexOutOfBoundsException", "java/lang/RuntimeException", "java/lang/Exception"]).filter goodWord)
def wsX0_signs : List Cond := .code yX0_signs cX0_signs 1 (some .int) :: ([.fieldLink RX0 9 "ZHeads$Head" "row" "LZHeads$Row;", .methodLink RX0 34 yX0_words, .instanceMethod yX0_words, .selects RX0 yX0_words yX0_words, .initialized RX0, .code yX0_words cX0_words 1 (some .int), .methodLink RX0 25 yX2_two, .instanceMethod yX2_two, .selects RX2 yX2_two yX2_two, .initialized RX2, .code yX2_two cX2_two 2 (some .int), .fieldLink RX2 15 "ZHeads$Row" "count" "I", .fieldLink RX2 9 "ZHeads$Row" "cells" "[I", .methodLink RX0 15 yX2_at, .instanceMethod yX2_at, .selects RX2 yX2_at yX2_at, .code yX2_at cX2_at 2 (some .int)] ++ wsX00 ++ wsX20 ++ (vx_atM "java/lang/ArrayIndexOutOfBoundsException" ["java/lang/IndexOutOfBoundsException", "java/lang/RuntimeException", "java/lang/Exception"]).filter goodWord)
def wsX0_entryBytes : List Cond := .code yX0_entryBytes cX0_entryBytes 1 (some .int) :: ([.fieldLink RX0 9 "ZHeads$Head" "row" "LZHeads$Row;", .methodLink RX0 34 yX0_words, .instanceMethod yX0_words, .selects RX0 yX0_words yX0_words, .initialized RX0, .code yX0_words cX0_words 1 (some .int), .methodLink RX0 25 yX2_two, .instanceMethod yX2_two, .selects RX2 yX2_two yX2_two, .initialized RX2, .code yX2_two cX2_two 2 (some .int), .fieldLink RX2 15 "ZHeads$Row" "count" "I", .fieldLink RX2 9 "ZHeads$Row" "cells" "[I", .methodLink RX0 37 yX0_signs, .instanceMethod yX0_signs, .selects RX0 yX0_signs yX0_signs, .code yX0_signs cX0_signs 1 (some .int), .methodLink RX0 15 yX2_at, .instanceMethod yX2_at, .selects RX2 yX2_at yX2_at, .code yX2_at cX2_at 2 (some .int)] ++ wsX00 ++ wsX20 ++ (vx_atM "java/lang/ArrayIndexOutOfBoundsException" ["java/lang/IndexOutOfBoundsException", "java/lang/RuntimeException", "java/lang/Exception"]).filter goodWord)
def wsX0_entries : List Cond := .code yX0_entries cX0_entries 1 (some .int) :: ([.fieldLink RX0 9 "ZHeads$Head" "row" "LZHeads$Row;", .methodLink RX0 34 yX0_words, .instanceMethod yX0_words, .selects RX0 yX0_words yX0_words, .initialized RX0, .code yX0_words cX0_words 1 (some .int), .methodLink RX0 25 yX2_two, .instanceMethod yX2_two, .selects RX2 yX2_two yX2_two, .initialized RX2, .code yX2_two cX2_two 2 (some .int), .fieldLink RX2 15 "ZHeads$Row" "count" "I", .fieldLink RX2 9 "ZHeads$Row" "cells" "[I", .methodLink RX0 37 yX0_signs, .instanceMethod yX0_signs, .selects RX0 yX0_signs yX0_signs, .code yX0_signs cX0_signs 1 (some .int), .methodLink RX0 15 yX2_at, .instanceMethod yX2_at, .selects RX2 yX2_at yX2_at, .code yX2_at cX2_at 2 (some .int)] ++ wsX00 ++ wsX20 ++ (vx_atM "java/lang/ArrayIndexOutOfBoundsException" ["java/lang/IndexOutOfBoundsException", "java/lang/RuntimeException", "java/lang/Exception"]).filter goodWord)
def wsX0_shorts : List Cond := .code yX0_shorts cX0_shorts 1 (some .int) :: ([.fieldLink RX0 9 "ZHeads$Head" "row" "LZHeads$Row;", .methodLink RX0 21 yX0_version, .instanceMethod yX0_version, .selects RX0 yX0_version yX0_version, .initialized RX0, .code yX0_version cX0_version 1 (some .int), .methodLink RX0 15 yX2_at, .instanceMethod yX2_at, .selects RX2 yX2_at yX2_at, .initialized RX2, .code yX2_at cX2_at 2 (some .int), .fieldLink RX2 15 "ZHeads$Row" "count" "I", .fieldLink RX2 9 "ZHeads$Row" "cells" "[I", .methodLink RX0 25 yX2_two, .instanceMethod yX2_two, .selects RX2 yX2_two yX2_two, .code yX2_two cX2_two 2 (some .int)] ++ wsX00 ++ wsX20 ++ (vx_atM "java/lang/ArrayIndexOutOfBoundsException" ["java/lang/IndexOutOfBoundsException", "java/lang/RuntimeException", "java/lang/Exception"]).filter goodWord)
def wsX0_start : List Cond := .code yX0_start cX0_start 1 (some .int) :: ([.fieldLink RX0 9 "ZHeads$Head" "row" "LZHeads$Row;", .methodLink RX0 21 yX0_version, .instanceMethod yX0_version, .selects RX0 yX0_version yX0_version, .initialized RX0, .code yX0_version cX0_version 1 (some .int), .methodLink RX0 15 yX2_at, .instanceMethod yX2_at, .selects RX2 yX2_at yX2_at, .initialized RX2, .code yX2_at cX2_at 2 (some .int), .fieldLink RX2 15 "ZHeads$Row" "count" "I", .fieldLink RX2 9 "ZHeads$Row" "cells" "[I", .methodLink RX0 25 yX2_two, .instanceMethod yX2_two, .selects RX2 yX2_two yX2_two, .code yX2_two cX2_two 2 (some .int)] ++ wsX00 ++ wsX20 ++ (vx_atM "java/lang/ArrayIndexOutOfBoundsException" ["java/lang/IndexOutOfBoundsException", "java/lang/RuntimeException", "java/lang/Exception"]).filter goodWord)
def wsX0_letters : List Cond := .code yX0_letters cX0_letters 1 (some .int) :: ([.fieldLink RX0 9 "ZHeads$Head" "row" "LZHeads$Row;", .methodLink RX0 21 yX0_version, .instanceMethod yX0_version, .selects RX0 yX0_version yX0_version, .initialized RX0, .code yX0_version cX0_version 1 (some .int), .methodLink RX0 15 yX2_at, .instanceMethod yX2_at, .selects RX2 yX2_at yX2_at, .initialized RX2, .code yX2_at cX2_at 2 (some .int), .fieldLink RX2 15 "ZHeads$Row" "count" "I", .fieldLink RX2 9 "ZHeads$Row" "cells" "[I", .methodLink RX0 25 yX2_two, .instanceMethod yX2_two, .selects RX2 yX2_two yX2_two, .code yX2_two cX2_two 2 (some .int)] ++ wsX00 ++ wsX20 ++ (vx_atM "java/lang/ArrayIndexOutOfBoundsException" ["java/lang/IndexOutOfBoundsException", "java/lang/RuntimeException", "java/lang/Exception"]).filter goodWord)
def wsX0_ends : List Cond := .code yX0_ends cX0_ends 1 (some .int) :: ([.fieldLink RX0 9 "ZHeads$Head" "row" "LZHeads$Row;", .methodLink RX0 21 yX0_version, .instanceMethod yX0_version, .selects RX0 yX0_version yX0_version, .initialized RX0, .code yX0_version cX0_version 1 (some .int), .methodLink RX0 15 yX2_at, .instanceMethod yX2_at, .selects RX2 yX2_at yX2_at, .initialized RX2, .code yX2_at cX2_at 2 (some .int), .fieldLink RX2 15 "ZHeads$Row" "count" "I", .fieldLink RX2 9 "ZHeads$Row" "cells" "[I", .methodLink RX0 25 yX2_two, .instanceMethod yX2_two, .selects RX2 yX2_two yX2_two, .code yX2_two cX2_two 2 (some .int)] ++ wsX00 ++ wsX20 ++ (vx_atM "java/lang/ArrayIndexOutOfBoundsException" ["java/lang/IndexOutOfBoundsException", "java/lang/RuntimeException", "java/lang/Exception"]).filter goodWord)
def wsX0_more : List Cond := .code yX0_more cX0_more 1 (some .int) :: ([.fieldLink RX0 9 "ZHeads$Head" "row" "LZHeads$Row;", .methodLink RX0 21 yX0_version, .instanceMethod yX0_version, .selects RX0 yX0_version yX0_version, .initialized RX0, .code yX0_version cX0_version 1 (some .int), .methodLink RX0 15 yX2_at, .instanceMethod yX2_at, .selects RX2 yX2_at yX2_at, .initialized RX2, .code yX2_at cX2_at 2 (some .int), .fieldLink RX2 15 "ZHeads$Row" "count" "I", .fieldLink RX2 9 "ZHeads$Row" "cells" "[I", .methodLink RX0 25 yX2_two, .instanceMethod yX2_two, .selects RX2 yX2_two yX2_two, .code yX2_two cX2_two 2 (some .int)] ++ wsX00 ++ wsX20 ++ (vx_atM "java/lang/ArrayIndexOutOfBoundsException" ["java/lang/IndexOutOfBoundsException", "java/lang/RuntimeException", "java/lang/Exception"]).filter goodWord)
def wsX0_moreWords : List Cond := .code yX0_moreWords cX0_moreWords 2 (some .int) :: ([.fieldLink RX0 9 "ZHeads$Head" "row" "LZHeads$Row;", .methodLink RX0 40 yX0_more, .instanceMethod yX0_more, .selects RX0 yX0_more yX0_more, .initialized RX0, .code yX0_more cX0_more 1 (some .int), .methodLink RX0 21 yX0_version, .instanceMethod yX0_version, .selects RX0 yX0_version yX0_version, .code yX0_version cX0_version 1 (some .int), .methodLink RX0 15 yX2_at, .instanceMethod yX2_at, .selects RX2 yX2_at yX2_at, .initialized RX2, .code yX2_at cX2_at 2 (some .int), .fieldLink RX2 15 "ZHeads$Row" "count" "I", .fieldLink RX2 9 "ZHeads$Row" "cells" "[I", .methodLink RX0 25 yX2_two, .instanceMethod yX2_two, .selects RX2 yX2_two yX2_two, .code yX2_two cX2_two 2 (some .int)] ++ wsX00 ++ wsX20 ++ (vx_atM "java/lang/ArrayIndexOutOfBoundsException" ["java/lang/IndexOutOfBoundsException", "java/lang/RuntimeException", "java/lang/Exception"]).filter goodWord)
def wsX0_thirdWord : List Cond := .code yX0_thirdWord cX0_thirdWord 2 (some .int) :: ([.fieldLink RX0 9 "ZHeads$Head" "row" "LZHeads$Row;", .methodLink RX0 40 yX0_more, .instanceMethod yX0_more, .selects RX0 yX0_more yX0_more, .initialized RX0, .code yX0_more cX0_more 1 (some .int), .methodLink RX0 21 yX0_version, .instanceMethod yX0_version, .selects RX0 yX0_version yX0_version, .code yX0_version cX0_version 1 (some .int), .methodLink RX0 15 yX2_at, .instanceMethod yX2_at, .selects RX2 yX2_at yX2_at, .initialized RX2, .code yX2_at cX2_at 2 (some .int), .fieldLink RX2 15 "ZHeads$Row" "count" "I", .fieldLink RX2 9 "ZHeads$Row" "cells" "[I", .methodLink RX0 25 yX2_two, .instanceMethod yX2_two, .selects RX2 yX2_two yX2_two, .code yX2_two cX2_two 2 (some .int)] ++ wsX00 ++ wsX20 ++ (vx_atM "java/lang/ArrayIndexOutOfBoundsException" ["java/lang/IndexOutOfBoundsException", "java/lang/RuntimeException", "java/lang/Exception"]).filter goodWord)
def wsX0_unpacked : List Cond := .code yX0_unpacked cX0_unpacked 4 (some .int) :: ([.fieldLink RX0 9 "ZHeads$Head" "row" "LZHeads$Row;", .methodLink RX0 21 yX0_version, .instanceMethod yX0_version, .selects RX0 yX0_version yX0_version, .initialized RX0, .code yX0_version cX0_version 1 (some .int), .methodLink RX0 15 yX2_at, .instanceMethod yX2_at, .selects RX2 yX2_at yX2_at, .initialized RX2, .code yX2_at cX2_at 2 (some .int), .fieldLink RX2 15 "ZHeads$Row" "count" "I", .fieldLink RX2 9 "ZHeads$Row" "cells" "[I", .methodLink RX0 25 yX2_two, .instanceMethod yX2_two, .selects RX2 yX2_two yX2_two, .code yX2_two cX2_two 2 (some .int)] ++ wsX00 ++ wsX20 ++ (vx_atM "java/lang/ArrayIndexOutOfBoundsException" ["java/lang/IndexOutOfBoundsException", "java/lang/RuntimeException", "java/lang/Exception"]).filter goodWord)
def wsX0_term_r1 : List Cond := [Cond.fieldLink RX0 9 "ZHeads$Head" "row" "LZHeads$Row;", Cond.methodLink RX0 21 yX0_version, Cond.instanceMethod yX0_version, Cond.selects RX0 yX0_version yX0_version, Cond.initialized RX0, Cond.code yX0_version cX0_version 1 (some .int), Cond.methodLink RX0 15 yX2_at, Cond.instanceMethod yX2_at, Cond.selects RX2 yX2_at yX2_at, Cond.initialized RX2, Cond.code yX2_at cX2_at 2 (some .int), Cond.fieldLink RX2 15 "ZHeads$Row" "count" "I", Cond.fieldLink RX2 9 "ZHeads$Row" "cells" "[I", Cond.methodLink RX0 43 yX0_length, Cond.instanceMethod yX0_length, Cond.selects RX0 yX0_length yX0_length, Cond.code yX0_length cX0_length 2 (some .int), Cond.methodLink RX0 25 yX2_two, Cond.instanceMethod yX2_two, Cond.selects RX2 yX2_two yX2_two, Cond.code yX2_two cX2_two 2 (some .int), Cond.methodLink RX0 28 yX2_count, Cond.instanceMethod yX2_count, Cond.selects RX2 yX2_count yX2_count]
def wsX0_term_r2 : List Cond := [Cond.code yX2_count cX2_count 1 (some .int), Cond.methodLink RX0 31 yX0_scale, Cond.instanceMethod yX0_scale, Cond.selects RX0 yX0_scale yX0_scale, Cond.code yX0_scale cX0_scale 2 (some .int), Cond.methodLink RX0 46 yX0_staticFrom, Cond.instanceMethod yX0_staticFrom, Cond.selects RX0 yX0_staticFrom yX0_staticFrom, Cond.code yX0_staticFrom cX0_staticFrom 1 (some .int), Cond.methodLink RX0 49 yX0_high, Cond.instanceMethod yX0_high, Cond.selects RX0 yX0_high yX0_high, Cond.code yX0_high cX0_high 1 (some .int), Cond.methodLink RX0 52 yX0_globals, Cond.instanceMethod yX0_globals, Cond.selects RX0 yX0_globals yX0_globals, Cond.code yX0_globals cX0_globals 1 (some .int), Cond.methodLink RX0 55 yX0_objects, Cond.instanceMethod yX0_objects, Cond.selects RX0 yX0_objects yX0_objects, Cond.code yX0_objects cX0_objects 1 (some .int), Cond.methodLink RX0 34 yX0_words, Cond.instanceMethod yX0_words, Cond.selects RX0 yX0_words yX0_words]
def wsX0_term_r3 : List Cond := [Cond.code yX0_words cX0_words 1 (some .int), Cond.methodLink RX0 58 yX0_shorts, Cond.instanceMethod yX0_shorts, Cond.selects RX0 yX0_shorts yX0_shorts, Cond.code yX0_shorts cX0_shorts 1 (some .int), Cond.methodLink RX0 61 yX0_start, Cond.instanceMethod yX0_start, Cond.selects RX0 yX0_start yX0_start, Cond.code yX0_start cX0_start 1 (some .int), Cond.methodLink RX0 64 yX0_letters, Cond.instanceMethod yX0_letters, Cond.selects RX0 yX0_letters yX0_letters, Cond.code yX0_letters cX0_letters 1 (some .int), Cond.methodLink RX0 67 yX0_ends, Cond.instanceMethod yX0_ends, Cond.selects RX0 yX0_ends yX0_ends, Cond.code yX0_ends cX0_ends 1 (some .int), Cond.methodLink RX0 70 yX0_moreWords, Cond.instanceMethod yX0_moreWords, Cond.selects RX0 yX0_moreWords yX0_moreWords, Cond.code yX0_moreWords cX0_moreWords 2 (some .int), Cond.methodLink RX0 40 yX0_more, Cond.instanceMethod yX0_more, Cond.selects RX0 yX0_more yX0_more]
def wsX0_term_r4 : List Cond := [Cond.code yX0_more cX0_more 1 (some .int), Cond.methodLink RX0 73 yX0_thirdWord, Cond.instanceMethod yX0_thirdWord, Cond.selects RX0 yX0_thirdWord yX0_thirdWord, Cond.code yX0_thirdWord cX0_thirdWord 2 (some .int), Cond.methodLink RX0 76 yX0_entries, Cond.instanceMethod yX0_entries, Cond.selects RX0 yX0_entries yX0_entries, Cond.code yX0_entries cX0_entries 1 (some .int), Cond.methodLink RX0 37 yX0_signs, Cond.instanceMethod yX0_signs, Cond.selects RX0 yX0_signs yX0_signs, Cond.code yX0_signs cX0_signs 1 (some .int), Cond.methodLink RX0 79 yX0_entryBytes, Cond.instanceMethod yX0_entryBytes, Cond.selects RX0 yX0_entryBytes yX0_entryBytes, Cond.code yX0_entryBytes cX0_entryBytes 1 (some .int)]
def wsX0_term : List Cond := .code yX0_term cX0_term 2 (some .int) :: ((wsX0_term_r1 ++ (wsX0_term_r2 ++ (wsX0_term_r3 ++ wsX0_term_r4))) ++ wsX00 ++ wsX20 ++ (vx_atM "java/lang/ArrayIndexOutOfBoundsException" ["java/lang/IndexOutOfBoundsException", "java/lang/RuntimeException", "java/lang/Exception"]).filter goodWord)
def wsX2_has : List Cond := .code yX2_has cX2_has 2 (some .boolean) :: ([.fieldLink RX2 15 "ZHeads$Row" "count" "I", .fieldLink RX2 9 "ZHeads$Row" "cells" "[I"] ++ wsX20)
def wsX0_isWithin : List Cond := .code yX0_isWithin cX0_isWithin 3 (some .boolean) :: ([])
def wsX0_fits : List Cond := .code yX0_fits cX0_fits 3 (some .boolean) :: ([])
def wsX0_wordsHold_r1 : List Cond := [Cond.fieldLink RX0 9 "ZHeads$Head" "row" "LZHeads$Row;", Cond.methodLink RX0 106 Lib.Math.abs.name, Cond.static Lib.Math.abs.name, Cond.initialized "java/lang/Math", Cond.code Lib.Math.abs.name Lib.Math.abs.code 1 (some .int), Cond.methodLink RX0 34 yX0_words, Cond.instanceMethod yX0_words, Cond.selects RX0 yX0_words yX0_words, Cond.initialized RX0, Cond.code yX0_words cX0_words 1 (some .int), Cond.methodLink RX0 25 yX2_two, Cond.instanceMethod yX2_two, Cond.selects RX2 yX2_two yX2_two, Cond.initialized RX2, Cond.code yX2_two cX2_two 2 (some .int), Cond.fieldLink RX2 15 "ZHeads$Row" "count" "I", Cond.fieldLink RX2 9 "ZHeads$Row" "cells" "[I", Cond.methodLink RX0 15 yX2_at, Cond.instanceMethod yX2_at, Cond.selects RX2 yX2_at yX2_at, Cond.code yX2_at cX2_at 2 (some .int), Cond.methodLink RX0 21 yX0_version, Cond.instanceMethod yX0_version, Cond.selects RX0 yX0_version yX0_version]
def wsX0_wordsHold_r2 : List Cond := [Cond.code yX0_version cX0_version 1 (some .int), Cond.methodLink RX0 43 yX0_length, Cond.instanceMethod yX0_length, Cond.selects RX0 yX0_length yX0_length, Cond.code yX0_length cX0_length 2 (some .int), Cond.methodLink RX0 28 yX2_count, Cond.instanceMethod yX2_count, Cond.selects RX2 yX2_count yX2_count, Cond.code yX2_count cX2_count 1 (some .int), Cond.methodLink RX0 31 yX0_scale, Cond.instanceMethod yX0_scale, Cond.selects RX0 yX0_scale yX0_scale, Cond.code yX0_scale cX0_scale 2 (some .int)]
def wsX0_wordsHold : List Cond := .code yX0_wordsHold cX0_wordsHold 6 (some .boolean) :: ((wsX0_wordsHold_r1 ++ wsX0_wordsHold_r2) ++ wsX00 ++ wsX20 ++ (vx_atM "java/lang/ArrayIndexOutOfBoundsException" ["java/lang/IndexOutOfBoundsException", "java/lang/RuntimeException", "java/lang/Exception"]).filter goodWord)
def wsX0_endsHold_r1 : List Cond := [Cond.fieldLink RX0 9 "ZHeads$Head" "row" "LZHeads$Row;", Cond.methodLink RX0 67 yX0_ends, Cond.instanceMethod yX0_ends, Cond.selects RX0 yX0_ends yX0_ends, Cond.initialized RX0, Cond.code yX0_ends cX0_ends 1 (some .int), Cond.methodLink RX0 21 yX0_version, Cond.instanceMethod yX0_version, Cond.selects RX0 yX0_version yX0_version, Cond.code yX0_version cX0_version 1 (some .int), Cond.methodLink RX0 15 yX2_at, Cond.instanceMethod yX2_at, Cond.selects RX2 yX2_at yX2_at, Cond.initialized RX2, Cond.code yX2_at cX2_at 2 (some .int), Cond.fieldLink RX2 15 "ZHeads$Row" "count" "I", Cond.fieldLink RX2 9 "ZHeads$Row" "cells" "[I", Cond.methodLink RX0 25 yX2_two, Cond.instanceMethod yX2_two, Cond.selects RX2 yX2_two yX2_two, Cond.code yX2_two cX2_two 2 (some .int), Cond.methodLink RX0 43 yX0_length, Cond.instanceMethod yX0_length, Cond.selects RX0 yX0_length yX0_length]
def wsX0_endsHold_r2 : List Cond := [Cond.code yX0_length cX0_length 2 (some .int), Cond.methodLink RX0 28 yX2_count, Cond.instanceMethod yX2_count, Cond.selects RX2 yX2_count yX2_count, Cond.code yX2_count cX2_count 1 (some .int), Cond.methodLink RX0 31 yX0_scale, Cond.instanceMethod yX0_scale, Cond.selects RX0 yX0_scale yX0_scale, Cond.code yX0_scale cX0_scale 2 (some .int)]
def wsX0_endsHold : List Cond := .code yX0_endsHold cX0_endsHold 4 (some .boolean) :: ((wsX0_endsHold_r1 ++ wsX0_endsHold_r2) ++ wsX00 ++ wsX20 ++ (vx_atM "java/lang/ArrayIndexOutOfBoundsException" ["java/lang/IndexOutOfBoundsException", "java/lang/RuntimeException", "java/lang/Exception"]).filter goodWord)
def wsX0_moreHolds_r1 : List Cond := [Cond.methodLink RX0 70 yX0_moreWords, Cond.instanceMethod yX0_moreWords, Cond.selects RX0 yX0_moreWords yX0_moreWords, Cond.initialized RX0, Cond.code yX0_moreWords cX0_moreWords 2 (some .int), Cond.fieldLink RX0 9 "ZHeads$Head" "row" "LZHeads$Row;", Cond.methodLink RX0 40 yX0_more, Cond.instanceMethod yX0_more, Cond.selects RX0 yX0_more yX0_more, Cond.code yX0_more cX0_more 1 (some .int), Cond.methodLink RX0 21 yX0_version, Cond.instanceMethod yX0_version, Cond.selects RX0 yX0_version yX0_version, Cond.code yX0_version cX0_version 1 (some .int), Cond.methodLink RX0 15 yX2_at, Cond.instanceMethod yX2_at, Cond.selects RX2 yX2_at yX2_at, Cond.initialized RX2, Cond.code yX2_at cX2_at 2 (some .int), Cond.fieldLink RX2 15 "ZHeads$Row" "count" "I", Cond.fieldLink RX2 9 "ZHeads$Row" "cells" "[I", Cond.methodLink RX0 25 yX2_two, Cond.instanceMethod yX2_two, Cond.selects RX2 yX2_two yX2_two]
def wsX0_moreHolds_r2 : List Cond := [Cond.code yX2_two cX2_two 2 (some .int), Cond.methodLink RX0 43 yX0_length, Cond.instanceMethod yX0_length, Cond.selects RX0 yX0_length yX0_length, Cond.code yX0_length cX0_length 2 (some .int), Cond.methodLink RX0 28 yX2_count, Cond.instanceMethod yX2_count, Cond.selects RX2 yX2_count yX2_count, Cond.code yX2_count cX2_count 1 (some .int), Cond.methodLink RX0 31 yX0_scale, Cond.instanceMethod yX0_scale, Cond.selects RX0 yX0_scale yX0_scale, Cond.code yX0_scale cX0_scale 2 (some .int), Cond.methodLink RX0 90 yX0_fits, Cond.static yX0_fits, Cond.code yX0_fits cX0_fits 3 (some .boolean)]
def wsX0_moreHolds : List Cond := .code yX0_moreHolds cX0_moreHolds 2 (some .boolean) :: ((wsX0_moreHolds_r1 ++ wsX0_moreHolds_r2) ++ wsX00 ++ wsX20 ++ (vx_atM "java/lang/ArrayIndexOutOfBoundsException" ["java/lang/IndexOutOfBoundsException", "java/lang/RuntimeException", "java/lang/Exception"]).filter goodWord)
def wsX0_thirdHolds_r1 : List Cond := [Cond.fieldLink RX0 9 "ZHeads$Head" "row" "LZHeads$Row;", Cond.methodLink RX0 73 yX0_thirdWord, Cond.instanceMethod yX0_thirdWord, Cond.selects RX0 yX0_thirdWord yX0_thirdWord, Cond.initialized RX0, Cond.code yX0_thirdWord cX0_thirdWord 2 (some .int), Cond.methodLink RX0 40 yX0_more, Cond.instanceMethod yX0_more, Cond.selects RX0 yX0_more yX0_more, Cond.code yX0_more cX0_more 1 (some .int), Cond.methodLink RX0 21 yX0_version, Cond.instanceMethod yX0_version, Cond.selects RX0 yX0_version yX0_version, Cond.code yX0_version cX0_version 1 (some .int), Cond.methodLink RX0 15 yX2_at, Cond.instanceMethod yX2_at, Cond.selects RX2 yX2_at yX2_at, Cond.initialized RX2, Cond.code yX2_at cX2_at 2 (some .int), Cond.fieldLink RX2 15 "ZHeads$Row" "count" "I", Cond.fieldLink RX2 9 "ZHeads$Row" "cells" "[I", Cond.methodLink RX0 25 yX2_two, Cond.instanceMethod yX2_two, Cond.selects RX2 yX2_two yX2_two]
def wsX0_thirdHolds_r2 : List Cond := [Cond.code yX2_two cX2_two 2 (some .int), Cond.methodLink RX0 43 yX0_length, Cond.instanceMethod yX0_length, Cond.selects RX0 yX0_length yX0_length, Cond.code yX0_length cX0_length 2 (some .int), Cond.methodLink RX0 28 yX2_count, Cond.instanceMethod yX2_count, Cond.selects RX2 yX2_count yX2_count, Cond.code yX2_count cX2_count 1 (some .int), Cond.methodLink RX0 31 yX0_scale, Cond.instanceMethod yX0_scale, Cond.selects RX0 yX0_scale yX0_scale, Cond.code yX0_scale cX0_scale 2 (some .int), Cond.methodLink RX0 90 yX0_fits, Cond.static yX0_fits, Cond.code yX0_fits cX0_fits 3 (some .boolean)]
def wsX0_thirdHolds : List Cond := .code yX0_thirdHolds cX0_thirdHolds 3 (some .boolean) :: ((wsX0_thirdHolds_r1 ++ wsX0_thirdHolds_r2) ++ wsX00 ++ wsX20 ++ (vx_atM "java/lang/ArrayIndexOutOfBoundsException" ["java/lang/IndexOutOfBoundsException", "java/lang/RuntimeException", "java/lang/Exception"]).filter goodWord)
def wsX0_holds_r1 : List Cond := [Cond.fieldLink RX0 9 "ZHeads$Head" "row" "LZHeads$Row;", Cond.methodLink RX0 82 yX2_has, Cond.instanceMethod yX2_has, Cond.selects RX2 yX2_has yX2_has, Cond.initialized RX2, Cond.code yX2_has cX2_has 2 (some .boolean), Cond.fieldLink RX2 15 "ZHeads$Row" "count" "I", Cond.fieldLink RX2 9 "ZHeads$Row" "cells" "[I", Cond.methodLink RX0 21 yX0_version, Cond.instanceMethod yX0_version, Cond.selects RX0 yX0_version yX0_version, Cond.initialized RX0, Cond.code yX0_version cX0_version 1 (some .int), Cond.methodLink RX0 15 yX2_at, Cond.instanceMethod yX2_at, Cond.selects RX2 yX2_at yX2_at, Cond.code yX2_at cX2_at 2 (some .int), Cond.methodLink RX0 86 yX0_isWithin, Cond.static yX0_isWithin, Cond.code yX0_isWithin cX0_isWithin 3 (some .boolean), Cond.methodLink RX0 28 yX2_count, Cond.instanceMethod yX2_count, Cond.selects RX2 yX2_count yX2_count, Cond.code yX2_count cX2_count 1 (some .int)]
def wsX0_holds_r2 : List Cond := [Cond.methodLink RX0 43 yX0_length, Cond.instanceMethod yX0_length, Cond.selects RX0 yX0_length yX0_length, Cond.code yX0_length cX0_length 2 (some .int), Cond.methodLink RX0 25 yX2_two, Cond.instanceMethod yX2_two, Cond.selects RX2 yX2_two yX2_two, Cond.code yX2_two cX2_two 2 (some .int), Cond.methodLink RX0 31 yX0_scale, Cond.instanceMethod yX0_scale, Cond.selects RX0 yX0_scale yX0_scale, Cond.code yX0_scale cX0_scale 2 (some .int), Cond.methodLink RX0 46 yX0_staticFrom, Cond.instanceMethod yX0_staticFrom, Cond.selects RX0 yX0_staticFrom yX0_staticFrom, Cond.code yX0_staticFrom cX0_staticFrom 1 (some .int), Cond.methodLink RX0 49 yX0_high, Cond.instanceMethod yX0_high, Cond.selects RX0 yX0_high yX0_high, Cond.code yX0_high cX0_high 1 (some .int), Cond.methodLink RX0 52 yX0_globals, Cond.instanceMethod yX0_globals, Cond.selects RX0 yX0_globals yX0_globals, Cond.code yX0_globals cX0_globals 1 (some .int)]
def wsX0_holds_r3 : List Cond := [Cond.methodLink RX0 90 yX0_fits, Cond.static yX0_fits, Cond.code yX0_fits cX0_fits 3 (some .boolean), Cond.methodLink RX0 55 yX0_objects, Cond.instanceMethod yX0_objects, Cond.selects RX0 yX0_objects yX0_objects, Cond.code yX0_objects cX0_objects 1 (some .int), Cond.methodLink RX0 93 yX0_wordsHold, Cond.instanceMethod yX0_wordsHold, Cond.selects RX0 yX0_wordsHold yX0_wordsHold, Cond.code yX0_wordsHold cX0_wordsHold 6 (some .boolean), Cond.methodLink RX0 106 Lib.Math.abs.name, Cond.static Lib.Math.abs.name, Cond.initialized "java/lang/Math", Cond.code Lib.Math.abs.name Lib.Math.abs.code 1 (some .int), Cond.methodLink RX0 34 yX0_words, Cond.instanceMethod yX0_words, Cond.selects RX0 yX0_words yX0_words, Cond.code yX0_words cX0_words 1 (some .int), Cond.methodLink RX0 58 yX0_shorts, Cond.instanceMethod yX0_shorts, Cond.selects RX0 yX0_shorts yX0_shorts, Cond.code yX0_shorts cX0_shorts 1 (some .int), Cond.methodLink RX0 61 yX0_start]
def wsX0_holds_r4 : List Cond := [Cond.instanceMethod yX0_start, Cond.selects RX0 yX0_start yX0_start, Cond.code yX0_start cX0_start 1 (some .int), Cond.methodLink RX0 64 yX0_letters, Cond.instanceMethod yX0_letters, Cond.selects RX0 yX0_letters yX0_letters, Cond.code yX0_letters cX0_letters 1 (some .int), Cond.methodLink RX0 67 yX0_ends, Cond.instanceMethod yX0_ends, Cond.selects RX0 yX0_ends yX0_ends, Cond.code yX0_ends cX0_ends 1 (some .int), Cond.methodLink RX0 97 yX0_endsHold, Cond.instanceMethod yX0_endsHold, Cond.selects RX0 yX0_endsHold yX0_endsHold, Cond.code yX0_endsHold cX0_endsHold 4 (some .boolean), Cond.methodLink RX0 40 yX0_more, Cond.instanceMethod yX0_more, Cond.selects RX0 yX0_more yX0_more, Cond.code yX0_more cX0_more 1 (some .int), Cond.methodLink RX0 100 yX0_moreHolds, Cond.instanceMethod yX0_moreHolds, Cond.selects RX0 yX0_moreHolds yX0_moreHolds, Cond.code yX0_moreHolds cX0_moreHolds 2 (some .boolean), Cond.methodLink RX0 70 yX0_moreWords]
def wsX0_holds_r5 : List Cond := [Cond.instanceMethod yX0_moreWords, Cond.selects RX0 yX0_moreWords yX0_moreWords, Cond.code yX0_moreWords cX0_moreWords 2 (some .int), Cond.methodLink RX0 73 yX0_thirdWord, Cond.instanceMethod yX0_thirdWord, Cond.selects RX0 yX0_thirdWord yX0_thirdWord, Cond.code yX0_thirdWord cX0_thirdWord 2 (some .int), Cond.methodLink RX0 103 yX0_thirdHolds, Cond.instanceMethod yX0_thirdHolds, Cond.selects RX0 yX0_thirdHolds yX0_thirdHolds, Cond.code yX0_thirdHolds cX0_thirdHolds 3 (some .boolean)]
def wsX0_holds : List Cond := .code yX0_holds cX0_holds 2 (some .boolean) :: ((wsX0_holds_r1 ++ (wsX0_holds_r2 ++ (wsX0_holds_r3 ++ (wsX0_holds_r4 ++ wsX0_holds_r5)))) ++ wsX00 ++ wsX20 ++ (vx_atM "java/lang/ArrayIndexOutOfBoundsException" ["java/lang/IndexOutOfBoundsException", "java/lang/RuntimeException", "java/lang/Exception"]).filter goodWord)
def wsX0_placeOf_r1 : List Cond := [Cond.fieldLink RX0 9 "ZHeads$Head" "row" "LZHeads$Row;", Cond.methodLink RX0 28 yX2_count, Cond.instanceMethod yX2_count, Cond.selects RX2 yX2_count yX2_count, Cond.initialized RX2, Cond.code yX2_count cX2_count 1 (some .int), Cond.fieldLink RX2 15 "ZHeads$Row" "count" "I", Cond.methodLink RX0 40 yX0_more, Cond.instanceMethod yX0_more, Cond.selects RX0 yX0_more yX0_more, Cond.initialized RX0, Cond.code yX0_more cX0_more 1 (some .int), Cond.methodLink RX0 21 yX0_version, Cond.instanceMethod yX0_version, Cond.selects RX0 yX0_version yX0_version, Cond.code yX0_version cX0_version 1 (some .int), Cond.methodLink RX0 15 yX2_at, Cond.instanceMethod yX2_at, Cond.selects RX2 yX2_at yX2_at, Cond.code yX2_at cX2_at 2 (some .int), Cond.fieldLink RX2 9 "ZHeads$Row" "cells" "[I", Cond.methodLink RX0 25 yX2_two, Cond.instanceMethod yX2_two, Cond.selects RX2 yX2_two yX2_two]
def wsX0_placeOf_r2 : List Cond := [Cond.code yX2_two cX2_two 2 (some .int)]
def wsX0_placeOf : List Cond := .code yX0_placeOf cX0_placeOf 2 (some .int) :: ((wsX0_placeOf_r1 ++ wsX0_placeOf_r2) ++ wsX00 ++ wsX20 ++ (vx_atM "java/lang/ArrayIndexOutOfBoundsException" ["java/lang/IndexOutOfBoundsException", "java/lang/RuntimeException", "java/lang/Exception"]).filter goodWord)
def wsX1_isFlag : List Cond := .code yX1_isFlag cX1_isFlag 2 (some .boolean) :: ([])
def wsX1_playerBits : List Cond := .code yX1_playerBits cX1_playerBits 1 (some .int) :: ([])
def wsX1_maySwitchFirst : List Cond := .code yX1_maySwitchFirst cX1_maySwitchFirst 3 (some .boolean) :: ([.methodLink RX1 7 yX1_playerBits, .static yX1_playerBits, .initialized RX1, .code yX1_playerBits cX1_playerBits 1 (some .int)])
def wsX1_maySwitchSecond : List Cond := .code yX1_maySwitchSecond cX1_maySwitchSecond 4 (some .boolean) :: ([])
def wsX1_isWide : List Cond := .code yX1_isWide cX1_isWide 1 (some .boolean) :: ([])
def wsX1_settableFrom : List Cond := .code yX1_settableFrom cX1_settableFrom 1 (some .int) :: ([])
def wsX1_settingPlace : List Cond := .code yX1_settingPlace cX1_settingPlace 2 (some .int) :: ([])
def wsX2_init : List Cond := .code yX2_init cX2_init 1 none :: ([.methodLink RX2 3 objectInit, .instanceMethod objectInit, .code objectInit ⟨#[0xb1]⟩ 1 none, .arrayClass .int, .fieldLink RX2 9 "ZHeads$Row" "cells" "[I", .fieldLink RX2 15 "ZHeads$Row" "count" "I"] ++ wsX20)
def wsX2_room : List Cond := .code yX2_room cX2_room 1 (some .int) :: ([.fieldLink RX2 15 "ZHeads$Row" "count" "I"] ++ wsX20)
def wsX2_put : List Cond := .code yX2_put cX2_put 3 none :: ([.fieldLink RX2 9 "ZHeads$Row" "cells" "[I", .methodLink RX2 19 yX2_has, .instanceMethod yX2_has, .selects RX2 yX2_has yX2_has, .initialized RX2, .code yX2_has cX2_has 2 (some .boolean), .fieldLink RX2 15 "ZHeads$Row" "count" "I"] ++ wsX20 ++ (vx_atM "java/lang/ArrayIndexOutOfBoundsException" ["java/lang/IndexOutOfBoundsException", "java/lang/RuntimeException", "java/lang/Exception"]).filter goodWord)
def wsX2_putTwo : List Cond := .code yX2_putTwo cX2_putTwo 3 none :: ([.methodLink RX2 23 yX2_put, .instanceMethod yX2_put, .selects RX2 yX2_put yX2_put, .initialized RX2, .code yX2_put cX2_put 3 none, .fieldLink RX2 9 "ZHeads$Row" "cells" "[I", .methodLink RX2 19 yX2_has, .instanceMethod yX2_has, .selects RX2 yX2_has yX2_has, .code yX2_has cX2_has 2 (some .boolean), .fieldLink RX2 15 "ZHeads$Row" "count" "I"] ++ wsX20 ++ (vx_atM "java/lang/ArrayIndexOutOfBoundsException" ["java/lang/IndexOutOfBoundsException", "java/lang/RuntimeException", "java/lang/Exception"]).filter goodWord)
def wsX2_add : List Cond := .code yX2_add cX2_add 2 none :: ([.fieldLink RX2 15 "ZHeads$Row" "count" "I", .fieldLink RX2 9 "ZHeads$Row" "cells" "[I"] ++ wsX20 ++ (vx_atM "java/lang/ArrayIndexOutOfBoundsException" ["java/lang/IndexOutOfBoundsException", "java/lang/RuntimeException", "java/lang/Exception"]).filter goodWord)
def wsX2_empty : List Cond := .code yX2_empty cX2_empty 1 none :: ([.fieldLink RX2 15 "ZHeads$Row" "count" "I"] ++ wsX20)
def wsX2_copy : List Cond := .code yX2_copy cX2_copy 2 none :: ([.fieldLink RX2 9 "ZHeads$Row" "cells" "[I", .methodLink RX2 27 arraycopyName, .native arraycopyName, .static arraycopyName, .initialized "java/lang/System", .fieldLink RX2 15 "ZHeads$Row" "count" "I"] ++ wsX20)
def wsX3_init_r1 : List Cond := [Cond.methodLink RX3 1 objectInit, Cond.instanceMethod objectInit, Cond.code objectInit ⟨#[0xb1]⟩ 1 none, Cond.classLink RX3 7 RX2, Cond.instantiable RX2 2, Cond.initialized RX2, Cond.fieldLink RX3 10 "ZHeads" "file" "LZHeads$Row;", Cond.fieldLink RX3 16 "ZHeads" "memory" "LZHeads$Row;", Cond.classLink RX3 19 RX0, Cond.instantiable RX0 1, Cond.initialized RX0, Cond.fieldLink RX3 24 "ZHeads" "head" "LZHeads$Head;", Cond.fieldLink RX3 28 "ZHeads" "isRead" "Z", Cond.fieldLink RX3 32 "ZHeads" "brokenRule" "I", Cond.instanceMethod yX2_init, Cond.code yX2_init cX2_init 1 none, Cond.methodLink RX2 3 objectInit, Cond.arrayClass .int, Cond.fieldLink RX2 9 "ZHeads$Row" "cells" "[I", Cond.fieldLink RX2 15 "ZHeads$Row" "count" "I", Cond.methodLink RX3 21 yX0_init, Cond.instanceMethod yX0_init, Cond.code yX0_init cX0_init 2 none, Cond.methodLink RX0 3 objectInit]
def wsX3_init_r2 : List Cond := [Cond.fieldLink RX0 9 "ZHeads$Head" "row" "LZHeads$Row;"]
def wsX3_init : List Cond := .code yX3_init cX3_init 1 none :: ((wsX3_init_r1 ++ wsX3_init_r2) ++ wsX20 ++ wsX30 ++ wsX00)
def wsX3_isByte : List Cond := .code yX3_isByte cX3_isByte 1 (some .boolean) :: ([])
def wsX3_append : List Cond := .code yX3_append cX3_append 4 (some .int) :: ([.fieldLink RX3 10 "ZHeads" "file" "LZHeads$Row;", .fieldLink RX3 28 "ZHeads" "isRead" "Z", .methodLink RX3 44 yX2_room, .instanceMethod yX2_room, .selects RX2 yX2_room yX2_room, .initialized RX2, .code yX2_room cX2_room 1 (some .int), .fieldLink RX2 15 "ZHeads$Row" "count" "I", .methodLink RX3 50 yX2_add, .instanceMethod yX2_add, .selects RX2 yX2_add yX2_add, .code yX2_add cX2_add 2 none, .fieldLink RX2 9 "ZHeads$Row" "cells" "[I", .methodLink RX3 54 yX2_count, .instanceMethod yX2_count, .selects RX2 yX2_count yX2_count, .code yX2_count cX2_count 1 (some .int)] ++ wsX30 ++ wsX20 ++ (vx_atM "java/lang/ArrayIndexOutOfBoundsException" ["java/lang/IndexOutOfBoundsException", "java/lang/RuntimeException", "java/lang/Exception"]).filter goodWord)
def wsX3_octet_r1 : List Cond := [Cond.methodLink RX3 36 yX3_isByte, Cond.static yX3_isByte, Cond.initialized RX3, Cond.code yX3_isByte cX3_isByte 1 (some .boolean), Cond.methodLink RX3 40 yX3_append, Cond.instanceMethod yX3_append, Cond.selects RX3 yX3_append yX3_append, Cond.code yX3_append cX3_append 4 (some .int), Cond.fieldLink RX3 10 "ZHeads" "file" "LZHeads$Row;", Cond.fieldLink RX3 28 "ZHeads" "isRead" "Z", Cond.methodLink RX3 44 yX2_room, Cond.instanceMethod yX2_room, Cond.selects RX2 yX2_room yX2_room, Cond.initialized RX2, Cond.code yX2_room cX2_room 1 (some .int), Cond.fieldLink RX2 15 "ZHeads$Row" "count" "I", Cond.methodLink RX3 50 yX2_add, Cond.instanceMethod yX2_add, Cond.selects RX2 yX2_add yX2_add, Cond.code yX2_add cX2_add 2 none, Cond.fieldLink RX2 9 "ZHeads$Row" "cells" "[I", Cond.methodLink RX3 54 yX2_count, Cond.instanceMethod yX2_count, Cond.selects RX2 yX2_count yX2_count]
def wsX3_octet_r2 : List Cond := [Cond.code yX2_count cX2_count 1 (some .int)]
def wsX3_octet : List Cond := .code yX3_octet cX3_octet 2 (some .int) :: ((wsX3_octet_r1 ++ wsX3_octet_r2) ++ wsX30 ++ wsX20 ++ (vx_atM "java/lang/ArrayIndexOutOfBoundsException" ["java/lang/IndexOutOfBoundsException", "java/lang/RuntimeException", "java/lang/Exception"]).filter goodWord)
def wsX3_feed : List Cond := .code yX3_feed cX3_feed 5 (some .int) :: ([.fieldLink RX3 10 "ZHeads" "file" "LZHeads$Row;", .constantLong RX3 48 (255), .fieldLink RX3 28 "ZHeads" "isRead" "Z", .methodLink RX3 44 yX2_room, .instanceMethod yX2_room, .selects RX2 yX2_room yX2_room, .initialized RX2, .code yX2_room cX2_room 1 (some .int), .fieldLink RX2 15 "ZHeads$Row" "count" "I", .methodLink RX3 50 yX2_add, .instanceMethod yX2_add, .selects RX2 yX2_add yX2_add, .code yX2_add cX2_add 2 none, .fieldLink RX2 9 "ZHeads$Row" "cells" "[I", .methodLink RX3 54 yX2_count, .instanceMethod yX2_count, .selects RX2 yX2_count yX2_count, .code yX2_count cX2_count 1 (some .int)] ++ wsX30 ++ wsX20 ++ (vx_atM "java/lang/ArrayIndexOutOfBoundsException" ["java/lang/IndexOutOfBoundsException", "java/lang/RuntimeException", "java/lang/Exception"]).filter goodWord)
def wsX3_fill_r1 : List Cond := [Cond.methodLink RX3 36 yX3_isByte, Cond.static yX3_isByte, Cond.initialized RX3, Cond.code yX3_isByte cX3_isByte 1 (some .boolean), Cond.methodLink RX3 40 yX3_append, Cond.instanceMethod yX3_append, Cond.selects RX3 yX3_append yX3_append, Cond.code yX3_append cX3_append 4 (some .int), Cond.fieldLink RX3 10 "ZHeads" "file" "LZHeads$Row;", Cond.fieldLink RX3 28 "ZHeads" "isRead" "Z", Cond.methodLink RX3 44 yX2_room, Cond.instanceMethod yX2_room, Cond.selects RX2 yX2_room yX2_room, Cond.initialized RX2, Cond.code yX2_room cX2_room 1 (some .int), Cond.fieldLink RX2 15 "ZHeads$Row" "count" "I", Cond.methodLink RX3 50 yX2_add, Cond.instanceMethod yX2_add, Cond.selects RX2 yX2_add yX2_add, Cond.code yX2_add cX2_add 2 none, Cond.fieldLink RX2 9 "ZHeads$Row" "cells" "[I", Cond.methodLink RX3 54 yX2_count, Cond.instanceMethod yX2_count, Cond.selects RX2 yX2_count yX2_count]
def wsX3_fill_r2 : List Cond := [Cond.code yX2_count cX2_count 1 (some .int)]
def wsX3_fill : List Cond := .code yX3_fill cX3_fill 3 (some .int) :: ((wsX3_fill_r1 ++ wsX3_fill_r2) ++ wsX30 ++ wsX20 ++ (vx_atM "java/lang/ArrayIndexOutOfBoundsException" ["java/lang/IndexOutOfBoundsException", "java/lang/RuntimeException", "java/lang/Exception"]).filter goodWord)
def wsX3_poke : List Cond := .code yX3_poke cX3_poke 4 (some .int) :: ([.fieldLink RX3 10 "ZHeads" "file" "LZHeads$Row;", .fieldLink RX3 28 "ZHeads" "isRead" "Z", .methodLink RX3 57 yX2_has, .instanceMethod yX2_has, .selects RX2 yX2_has yX2_has, .initialized RX2, .code yX2_has cX2_has 2 (some .boolean), .fieldLink RX2 15 "ZHeads$Row" "count" "I", .fieldLink RX2 9 "ZHeads$Row" "cells" "[I", .methodLink RX3 36 yX3_isByte, .static yX3_isByte, .initialized RX3, .code yX3_isByte cX3_isByte 1 (some .boolean), .methodLink RX3 60 yX2_at, .instanceMethod yX2_at, .selects RX2 yX2_at yX2_at, .code yX2_at cX2_at 2 (some .int), .methodLink RX3 64 yX2_put, .instanceMethod yX2_put, .selects RX2 yX2_put yX2_put, .code yX2_put cX2_put 3 none, .methodLink RX2 19 yX2_has] ++ wsX30 ++ wsX20 ++ (vx_atM "java/lang/ArrayIndexOutOfBoundsException" ["java/lang/IndexOutOfBoundsException", "java/lang/RuntimeException", "java/lang/Exception"]).filter goodWord)
def wsX3_clear : List Cond := .code yX3_clear cX3_clear 2 (some .int) :: ([.fieldLink RX3 10 "ZHeads" "file" "LZHeads$Row;", .fieldLink RX3 28 "ZHeads" "isRead" "Z", .fieldLink RX3 32 "ZHeads" "brokenRule" "I", .methodLink RX3 54 yX2_count, .instanceMethod yX2_count, .selects RX2 yX2_count yX2_count, .initialized RX2, .code yX2_count cX2_count 1 (some .int), .fieldLink RX2 15 "ZHeads$Row" "count" "I", .methodLink RX3 68 yX2_empty, .instanceMethod yX2_empty, .selects RX2 yX2_empty yX2_empty, .code yX2_empty cX2_empty 1 none] ++ wsX30 ++ wsX20)
def wsX3_read_r1 : List Cond := [Cond.fieldLink RX3 32 "ZHeads" "brokenRule" "I", Cond.fieldLink RX3 24 "ZHeads" "head" "LZHeads$Head;", Cond.fieldLink RX3 28 "ZHeads" "isRead" "Z", Cond.fieldLink RX3 16 "ZHeads" "memory" "LZHeads$Row;", Cond.fieldLink RX3 10 "ZHeads" "file" "LZHeads$Row;", Cond.methodLink RX3 71 yX0_holds, Cond.instanceMethod yX0_holds, Cond.selects RX0 yX0_holds yX0_holds, Cond.initialized RX0, Cond.code yX0_holds cX0_holds 2 (some .boolean), Cond.fieldLink RX0 9 "ZHeads$Head" "row" "LZHeads$Row;", Cond.methodLink RX0 82 yX2_has, Cond.instanceMethod yX2_has, Cond.selects RX2 yX2_has yX2_has, Cond.initialized RX2, Cond.code yX2_has cX2_has 2 (some .boolean), Cond.fieldLink RX2 15 "ZHeads$Row" "count" "I", Cond.fieldLink RX2 9 "ZHeads$Row" "cells" "[I", Cond.methodLink RX0 21 yX0_version, Cond.instanceMethod yX0_version, Cond.selects RX0 yX0_version yX0_version, Cond.code yX0_version cX0_version 1 (some .int), Cond.methodLink RX0 15 yX2_at, Cond.instanceMethod yX2_at]
def wsX3_read_r2 : List Cond := [Cond.selects RX2 yX2_at yX2_at, Cond.code yX2_at cX2_at 2 (some .int), Cond.methodLink RX0 86 yX0_isWithin, Cond.static yX0_isWithin, Cond.code yX0_isWithin cX0_isWithin 3 (some .boolean), Cond.methodLink RX0 28 yX2_count, Cond.instanceMethod yX2_count, Cond.selects RX2 yX2_count yX2_count, Cond.code yX2_count cX2_count 1 (some .int), Cond.methodLink RX0 43 yX0_length, Cond.instanceMethod yX0_length, Cond.selects RX0 yX0_length yX0_length, Cond.code yX0_length cX0_length 2 (some .int), Cond.methodLink RX0 25 yX2_two, Cond.instanceMethod yX2_two, Cond.selects RX2 yX2_two yX2_two, Cond.code yX2_two cX2_two 2 (some .int), Cond.methodLink RX0 31 yX0_scale, Cond.instanceMethod yX0_scale, Cond.selects RX0 yX0_scale yX0_scale, Cond.code yX0_scale cX0_scale 2 (some .int), Cond.methodLink RX0 46 yX0_staticFrom, Cond.instanceMethod yX0_staticFrom, Cond.selects RX0 yX0_staticFrom yX0_staticFrom]
def wsX3_read_r3 : List Cond := [Cond.code yX0_staticFrom cX0_staticFrom 1 (some .int), Cond.methodLink RX0 49 yX0_high, Cond.instanceMethod yX0_high, Cond.selects RX0 yX0_high yX0_high, Cond.code yX0_high cX0_high 1 (some .int), Cond.methodLink RX0 52 yX0_globals, Cond.instanceMethod yX0_globals, Cond.selects RX0 yX0_globals yX0_globals, Cond.code yX0_globals cX0_globals 1 (some .int), Cond.methodLink RX0 90 yX0_fits, Cond.static yX0_fits, Cond.code yX0_fits cX0_fits 3 (some .boolean), Cond.methodLink RX0 55 yX0_objects, Cond.instanceMethod yX0_objects, Cond.selects RX0 yX0_objects yX0_objects, Cond.code yX0_objects cX0_objects 1 (some .int), Cond.methodLink RX0 93 yX0_wordsHold, Cond.instanceMethod yX0_wordsHold, Cond.selects RX0 yX0_wordsHold yX0_wordsHold, Cond.code yX0_wordsHold cX0_wordsHold 6 (some .boolean), Cond.methodLink RX0 106 Lib.Math.abs.name, Cond.static Lib.Math.abs.name, Cond.initialized "java/lang/Math", Cond.code Lib.Math.abs.name Lib.Math.abs.code 1 (some .int)]
def wsX3_read_r4 : List Cond := [Cond.methodLink RX0 34 yX0_words, Cond.instanceMethod yX0_words, Cond.selects RX0 yX0_words yX0_words, Cond.code yX0_words cX0_words 1 (some .int), Cond.methodLink RX0 58 yX0_shorts, Cond.instanceMethod yX0_shorts, Cond.selects RX0 yX0_shorts yX0_shorts, Cond.code yX0_shorts cX0_shorts 1 (some .int), Cond.methodLink RX0 61 yX0_start, Cond.instanceMethod yX0_start, Cond.selects RX0 yX0_start yX0_start, Cond.code yX0_start cX0_start 1 (some .int), Cond.methodLink RX0 64 yX0_letters, Cond.instanceMethod yX0_letters, Cond.selects RX0 yX0_letters yX0_letters, Cond.code yX0_letters cX0_letters 1 (some .int), Cond.methodLink RX0 67 yX0_ends, Cond.instanceMethod yX0_ends, Cond.selects RX0 yX0_ends yX0_ends, Cond.code yX0_ends cX0_ends 1 (some .int), Cond.methodLink RX0 97 yX0_endsHold, Cond.instanceMethod yX0_endsHold, Cond.selects RX0 yX0_endsHold yX0_endsHold, Cond.code yX0_endsHold cX0_endsHold 4 (some .boolean)]
def wsX3_read_r5 : List Cond := [Cond.methodLink RX0 40 yX0_more, Cond.instanceMethod yX0_more, Cond.selects RX0 yX0_more yX0_more, Cond.code yX0_more cX0_more 1 (some .int), Cond.methodLink RX0 100 yX0_moreHolds, Cond.instanceMethod yX0_moreHolds, Cond.selects RX0 yX0_moreHolds yX0_moreHolds, Cond.code yX0_moreHolds cX0_moreHolds 2 (some .boolean), Cond.methodLink RX0 70 yX0_moreWords, Cond.instanceMethod yX0_moreWords, Cond.selects RX0 yX0_moreWords yX0_moreWords, Cond.code yX0_moreWords cX0_moreWords 2 (some .int), Cond.methodLink RX0 73 yX0_thirdWord, Cond.instanceMethod yX0_thirdWord, Cond.selects RX0 yX0_thirdWord yX0_thirdWord, Cond.code yX0_thirdWord cX0_thirdWord 2 (some .int), Cond.methodLink RX0 103 yX0_thirdHolds, Cond.instanceMethod yX0_thirdHolds, Cond.selects RX0 yX0_thirdHolds yX0_thirdHolds, Cond.code yX0_thirdHolds cX0_thirdHolds 3 (some .boolean), Cond.methodLink RX3 74 yX0_placeOf, Cond.instanceMethod yX0_placeOf, Cond.selects RX0 yX0_placeOf yX0_placeOf, Cond.code yX0_placeOf cX0_placeOf 2 (some .int)]
def wsX3_read_r6 : List Cond := [Cond.methodLink RX3 77 yX2_copy, Cond.instanceMethod yX2_copy, Cond.selects RX2 yX2_copy yX2_copy, Cond.code yX2_copy cX2_copy 2 none, Cond.methodLink RX2 27 arraycopyName, Cond.native arraycopyName, Cond.static arraycopyName, Cond.initialized "java/lang/System", Cond.methodLink RX3 80 yX0_version]
def wsX3_read : List Cond := .code yX3_read cX3_read 2 (some .int) :: ((wsX3_read_r1 ++ (wsX3_read_r2 ++ (wsX3_read_r3 ++ (wsX3_read_r4 ++ (wsX3_read_r5 ++ wsX3_read_r6))))) ++ wsX30 ++ wsX00 ++ wsX20 ++ (vx_atM "java/lang/ArrayIndexOutOfBoundsException" ["java/lang/IndexOutOfBoundsException", "java/lang/RuntimeException", "java/lang/Exception"]).filter goodWord)
def wsX3_rule : List Cond := .code yX3_rule cX3_rule 1 (some .int) :: ([.fieldLink RX3 32 "ZHeads" "brokenRule" "I"] ++ wsX30)
def wsX3_field_r1 : List Cond := [Cond.fieldLink RX3 28 "ZHeads" "isRead" "Z", Cond.fieldLink RX3 24 "ZHeads" "head" "LZHeads$Head;", Cond.methodLink RX3 83 yX0_term, Cond.instanceMethod yX0_term, Cond.selects RX0 yX0_term yX0_term, Cond.initialized RX0, Cond.code yX0_term cX0_term 2 (some .int), Cond.fieldLink RX0 9 "ZHeads$Head" "row" "LZHeads$Row;", Cond.methodLink RX0 21 yX0_version, Cond.instanceMethod yX0_version, Cond.selects RX0 yX0_version yX0_version, Cond.code yX0_version cX0_version 1 (some .int), Cond.methodLink RX0 15 yX2_at, Cond.instanceMethod yX2_at, Cond.selects RX2 yX2_at yX2_at, Cond.initialized RX2, Cond.code yX2_at cX2_at 2 (some .int), Cond.fieldLink RX2 15 "ZHeads$Row" "count" "I", Cond.fieldLink RX2 9 "ZHeads$Row" "cells" "[I", Cond.methodLink RX0 43 yX0_length, Cond.instanceMethod yX0_length, Cond.selects RX0 yX0_length yX0_length, Cond.code yX0_length cX0_length 2 (some .int), Cond.methodLink RX0 25 yX2_two]
def wsX3_field_r2 : List Cond := [Cond.instanceMethod yX2_two, Cond.selects RX2 yX2_two yX2_two, Cond.code yX2_two cX2_two 2 (some .int), Cond.methodLink RX0 28 yX2_count, Cond.instanceMethod yX2_count, Cond.selects RX2 yX2_count yX2_count, Cond.code yX2_count cX2_count 1 (some .int), Cond.methodLink RX0 31 yX0_scale, Cond.instanceMethod yX0_scale, Cond.selects RX0 yX0_scale yX0_scale, Cond.code yX0_scale cX0_scale 2 (some .int), Cond.methodLink RX0 46 yX0_staticFrom, Cond.instanceMethod yX0_staticFrom, Cond.selects RX0 yX0_staticFrom yX0_staticFrom, Cond.code yX0_staticFrom cX0_staticFrom 1 (some .int), Cond.methodLink RX0 49 yX0_high, Cond.instanceMethod yX0_high, Cond.selects RX0 yX0_high yX0_high, Cond.code yX0_high cX0_high 1 (some .int), Cond.methodLink RX0 52 yX0_globals, Cond.instanceMethod yX0_globals, Cond.selects RX0 yX0_globals yX0_globals, Cond.code yX0_globals cX0_globals 1 (some .int), Cond.methodLink RX0 55 yX0_objects]
def wsX3_field_r3 : List Cond := [Cond.instanceMethod yX0_objects, Cond.selects RX0 yX0_objects yX0_objects, Cond.code yX0_objects cX0_objects 1 (some .int), Cond.methodLink RX0 34 yX0_words, Cond.instanceMethod yX0_words, Cond.selects RX0 yX0_words yX0_words, Cond.code yX0_words cX0_words 1 (some .int), Cond.methodLink RX0 58 yX0_shorts, Cond.instanceMethod yX0_shorts, Cond.selects RX0 yX0_shorts yX0_shorts, Cond.code yX0_shorts cX0_shorts 1 (some .int), Cond.methodLink RX0 61 yX0_start, Cond.instanceMethod yX0_start, Cond.selects RX0 yX0_start yX0_start, Cond.code yX0_start cX0_start 1 (some .int), Cond.methodLink RX0 64 yX0_letters, Cond.instanceMethod yX0_letters, Cond.selects RX0 yX0_letters yX0_letters, Cond.code yX0_letters cX0_letters 1 (some .int), Cond.methodLink RX0 67 yX0_ends, Cond.instanceMethod yX0_ends, Cond.selects RX0 yX0_ends yX0_ends, Cond.code yX0_ends cX0_ends 1 (some .int), Cond.methodLink RX0 70 yX0_moreWords]
def wsX3_field_r4 : List Cond := [Cond.instanceMethod yX0_moreWords, Cond.selects RX0 yX0_moreWords yX0_moreWords, Cond.code yX0_moreWords cX0_moreWords 2 (some .int), Cond.methodLink RX0 40 yX0_more, Cond.instanceMethod yX0_more, Cond.selects RX0 yX0_more yX0_more, Cond.code yX0_more cX0_more 1 (some .int), Cond.methodLink RX0 73 yX0_thirdWord, Cond.instanceMethod yX0_thirdWord, Cond.selects RX0 yX0_thirdWord yX0_thirdWord, Cond.code yX0_thirdWord cX0_thirdWord 2 (some .int), Cond.methodLink RX0 76 yX0_entries, Cond.instanceMethod yX0_entries, Cond.selects RX0 yX0_entries yX0_entries, Cond.code yX0_entries cX0_entries 1 (some .int), Cond.methodLink RX0 37 yX0_signs, Cond.instanceMethod yX0_signs, Cond.selects RX0 yX0_signs yX0_signs, Cond.code yX0_signs cX0_signs 1 (some .int), Cond.methodLink RX0 79 yX0_entryBytes, Cond.instanceMethod yX0_entryBytes, Cond.selects RX0 yX0_entryBytes yX0_entryBytes, Cond.code yX0_entryBytes cX0_entryBytes 1 (some .int)]
def wsX3_field : List Cond := .code yX3_field cX3_field 2 (some .int) :: ((wsX3_field_r1 ++ (wsX3_field_r2 ++ (wsX3_field_r3 ++ wsX3_field_r4))) ++ wsX30 ++ wsX00 ++ wsX20 ++ (vx_atM "java/lang/ArrayIndexOutOfBoundsException" ["java/lang/IndexOutOfBoundsException", "java/lang/RuntimeException", "java/lang/Exception"]).filter goodWord)
def wsX3_serial : List Cond := .code yX3_serial cX3_serial 2 (some .int) :: ([.fieldLink RX3 28 "ZHeads" "isRead" "Z", .classLink RX3 86 RJx00060, .instantiable RJx00060 6, .initialized RJx00060, .fieldLink RX3 16 "ZHeads" "memory" "LZHeads$Row;", .methodLink RX3 60 yX2_at, .instanceMethod yX2_at, .selects RX2 yX2_at yX2_at, .initialized RX2, .code yX2_at cX2_at 2 (some .int), .fieldLink RX2 15 "ZHeads$Row" "count" "I", .fieldLink RX2 9 "ZHeads$Row" "cells" "[I"] ++ wsX30 ++ wsJx000600 ++ wsX20 ++ (vx_atM "java/lang/ArrayIndexOutOfBoundsException" ["java/lang/IndexOutOfBoundsException", "java/lang/RuntimeException", "java/lang/Exception"]).filter goodWord)
def wsX3_global : List Cond := .code yX3_global cX3_global 2 (some .int) :: ([.fieldLink RX3 28 "ZHeads" "isRead" "Z", .classLink RX3 86 RJx00060, .instantiable RJx00060 6, .initialized RJx00060, .fieldLink RX3 16 "ZHeads" "memory" "LZHeads$Row;", .fieldLink RX3 24 "ZHeads" "head" "LZHeads$Head;", .methodLink RX3 95 yX0_globals, .instanceMethod yX0_globals, .selects RX0 yX0_globals yX0_globals, .initialized RX0, .code yX0_globals cX0_globals 1 (some .int), .fieldLink RX0 9 "ZHeads$Head" "row" "LZHeads$Row;", .methodLink RX0 25 yX2_two, .instanceMethod yX2_two, .selects RX2 yX2_two yX2_two, .initialized RX2, .code yX2_two cX2_two 2 (some .int), .fieldLink RX2 15 "ZHeads$Row" "count" "I", .fieldLink RX2 9 "ZHeads$Row" "cells" "[I", .methodLink RX3 98 yX2_two] ++ wsX30 ++ wsJx000600 ++ wsX00 ++ wsX20 ++ (vx_atM "java/lang/ArrayIndexOutOfBoundsException" ["java/lang/IndexOutOfBoundsException", "java/lang/RuntimeException", "java/lang/Exception"]).filter goodWord)
def wsX3_load : List Cond := .code yX3_load cX3_load 2 (some .int) :: ([.fieldLink RX3 28 "ZHeads" "isRead" "Z", .fieldLink RX3 16 "ZHeads" "memory" "LZHeads$Row;", .classLink RX3 86 RJx00060, .instantiable RJx00060 6, .initialized RJx00060, .methodLink RX3 57 yX2_has, .instanceMethod yX2_has, .selects RX2 yX2_has yX2_has, .initialized RX2, .code yX2_has cX2_has 2 (some .boolean), .fieldLink RX2 15 "ZHeads$Row" "count" "I", .fieldLink RX2 9 "ZHeads$Row" "cells" "[I", .methodLink RX3 60 yX2_at, .instanceMethod yX2_at, .selects RX2 yX2_at yX2_at, .code yX2_at cX2_at 2 (some .int)] ++ wsX30 ++ wsJx000600 ++ wsX20 ++ (vx_atM "java/lang/ArrayIndexOutOfBoundsException" ["java/lang/IndexOutOfBoundsException", "java/lang/RuntimeException", "java/lang/Exception"]).filter goodWord)
def wsX3_store_r1 : List Cond := [Cond.fieldLink RX3 28 "ZHeads" "isRead" "Z", Cond.fieldLink RX3 24 "ZHeads" "head" "LZHeads$Head;", Cond.fieldLink RX3 16 "ZHeads" "memory" "LZHeads$Row;", Cond.methodLink RX3 103 yX0_staticFrom, Cond.instanceMethod yX0_staticFrom, Cond.selects RX0 yX0_staticFrom yX0_staticFrom, Cond.initialized RX0, Cond.code yX0_staticFrom cX0_staticFrom 1 (some .int), Cond.fieldLink RX0 9 "ZHeads$Head" "row" "LZHeads$Row;", Cond.methodLink RX0 25 yX2_two, Cond.instanceMethod yX2_two, Cond.selects RX2 yX2_two yX2_two, Cond.initialized RX2, Cond.code yX2_two cX2_two 2 (some .int), Cond.fieldLink RX2 15 "ZHeads$Row" "count" "I", Cond.fieldLink RX2 9 "ZHeads$Row" "cells" "[I", Cond.methodLink RX3 60 yX2_at, Cond.instanceMethod yX2_at, Cond.selects RX2 yX2_at yX2_at, Cond.code yX2_at cX2_at 2 (some .int), Cond.methodLink RX3 64 yX2_put, Cond.instanceMethod yX2_put, Cond.selects RX2 yX2_put yX2_put, Cond.code yX2_put cX2_put 3 none]
def wsX3_store_r2 : List Cond := [Cond.methodLink RX2 19 yX2_has, Cond.instanceMethod yX2_has, Cond.selects RX2 yX2_has yX2_has, Cond.code yX2_has cX2_has 2 (some .boolean)]
def wsX3_store : List Cond := .code yX3_store cX3_store 4 (some .int) :: ((wsX3_store_r1 ++ wsX3_store_r2) ++ wsX30 ++ wsX00 ++ wsX20 ++ (vx_atM "java/lang/ArrayIndexOutOfBoundsException" ["java/lang/IndexOutOfBoundsException", "java/lang/RuntimeException", "java/lang/Exception"]).filter goodWord)
def wsX3_isTwo : List Cond := .code yX3_isTwo cX3_isTwo 1 (some .boolean) :: ([.constant RX3 173 (65535)])
def wsX3_packed_r1 : List Cond := [Cond.fieldLink RX3 28 "ZHeads" "isRead" "Z", Cond.fieldLink RX3 24 "ZHeads" "head" "LZHeads$Head;", Cond.methodLink RX3 106 yX3_isTwo, Cond.static yX3_isTwo, Cond.initialized RX3, Cond.code yX3_isTwo cX3_isTwo 1 (some .boolean), Cond.constant RX3 173 (65535), Cond.methodLink RX3 109 yX0_unpacked, Cond.instanceMethod yX0_unpacked, Cond.selects RX0 yX0_unpacked yX0_unpacked, Cond.initialized RX0, Cond.code yX0_unpacked cX0_unpacked 4 (some .int), Cond.fieldLink RX0 9 "ZHeads$Head" "row" "LZHeads$Row;", Cond.methodLink RX0 21 yX0_version, Cond.instanceMethod yX0_version, Cond.selects RX0 yX0_version yX0_version, Cond.code yX0_version cX0_version 1 (some .int), Cond.methodLink RX0 15 yX2_at, Cond.instanceMethod yX2_at, Cond.selects RX2 yX2_at yX2_at, Cond.initialized RX2, Cond.code yX2_at cX2_at 2 (some .int), Cond.fieldLink RX2 15 "ZHeads$Row" "count" "I", Cond.fieldLink RX2 9 "ZHeads$Row" "cells" "[I"]
def wsX3_packed_r2 : List Cond := [Cond.methodLink RX0 25 yX2_two, Cond.instanceMethod yX2_two, Cond.selects RX2 yX2_two yX2_two, Cond.code yX2_two cX2_two 2 (some .int)]
def wsX3_packed : List Cond := .code yX3_packed cX3_packed 3 (some .int) :: ((wsX3_packed_r1 ++ wsX3_packed_r2) ++ wsX30 ++ wsX00 ++ wsX20 ++ (vx_atM "java/lang/ArrayIndexOutOfBoundsException" ["java/lang/IndexOutOfBoundsException", "java/lang/RuntimeException", "java/lang/Exception"]).filter goodWord)
def wsX3_first_r1 : List Cond := [Cond.fieldLink RX3 28 "ZHeads" "isRead" "Z", Cond.fieldLink RX3 24 "ZHeads" "head" "LZHeads$Head;", Cond.fieldLink RX3 16 "ZHeads" "memory" "LZHeads$Row;", Cond.classLink RX3 86 RJx00060, Cond.instantiable RJx00060 6, Cond.initialized RJx00060, Cond.methodLink RX3 106 yX3_isTwo, Cond.static yX3_isTwo, Cond.initialized RX3, Cond.code yX3_isTwo cX3_isTwo 1 (some .boolean), Cond.constant RX3 173 (65535), Cond.methodLink RX3 109 yX0_unpacked, Cond.instanceMethod yX0_unpacked, Cond.selects RX0 yX0_unpacked yX0_unpacked, Cond.initialized RX0, Cond.code yX0_unpacked cX0_unpacked 4 (some .int), Cond.fieldLink RX0 9 "ZHeads$Head" "row" "LZHeads$Row;", Cond.methodLink RX0 21 yX0_version, Cond.instanceMethod yX0_version, Cond.selects RX0 yX0_version yX0_version, Cond.code yX0_version cX0_version 1 (some .int), Cond.methodLink RX0 15 yX2_at, Cond.instanceMethod yX2_at, Cond.selects RX2 yX2_at yX2_at]
def wsX3_first_r2 : List Cond := [Cond.initialized RX2, Cond.code yX2_at cX2_at 2 (some .int), Cond.fieldLink RX2 15 "ZHeads$Row" "count" "I", Cond.fieldLink RX2 9 "ZHeads$Row" "cells" "[I", Cond.methodLink RX0 25 yX2_two, Cond.instanceMethod yX2_two, Cond.selects RX2 yX2_two yX2_two, Cond.code yX2_two cX2_two 2 (some .int), Cond.methodLink RX3 57 yX2_has, Cond.instanceMethod yX2_has, Cond.selects RX2 yX2_has yX2_has, Cond.code yX2_has cX2_has 2 (some .boolean), Cond.methodLink RX3 60 yX2_at]
def wsX3_first : List Cond := .code yX3_first cX3_first 4 (some .int) :: ((wsX3_first_r1 ++ wsX3_first_r2) ++ wsX30 ++ wsJx000600 ++ wsX00 ++ wsX20 ++ (vx_atM "java/lang/ArrayIndexOutOfBoundsException" ["java/lang/IndexOutOfBoundsException", "java/lang/RuntimeException", "java/lang/Exception"]).filter goodWord)
def wsX3_sumAsRead_r1 : List Cond := [Cond.fieldLink RX3 24 "ZHeads" "head" "LZHeads$Head;", Cond.fieldLink RX3 10 "ZHeads" "file" "LZHeads$Row;", Cond.constant RX3 173 (65535), Cond.methodLink RX3 170 yX0_length, Cond.instanceMethod yX0_length, Cond.selects RX0 yX0_length yX0_length, Cond.initialized RX0, Cond.code yX0_length cX0_length 2 (some .int), Cond.fieldLink RX0 9 "ZHeads$Head" "row" "LZHeads$Row;", Cond.methodLink RX0 25 yX2_two, Cond.instanceMethod yX2_two, Cond.selects RX2 yX2_two yX2_two, Cond.initialized RX2, Cond.code yX2_two cX2_two 2 (some .int), Cond.fieldLink RX2 15 "ZHeads$Row" "count" "I", Cond.fieldLink RX2 9 "ZHeads$Row" "cells" "[I", Cond.methodLink RX0 21 yX0_version, Cond.instanceMethod yX0_version, Cond.selects RX0 yX0_version yX0_version, Cond.code yX0_version cX0_version 1 (some .int), Cond.methodLink RX0 15 yX2_at, Cond.instanceMethod yX2_at, Cond.selects RX2 yX2_at yX2_at, Cond.code yX2_at cX2_at 2 (some .int)]
def wsX3_sumAsRead_r2 : List Cond := [Cond.methodLink RX0 28 yX2_count, Cond.instanceMethod yX2_count, Cond.selects RX2 yX2_count yX2_count, Cond.code yX2_count cX2_count 1 (some .int), Cond.methodLink RX0 31 yX0_scale, Cond.instanceMethod yX0_scale, Cond.selects RX0 yX0_scale yX0_scale, Cond.code yX0_scale cX0_scale 2 (some .int), Cond.methodLink RX3 60 yX2_at]
def wsX3_sumAsRead : List Cond := .code yX3_sumAsRead cX3_sumAsRead 4 (some .int) :: ((wsX3_sumAsRead_r1 ++ wsX3_sumAsRead_r2) ++ wsX30 ++ wsX00 ++ wsX20 ++ (vx_atM "java/lang/ArrayIndexOutOfBoundsException" ["java/lang/IndexOutOfBoundsException", "java/lang/RuntimeException", "java/lang/Exception"]).filter goodWord)
def wsX3_sum_r1 : List Cond := [Cond.fieldLink RX3 28 "ZHeads" "isRead" "Z", Cond.methodLink RX3 115 yX3_sumAsRead, Cond.instanceMethod yX3_sumAsRead, Cond.selects RX3 yX3_sumAsRead yX3_sumAsRead, Cond.initialized RX3, Cond.code yX3_sumAsRead cX3_sumAsRead 4 (some .int), Cond.fieldLink RX3 24 "ZHeads" "head" "LZHeads$Head;", Cond.fieldLink RX3 10 "ZHeads" "file" "LZHeads$Row;", Cond.constant RX3 173 (65535), Cond.methodLink RX3 170 yX0_length, Cond.instanceMethod yX0_length, Cond.selects RX0 yX0_length yX0_length, Cond.initialized RX0, Cond.code yX0_length cX0_length 2 (some .int), Cond.fieldLink RX0 9 "ZHeads$Head" "row" "LZHeads$Row;", Cond.methodLink RX0 25 yX2_two, Cond.instanceMethod yX2_two, Cond.selects RX2 yX2_two yX2_two, Cond.initialized RX2, Cond.code yX2_two cX2_two 2 (some .int), Cond.fieldLink RX2 15 "ZHeads$Row" "count" "I", Cond.fieldLink RX2 9 "ZHeads$Row" "cells" "[I", Cond.methodLink RX0 21 yX0_version, Cond.instanceMethod yX0_version]
def wsX3_sum_r2 : List Cond := [Cond.selects RX0 yX0_version yX0_version, Cond.code yX0_version cX0_version 1 (some .int), Cond.methodLink RX0 15 yX2_at, Cond.instanceMethod yX2_at, Cond.selects RX2 yX2_at yX2_at, Cond.code yX2_at cX2_at 2 (some .int), Cond.methodLink RX0 28 yX2_count, Cond.instanceMethod yX2_count, Cond.selects RX2 yX2_count yX2_count, Cond.code yX2_count cX2_count 1 (some .int), Cond.methodLink RX0 31 yX0_scale, Cond.instanceMethod yX0_scale, Cond.selects RX0 yX0_scale yX0_scale, Cond.code yX0_scale cX0_scale 2 (some .int), Cond.methodLink RX3 60 yX2_at]
def wsX3_sum : List Cond := .code yX3_sum cX3_sum 1 (some .int) :: ((wsX3_sum_r1 ++ wsX3_sum_r2) ++ wsX30 ++ wsX00 ++ wsX20 ++ (vx_atM "java/lang/ArrayIndexOutOfBoundsException" ["java/lang/IndexOutOfBoundsException", "java/lang/RuntimeException", "java/lang/Exception"]).filter goodWord)
def wsX3_agrees_r1 : List Cond := [Cond.fieldLink RX3 28 "ZHeads" "isRead" "Z", Cond.fieldLink RX3 10 "ZHeads" "file" "LZHeads$Row;", Cond.methodLink RX3 115 yX3_sumAsRead, Cond.instanceMethod yX3_sumAsRead, Cond.selects RX3 yX3_sumAsRead yX3_sumAsRead, Cond.initialized RX3, Cond.code yX3_sumAsRead cX3_sumAsRead 4 (some .int), Cond.fieldLink RX3 24 "ZHeads" "head" "LZHeads$Head;", Cond.constant RX3 173 (65535), Cond.methodLink RX3 170 yX0_length, Cond.instanceMethod yX0_length, Cond.selects RX0 yX0_length yX0_length, Cond.initialized RX0, Cond.code yX0_length cX0_length 2 (some .int), Cond.fieldLink RX0 9 "ZHeads$Head" "row" "LZHeads$Row;", Cond.methodLink RX0 25 yX2_two, Cond.instanceMethod yX2_two, Cond.selects RX2 yX2_two yX2_two, Cond.initialized RX2, Cond.code yX2_two cX2_two 2 (some .int), Cond.fieldLink RX2 15 "ZHeads$Row" "count" "I", Cond.fieldLink RX2 9 "ZHeads$Row" "cells" "[I", Cond.methodLink RX0 21 yX0_version, Cond.instanceMethod yX0_version]
def wsX3_agrees_r2 : List Cond := [Cond.selects RX0 yX0_version yX0_version, Cond.code yX0_version cX0_version 1 (some .int), Cond.methodLink RX0 15 yX2_at, Cond.instanceMethod yX2_at, Cond.selects RX2 yX2_at yX2_at, Cond.code yX2_at cX2_at 2 (some .int), Cond.methodLink RX0 28 yX2_count, Cond.instanceMethod yX2_count, Cond.selects RX2 yX2_count yX2_count, Cond.code yX2_count cX2_count 1 (some .int), Cond.methodLink RX0 31 yX0_scale, Cond.instanceMethod yX0_scale, Cond.selects RX0 yX0_scale yX0_scale, Cond.code yX0_scale cX0_scale 2 (some .int), Cond.methodLink RX3 60 yX2_at, Cond.methodLink RX3 98 yX2_two]
def wsX3_agrees : List Cond := .code yX3_agrees cX3_agrees 1 (some .int) :: ((wsX3_agrees_r1 ++ wsX3_agrees_r2) ++ wsX30 ++ wsX00 ++ wsX20 ++ (vx_atM "java/lang/ArrayIndexOutOfBoundsException" ["java/lang/IndexOutOfBoundsException", "java/lang/RuntimeException", "java/lang/Exception"]).filter goodWord)
def wsX3_flagBit : List Cond := .code yX3_flagBit cX3_flagBit 4 (some .int) :: ([.fieldLink RX3 16 "ZHeads" "memory" "LZHeads$Row;", .methodLink RX3 60 yX2_at, .instanceMethod yX2_at, .selects RX2 yX2_at yX2_at, .initialized RX2, .code yX2_at cX2_at 2 (some .int), .fieldLink RX2 15 "ZHeads$Row" "count" "I", .fieldLink RX2 9 "ZHeads$Row" "cells" "[I", .methodLink RX3 98 yX2_two, .instanceMethod yX2_two, .selects RX2 yX2_two yX2_two, .code yX2_two cX2_two 2 (some .int)] ++ wsX30 ++ wsX20 ++ (vx_atM "java/lang/ArrayIndexOutOfBoundsException" ["java/lang/IndexOutOfBoundsException", "java/lang/RuntimeException", "java/lang/Exception"]).filter goodWord)
def wsX3_switchFlag_r1 : List Cond := [Cond.fieldLink RX3 16 "ZHeads" "memory" "LZHeads$Row;", Cond.methodLink RX3 60 yX2_at, Cond.instanceMethod yX2_at, Cond.selects RX2 yX2_at yX2_at, Cond.initialized RX2, Cond.code yX2_at cX2_at 2 (some .int), Cond.fieldLink RX2 15 "ZHeads$Row" "count" "I", Cond.fieldLink RX2 9 "ZHeads$Row" "cells" "[I", Cond.methodLink RX3 98 yX2_two, Cond.instanceMethod yX2_two, Cond.selects RX2 yX2_two yX2_two, Cond.code yX2_two cX2_two 2 (some .int), Cond.methodLink RX3 64 yX2_put, Cond.instanceMethod yX2_put, Cond.selects RX2 yX2_put yX2_put, Cond.code yX2_put cX2_put 3 none, Cond.methodLink RX2 19 yX2_has, Cond.instanceMethod yX2_has, Cond.selects RX2 yX2_has yX2_has, Cond.code yX2_has cX2_has 2 (some .boolean), Cond.methodLink RX3 148 yX2_putTwo, Cond.instanceMethod yX2_putTwo, Cond.selects RX2 yX2_putTwo yX2_putTwo, Cond.code yX2_putTwo cX2_putTwo 3 none]
def wsX3_switchFlag_r2 : List Cond := [Cond.methodLink RX2 23 yX2_put]
def wsX3_switchFlag : List Cond := .code yX3_switchFlag cX3_switchFlag 6 none :: ((wsX3_switchFlag_r1 ++ wsX3_switchFlag_r2) ++ wsX30 ++ wsX20 ++ (vx_atM "java/lang/ArrayIndexOutOfBoundsException" ["java/lang/IndexOutOfBoundsException", "java/lang/RuntimeException", "java/lang/Exception"]).filter goodWord)
def wsX3_flag_r1 : List Cond := [Cond.fieldLink RX3 28 "ZHeads" "isRead" "Z", Cond.fieldLink RX3 24 "ZHeads" "head" "LZHeads$Head;", Cond.methodLink RX3 118 yX1_isFlag, Cond.static yX1_isFlag, Cond.initialized RX1, Cond.code yX1_isFlag cX1_isFlag 2 (some .boolean), Cond.methodLink RX3 80 yX0_version, Cond.instanceMethod yX0_version, Cond.selects RX0 yX0_version yX0_version, Cond.initialized RX0, Cond.code yX0_version cX0_version 1 (some .int), Cond.fieldLink RX0 9 "ZHeads$Head" "row" "LZHeads$Row;", Cond.methodLink RX0 15 yX2_at, Cond.instanceMethod yX2_at, Cond.selects RX2 yX2_at yX2_at, Cond.initialized RX2, Cond.code yX2_at cX2_at 2 (some .int), Cond.fieldLink RX2 15 "ZHeads$Row" "count" "I", Cond.fieldLink RX2 9 "ZHeads$Row" "cells" "[I", Cond.methodLink RX3 124 yX1_maySwitchFirst, Cond.static yX1_maySwitchFirst, Cond.code yX1_maySwitchFirst cX1_maySwitchFirst 3 (some .boolean), Cond.methodLink RX1 7 yX1_playerBits, Cond.static yX1_playerBits]
def wsX3_flag_r2 : List Cond := [Cond.code yX1_playerBits cX1_playerBits 1 (some .int), Cond.methodLink RX3 128 yX1_maySwitchSecond, Cond.static yX1_maySwitchSecond, Cond.code yX1_maySwitchSecond cX1_maySwitchSecond 4 (some .boolean), Cond.methodLink RX3 132 yX3_flagBit, Cond.instanceMethod yX3_flagBit, Cond.selects RX3 yX3_flagBit yX3_flagBit, Cond.initialized RX3, Cond.code yX3_flagBit cX3_flagBit 4 (some .int), Cond.fieldLink RX3 16 "ZHeads" "memory" "LZHeads$Row;", Cond.methodLink RX3 60 yX2_at, Cond.methodLink RX3 98 yX2_two, Cond.instanceMethod yX2_two, Cond.selects RX2 yX2_two yX2_two, Cond.code yX2_two cX2_two 2 (some .int), Cond.methodLink RX3 135 yX3_switchFlag, Cond.instanceMethod yX3_switchFlag, Cond.selects RX3 yX3_switchFlag yX3_switchFlag, Cond.code yX3_switchFlag cX3_switchFlag 6 none, Cond.methodLink RX3 64 yX2_put, Cond.instanceMethod yX2_put, Cond.selects RX2 yX2_put yX2_put, Cond.code yX2_put cX2_put 3 none, Cond.methodLink RX2 19 yX2_has]
def wsX3_flag_r3 : List Cond := [Cond.instanceMethod yX2_has, Cond.selects RX2 yX2_has yX2_has, Cond.code yX2_has cX2_has 2 (some .boolean), Cond.methodLink RX3 148 yX2_putTwo, Cond.instanceMethod yX2_putTwo, Cond.selects RX2 yX2_putTwo yX2_putTwo, Cond.code yX2_putTwo cX2_putTwo 3 none, Cond.methodLink RX2 23 yX2_put]
def wsX3_flag : List Cond := .code yX3_flag cX3_flag 7 (some .int) :: ((wsX3_flag_r1 ++ (wsX3_flag_r2 ++ wsX3_flag_r3)) ++ wsX30 ++ wsX00 ++ wsX20 ++ (vx_atM "java/lang/ArrayIndexOutOfBoundsException" ["java/lang/IndexOutOfBoundsException", "java/lang/RuntimeException", "java/lang/Exception"]).filter goodWord)
def wsX3_isOn : List Cond := .code yX3_isOn cX3_isOn 3 (some .int) :: ([.fieldLink RX3 28 "ZHeads" "isRead" "Z", .methodLink RX3 118 yX1_isFlag, .static yX1_isFlag, .initialized RX1, .code yX1_isFlag cX1_isFlag 2 (some .boolean), .methodLink RX3 132 yX3_flagBit, .instanceMethod yX3_flagBit, .selects RX3 yX3_flagBit yX3_flagBit, .initialized RX3, .code yX3_flagBit cX3_flagBit 4 (some .int), .fieldLink RX3 16 "ZHeads" "memory" "LZHeads$Row;", .methodLink RX3 60 yX2_at, .instanceMethod yX2_at, .selects RX2 yX2_at yX2_at, .initialized RX2, .code yX2_at cX2_at 2 (some .int), .fieldLink RX2 15 "ZHeads$Row" "count" "I", .fieldLink RX2 9 "ZHeads$Row" "cells" "[I", .methodLink RX3 98 yX2_two, .instanceMethod yX2_two, .selects RX2 yX2_two yX2_two, .code yX2_two cX2_two 2 (some .int)] ++ wsX30 ++ wsX20 ++ (vx_atM "java/lang/ArrayIndexOutOfBoundsException" ["java/lang/IndexOutOfBoundsException", "java/lang/RuntimeException", "java/lang/Exception"]).filter goodWord)
def wsX3_set_r1 : List Cond := [Cond.fieldLink RX3 28 "ZHeads" "isRead" "Z", Cond.fieldLink RX3 24 "ZHeads" "head" "LZHeads$Head;", Cond.fieldLink RX3 16 "ZHeads" "memory" "LZHeads$Row;", Cond.methodLink RX3 139 yX1_isWide, Cond.static yX1_isWide, Cond.initialized RX1, Cond.code yX1_isWide cX1_isWide 1 (some .boolean), Cond.methodLink RX3 106 yX3_isTwo, Cond.static yX3_isTwo, Cond.initialized RX3, Cond.code yX3_isTwo cX3_isTwo 1 (some .boolean), Cond.constant RX3 173 (65535), Cond.methodLink RX3 36 yX3_isByte, Cond.static yX3_isByte, Cond.code yX3_isByte cX3_isByte 1 (some .boolean), Cond.methodLink RX3 80 yX0_version, Cond.instanceMethod yX0_version, Cond.selects RX0 yX0_version yX0_version, Cond.initialized RX0, Cond.code yX0_version cX0_version 1 (some .int), Cond.fieldLink RX0 9 "ZHeads$Head" "row" "LZHeads$Row;", Cond.methodLink RX0 15 yX2_at, Cond.instanceMethod yX2_at, Cond.selects RX2 yX2_at yX2_at]
def wsX3_set_r2 : List Cond := [Cond.initialized RX2, Cond.code yX2_at cX2_at 2 (some .int), Cond.fieldLink RX2 15 "ZHeads$Row" "count" "I", Cond.fieldLink RX2 9 "ZHeads$Row" "cells" "[I", Cond.methodLink RX3 142 yX1_settableFrom, Cond.static yX1_settableFrom, Cond.code yX1_settableFrom cX1_settableFrom 1 (some .int), Cond.methodLink RX3 145 yX1_settingPlace, Cond.static yX1_settingPlace, Cond.code yX1_settingPlace cX1_settingPlace 2 (some .int), Cond.methodLink RX3 98 yX2_two, Cond.instanceMethod yX2_two, Cond.selects RX2 yX2_two yX2_two, Cond.code yX2_two cX2_two 2 (some .int), Cond.methodLink RX3 60 yX2_at, Cond.methodLink RX3 148 yX2_putTwo, Cond.instanceMethod yX2_putTwo, Cond.selects RX2 yX2_putTwo yX2_putTwo, Cond.code yX2_putTwo cX2_putTwo 3 none, Cond.methodLink RX2 23 yX2_put, Cond.instanceMethod yX2_put, Cond.selects RX2 yX2_put yX2_put, Cond.code yX2_put cX2_put 3 none, Cond.methodLink RX2 19 yX2_has]
def wsX3_set_r3 : List Cond := [Cond.instanceMethod yX2_has, Cond.selects RX2 yX2_has yX2_has, Cond.code yX2_has cX2_has 2 (some .boolean), Cond.methodLink RX3 64 yX2_put]
def wsX3_set : List Cond := .code yX3_set cX3_set 7 (some .int) :: ((wsX3_set_r1 ++ (wsX3_set_r2 ++ wsX3_set_r3)) ++ wsX30 ++ wsX00 ++ wsX20 ++ (vx_atM "java/lang/ArrayIndexOutOfBoundsException" ["java/lang/IndexOutOfBoundsException", "java/lang/RuntimeException", "java/lang/Exception"]).filter goodWord)
def wsX3_restart_r1 : List Cond := [Cond.fieldLink RX3 28 "ZHeads" "isRead" "Z", Cond.fieldLink RX3 24 "ZHeads" "head" "LZHeads$Head;", Cond.fieldLink RX3 16 "ZHeads" "memory" "LZHeads$Row;", Cond.fieldLink RX3 10 "ZHeads" "file" "LZHeads$Row;", Cond.methodLink RX3 103 yX0_staticFrom, Cond.instanceMethod yX0_staticFrom, Cond.selects RX0 yX0_staticFrom yX0_staticFrom, Cond.initialized RX0, Cond.code yX0_staticFrom cX0_staticFrom 1 (some .int), Cond.fieldLink RX0 9 "ZHeads$Head" "row" "LZHeads$Row;", Cond.methodLink RX0 25 yX2_two, Cond.instanceMethod yX2_two, Cond.selects RX2 yX2_two yX2_two, Cond.initialized RX2, Cond.code yX2_two cX2_two 2 (some .int), Cond.fieldLink RX2 15 "ZHeads$Row" "count" "I", Cond.fieldLink RX2 9 "ZHeads$Row" "cells" "[I", Cond.methodLink RX3 60 yX2_at, Cond.instanceMethod yX2_at, Cond.selects RX2 yX2_at yX2_at, Cond.code yX2_at cX2_at 2 (some .int), Cond.methodLink RX3 64 yX2_put, Cond.instanceMethod yX2_put, Cond.selects RX2 yX2_put yX2_put]
def wsX3_restart_r2 : List Cond := [Cond.code yX2_put cX2_put 3 none, Cond.methodLink RX2 19 yX2_has, Cond.instanceMethod yX2_has, Cond.selects RX2 yX2_has yX2_has, Cond.code yX2_has cX2_has 2 (some .boolean)]
def wsX3_restart : List Cond := .code yX3_restart cX3_restart 4 (some .int) :: ((wsX3_restart_r1 ++ wsX3_restart_r2) ++ wsX30 ++ wsX00 ++ wsX20 ++ (vx_atM "java/lang/ArrayIndexOutOfBoundsException" ["java/lang/IndexOutOfBoundsException", "java/lang/RuntimeException", "java/lang/Exception"]).filter goodWord)
def wsX3_sign_r1 : List Cond := [Cond.fieldLink RX3 28 "ZHeads" "isRead" "Z", Cond.fieldLink RX3 24 "ZHeads" "head" "LZHeads$Head;", Cond.classLink RX3 86 RJx00060, Cond.instantiable RJx00060 6, Cond.initialized RJx00060, Cond.fieldLink RX3 10 "ZHeads" "file" "LZHeads$Row;", Cond.methodLink RX3 151 yX0_signs, Cond.instanceMethod yX0_signs, Cond.selects RX0 yX0_signs yX0_signs, Cond.initialized RX0, Cond.code yX0_signs cX0_signs 1 (some .int), Cond.fieldLink RX0 9 "ZHeads$Head" "row" "LZHeads$Row;", Cond.methodLink RX0 34 yX0_words, Cond.instanceMethod yX0_words, Cond.selects RX0 yX0_words yX0_words, Cond.code yX0_words cX0_words 1 (some .int), Cond.methodLink RX0 25 yX2_two, Cond.instanceMethod yX2_two, Cond.selects RX2 yX2_two yX2_two, Cond.initialized RX2, Cond.code yX2_two cX2_two 2 (some .int), Cond.fieldLink RX2 15 "ZHeads$Row" "count" "I", Cond.fieldLink RX2 9 "ZHeads$Row" "cells" "[I", Cond.methodLink RX0 15 yX2_at]
def wsX3_sign_r2 : List Cond := [Cond.instanceMethod yX2_at, Cond.selects RX2 yX2_at yX2_at, Cond.code yX2_at cX2_at 2 (some .int), Cond.methodLink RX3 156 yX0_words, Cond.methodLink RX3 60 yX2_at]
def wsX3_sign : List Cond := .code yX3_sign cX3_sign 2 (some .int) :: ((wsX3_sign_r1 ++ wsX3_sign_r2) ++ wsX30 ++ wsJx000600 ++ wsX00 ++ wsX20 ++ (vx_atM "java/lang/ArrayIndexOutOfBoundsException" ["java/lang/IndexOutOfBoundsException", "java/lang/RuntimeException", "java/lang/Exception"]).filter goodWord)
def wsX3_ratio_r1 : List Cond := [Cond.classLink RX3 165 "java/lang/ArithmeticException", Cond.initialized "java/lang/ArithmeticException", Cond.fieldLink RX3 28 "ZHeads" "isRead" "Z", Cond.fieldLink RX3 24 "ZHeads" "head" "LZHeads$Head;", Cond.methodLink RX3 159 yX0_entries, Cond.instanceMethod yX0_entries, Cond.selects RX0 yX0_entries yX0_entries, Cond.initialized RX0, Cond.code yX0_entries cX0_entries 1 (some .int), Cond.fieldLink RX0 9 "ZHeads$Head" "row" "LZHeads$Row;", Cond.methodLink RX0 34 yX0_words, Cond.instanceMethod yX0_words, Cond.selects RX0 yX0_words yX0_words, Cond.code yX0_words cX0_words 1 (some .int), Cond.methodLink RX0 25 yX2_two, Cond.instanceMethod yX2_two, Cond.selects RX2 yX2_two yX2_two, Cond.initialized RX2, Cond.code yX2_two cX2_two 2 (some .int), Cond.fieldLink RX2 15 "ZHeads$Row" "count" "I", Cond.fieldLink RX2 9 "ZHeads$Row" "cells" "[I", Cond.methodLink RX0 37 yX0_signs, Cond.instanceMethod yX0_signs, Cond.selects RX0 yX0_signs yX0_signs]
def wsX3_ratio_r2 : List Cond := [Cond.code yX0_signs cX0_signs 1 (some .int), Cond.methodLink RX0 15 yX2_at, Cond.instanceMethod yX2_at, Cond.selects RX2 yX2_at yX2_at, Cond.code yX2_at cX2_at 2 (some .int), Cond.methodLink RX3 162 yX0_entryBytes, Cond.instanceMethod yX0_entryBytes, Cond.selects RX0 yX0_entryBytes yX0_entryBytes, Cond.code yX0_entryBytes cX0_entryBytes 1 (some .int), Cond.methodLink RX3 170 yX0_length, Cond.instanceMethod yX0_length, Cond.selects RX0 yX0_length yX0_length, Cond.code yX0_length cX0_length 2 (some .int), Cond.methodLink RX0 21 yX0_version, Cond.instanceMethod yX0_version, Cond.selects RX0 yX0_version yX0_version, Cond.code yX0_version cX0_version 1 (some .int), Cond.methodLink RX0 28 yX2_count, Cond.instanceMethod yX2_count, Cond.selects RX2 yX2_count yX2_count, Cond.code yX2_count cX2_count 1 (some .int), Cond.methodLink RX0 31 yX0_scale, Cond.instanceMethod yX0_scale, Cond.selects RX0 yX0_scale yX0_scale]
def wsX3_ratio_r3 : List Cond := [Cond.code yX0_scale cX0_scale 2 (some .int)]
def wsX3_ratio : List Cond := .code yX3_ratio cX3_ratio 3 (some .int) :: ((wsX3_ratio_r1 ++ (wsX3_ratio_r2 ++ wsX3_ratio_r3)) ++ wsX30 ++ wsX00 ++ wsX20 ++ (vx_atS RX3 169 "java/lang/ArithmeticException" ["java/lang/RuntimeException", "java/lang/Exception"]).filter goodWord ++ (vx_atM "java/lang/ArithmeticException" ["java/lang/RuntimeException", "java/lang/Exception"]).filter goodWord ++ (vx_atM "java/lang/ArrayIndexOutOfBoundsException" ["java/lang/IndexOutOfBoundsException", "java/lang/RuntimeException", "java/lang/Exception"]).filter goodWord)
def wsX3_size : List Cond := .code yX3_size cX3_size 1 (some .int) :: ([.fieldLink RX3 10 "ZHeads" "file" "LZHeads$Row;", .methodLink RX3 54 yX2_count, .instanceMethod yX2_count, .selects RX2 yX2_count yX2_count, .initialized RX2, .code yX2_count cX2_count 1 (some .int), .fieldLink RX2 15 "ZHeads$Row" "count" "I"] ++ wsX30 ++ wsX20)
def wsX4_init : List Cond := .code yX4_init cX4_init 1 none :: ([.methodLink RX4 1 objectInit, .instanceMethod objectInit, .code objectInit ⟨#[0xb1]⟩ 1 none, .arrayClass .int, .fieldLink RX4 7 "ZHeadsModel" "file" "[I", .fieldLink RX4 13 "ZHeadsModel" "read" "[I", .fieldLink RX4 16 "ZHeadsModel" "memory" "[I"] ++ wsX40)
def wsX4_thrown : List Cond := .code yX4_thrown cX4_thrown 1 (some .int) :: ([.fieldLink RX4 19 "ZHeadsModel" "fault" "I"] ++ wsX40)
def wsX4_in : List Cond := .code yX4_in cX4_in 3 (some .boolean) :: ([])
def wsX4_fill : List Cond := .code yX4_fill cX4_fill 4 (some .int) :: ([.fieldLink RX4 19 "ZHeadsModel" "fault" "I", .fieldLink RX4 31 "ZHeadsModel" "size" "I", .fieldLink RX4 7 "ZHeadsModel" "file" "[I", .fieldLink RX4 36 "ZHeadsModel" "isRead" "Z", .methodLink RX4 27 yX4_in, .static yX4_in, .initialized RX4, .code yX4_in cX4_in 3 (some .boolean)] ++ wsX40 ++ (vx_atM "java/lang/ArrayIndexOutOfBoundsException" ["java/lang/IndexOutOfBoundsException", "java/lang/RuntimeException", "java/lang/Exception"]).filter goodWord)
def wsX4_octet : List Cond := .code yX4_octet cX4_octet 2 (some .int) :: ([.methodLink RX4 23 yX4_fill, .instanceMethod yX4_fill, .selects RX4 yX4_fill yX4_fill, .initialized RX4, .code yX4_fill cX4_fill 4 (some .int), .fieldLink RX4 19 "ZHeadsModel" "fault" "I", .fieldLink RX4 31 "ZHeadsModel" "size" "I", .fieldLink RX4 7 "ZHeadsModel" "file" "[I", .fieldLink RX4 36 "ZHeadsModel" "isRead" "Z", .methodLink RX4 27 yX4_in, .static yX4_in, .code yX4_in cX4_in 3 (some .boolean)] ++ wsX40 ++ (vx_atM "java/lang/ArrayIndexOutOfBoundsException" ["java/lang/IndexOutOfBoundsException", "java/lang/RuntimeException", "java/lang/Exception"]).filter goodWord)
def wsX4_feed : List Cond := .code yX4_feed cX4_feed 5 (some .int) :: ([.fieldLink RX4 19 "ZHeadsModel" "fault" "I", .fieldLink RX4 31 "ZHeadsModel" "size" "I", .fieldLink RX4 7 "ZHeadsModel" "file" "[I", .constantLong RX4 34 (255), .fieldLink RX4 36 "ZHeadsModel" "isRead" "Z", .methodLink RX4 27 yX4_in, .static yX4_in, .initialized RX4, .code yX4_in cX4_in 3 (some .boolean)] ++ wsX40 ++ (vx_atM "java/lang/ArrayIndexOutOfBoundsException" ["java/lang/IndexOutOfBoundsException", "java/lang/RuntimeException", "java/lang/Exception"]).filter goodWord)
def wsX4_poke : List Cond := .code yX4_poke cX4_poke 4 (some .int) :: ([.fieldLink RX4 19 "ZHeadsModel" "fault" "I", .fieldLink RX4 31 "ZHeadsModel" "size" "I", .fieldLink RX4 7 "ZHeadsModel" "file" "[I", .fieldLink RX4 36 "ZHeadsModel" "isRead" "Z", .methodLink RX4 27 yX4_in, .static yX4_in, .initialized RX4, .code yX4_in cX4_in 3 (some .boolean)] ++ wsX40 ++ (vx_atM "java/lang/ArrayIndexOutOfBoundsException" ["java/lang/IndexOutOfBoundsException", "java/lang/RuntimeException", "java/lang/Exception"]).filter goodWord)
def wsX4_clear : List Cond := .code yX4_clear cX4_clear 2 (some .int) :: ([.fieldLink RX4 19 "ZHeadsModel" "fault" "I", .fieldLink RX4 31 "ZHeadsModel" "size" "I", .fieldLink RX4 36 "ZHeadsModel" "isRead" "Z", .fieldLink RX4 40 "ZHeadsModel" "broken" "I"] ++ wsX40)
def wsX4_size : List Cond := .code yX4_size cX4_size 1 (some .int) :: ([.fieldLink RX4 19 "ZHeadsModel" "fault" "I", .fieldLink RX4 31 "ZHeadsModel" "size" "I"] ++ wsX40)
def wsX4_isThere : List Cond := .code yX4_isThere cX4_isThere 2 (some .boolean) :: ([.fieldLink RX4 31 "ZHeadsModel" "size" "I"] ++ wsX40)
def wsX4_two : List Cond := .code yX4_two cX4_two 2 (some .int) :: ([.fieldLink RX4 7 "ZHeadsModel" "file" "[I"] ++ wsX40 ++ (vx_atM "java/lang/ArrayIndexOutOfBoundsException" ["java/lang/IndexOutOfBoundsException", "java/lang/RuntimeException", "java/lang/Exception"]).filter goodWord)
def wsX4_brokenAt : List Cond := .code yX4_brokenAt cX4_brokenAt 3 (some .int) :: ([.fieldLink RX4 40 "ZHeadsModel" "broken" "I"] ++ wsX40)
def wsX4_scaleOf : List Cond := .code yX4_scaleOf cX4_scaleOf 1 (some .int) :: ([])
def wsX4_fits : List Cond := .code yX4_fits cX4_fits 3 (some .boolean) :: ([])
def wsX4_areWords : List Cond := .code yX4_areWords cX4_areWords 5 (some .boolean) :: ([.fieldLink RX4 7 "ZHeadsModel" "file" "[I", .fieldLink RX4 51 "ZHeadsModel" "version" "I", .fieldLink RX4 54 "ZHeadsModel" "length" "I", .methodLink RX4 43 yX4_isThere, .instanceMethod yX4_isThere, .selects RX4 yX4_isThere yX4_isThere, .initialized RX4, .code yX4_isThere cX4_isThere 2 (some .boolean), .fieldLink RX4 31 "ZHeadsModel" "size" "I", .methodLink RX4 47 yX4_two, .instanceMethod yX4_two, .selects RX4 yX4_two yX4_two, .code yX4_two cX4_two 2 (some .int)] ++ wsX40 ++ (vx_atM "java/lang/ArrayIndexOutOfBoundsException" ["java/lang/IndexOutOfBoundsException", "java/lang/RuntimeException", "java/lang/Exception"]).filter goodWord)
def wsX4_areEnds : List Cond := .code yX4_areEnds cX4_areEnds 4 (some .boolean) :: ([.fieldLink RX4 54 "ZHeadsModel" "length" "I", .fieldLink RX4 7 "ZHeadsModel" "file" "[I"] ++ wsX40 ++ (vx_atM "java/lang/ArrayIndexOutOfBoundsException" ["java/lang/IndexOutOfBoundsException", "java/lang/RuntimeException", "java/lang/Exception"]).filter goodWord)
def wsX4_isMore : List Cond := .code yX4_isMore cX4_isMore 2 (some .boolean) :: ([.fieldLink RX4 54 "ZHeadsModel" "length" "I", .methodLink RX4 43 yX4_isThere, .instanceMethod yX4_isThere, .selects RX4 yX4_isThere yX4_isThere, .initialized RX4, .code yX4_isThere cX4_isThere 2 (some .boolean), .fieldLink RX4 31 "ZHeadsModel" "size" "I", .methodLink RX4 47 yX4_two, .instanceMethod yX4_two, .selects RX4 yX4_two yX4_two, .code yX4_two cX4_two 2 (some .int), .fieldLink RX4 7 "ZHeadsModel" "file" "[I"] ++ wsX40 ++ (vx_atM "java/lang/ArrayIndexOutOfBoundsException" ["java/lang/IndexOutOfBoundsException", "java/lang/RuntimeException", "java/lang/Exception"]).filter goodWord)
def wsX4_isThird : List Cond := .code yX4_isThird cX4_isThird 3 (some .boolean) :: ([.fieldLink RX4 7 "ZHeadsModel" "file" "[I", .fieldLink RX4 54 "ZHeadsModel" "length" "I", .methodLink RX4 47 yX4_two, .instanceMethod yX4_two, .selects RX4 yX4_two yX4_two, .initialized RX4, .code yX4_two cX4_two 2 (some .int), .methodLink RX4 43 yX4_isThere, .instanceMethod yX4_isThere, .selects RX4 yX4_isThere yX4_isThere, .code yX4_isThere cX4_isThere 2 (some .boolean), .fieldLink RX4 31 "ZHeadsModel" "size" "I"] ++ wsX40 ++ (vx_atM "java/lang/ArrayIndexOutOfBoundsException" ["java/lang/IndexOutOfBoundsException", "java/lang/RuntimeException", "java/lang/Exception"]).filter goodWord)
def wsX4_startOf : List Cond := .code yX4_startOf cX4_startOf 1 (some .int) :: ([.fieldLink RX4 51 "ZHeadsModel" "version" "I", .methodLink RX4 47 yX4_two, .instanceMethod yX4_two, .selects RX4 yX4_two yX4_two, .initialized RX4, .code yX4_two cX4_two 2 (some .int), .fieldLink RX4 7 "ZHeadsModel" "file" "[I"] ++ wsX40 ++ (vx_atM "java/lang/ArrayIndexOutOfBoundsException" ["java/lang/IndexOutOfBoundsException", "java/lang/RuntimeException", "java/lang/Exception"]).filter goodWord)
def wsX4_judgeMore_r1 : List Cond := [Cond.fieldLink RX4 54 "ZHeadsModel" "length" "I", Cond.fieldLink RX4 51 "ZHeadsModel" "version" "I", Cond.methodLink RX4 47 yX4_two, Cond.instanceMethod yX4_two, Cond.selects RX4 yX4_two yX4_two, Cond.initialized RX4, Cond.code yX4_two cX4_two 2 (some .int), Cond.fieldLink RX4 7 "ZHeadsModel" "file" "[I", Cond.methodLink RX4 63 yX4_fits, Cond.static yX4_fits, Cond.code yX4_fits cX4_fits 3 (some .boolean), Cond.methodLink RX4 57 yX4_brokenAt, Cond.instanceMethod yX4_brokenAt, Cond.selects RX4 yX4_brokenAt yX4_brokenAt, Cond.code yX4_brokenAt cX4_brokenAt 3 (some .int), Cond.fieldLink RX4 40 "ZHeadsModel" "broken" "I", Cond.methodLink RX4 76 yX4_areEnds, Cond.instanceMethod yX4_areEnds, Cond.selects RX4 yX4_areEnds yX4_areEnds, Cond.code yX4_areEnds cX4_areEnds 4 (some .boolean), Cond.methodLink RX4 79 yX4_isMore, Cond.instanceMethod yX4_isMore, Cond.selects RX4 yX4_isMore yX4_isMore, Cond.code yX4_isMore cX4_isMore 2 (some .boolean)]
def wsX4_judgeMore_r2 : List Cond := [Cond.methodLink RX4 43 yX4_isThere, Cond.instanceMethod yX4_isThere, Cond.selects RX4 yX4_isThere yX4_isThere, Cond.code yX4_isThere cX4_isThere 2 (some .boolean), Cond.fieldLink RX4 31 "ZHeadsModel" "size" "I", Cond.methodLink RX4 82 yX4_isThird, Cond.instanceMethod yX4_isThird, Cond.selects RX4 yX4_isThird yX4_isThird, Cond.code yX4_isThird cX4_isThird 3 (some .boolean)]
def wsX4_judgeMore : List Cond := .code yX4_judgeMore cX4_judgeMore 2 (some .int) :: ((wsX4_judgeMore_r1 ++ wsX4_judgeMore_r2) ++ wsX40 ++ (vx_atM "java/lang/ArrayIndexOutOfBoundsException" ["java/lang/IndexOutOfBoundsException", "java/lang/RuntimeException", "java/lang/Exception"]).filter goodWord)
def wsX4_judge_r1 : List Cond := [Cond.fieldLink RX4 40 "ZHeadsModel" "broken" "I", Cond.fieldLink RX4 31 "ZHeadsModel" "size" "I", Cond.fieldLink RX4 7 "ZHeadsModel" "file" "[I", Cond.fieldLink RX4 51 "ZHeadsModel" "version" "I", Cond.fieldLink RX4 54 "ZHeadsModel" "length" "I", Cond.methodLink RX4 57 yX4_brokenAt, Cond.instanceMethod yX4_brokenAt, Cond.selects RX4 yX4_brokenAt yX4_brokenAt, Cond.initialized RX4, Cond.code yX4_brokenAt cX4_brokenAt 3 (some .int), Cond.methodLink RX4 27 yX4_in, Cond.static yX4_in, Cond.code yX4_in cX4_in 3 (some .boolean), Cond.methodLink RX4 47 yX4_two, Cond.instanceMethod yX4_two, Cond.selects RX4 yX4_two yX4_two, Cond.code yX4_two cX4_two 2 (some .int), Cond.methodLink RX4 60 yX4_scaleOf, Cond.static yX4_scaleOf, Cond.code yX4_scaleOf cX4_scaleOf 1 (some .int), Cond.methodLink RX4 63 yX4_fits, Cond.static yX4_fits, Cond.code yX4_fits cX4_fits 3 (some .boolean), Cond.methodLink RX4 66 yX4_areWords]
def wsX4_judge_r2 : List Cond := [Cond.instanceMethod yX4_areWords, Cond.selects RX4 yX4_areWords yX4_areWords, Cond.code yX4_areWords cX4_areWords 5 (some .boolean), Cond.methodLink RX4 43 yX4_isThere, Cond.instanceMethod yX4_isThere, Cond.selects RX4 yX4_isThere yX4_isThere, Cond.code yX4_isThere cX4_isThere 2 (some .boolean), Cond.methodLink RX4 69 yX4_startOf, Cond.instanceMethod yX4_startOf, Cond.selects RX4 yX4_startOf yX4_startOf, Cond.code yX4_startOf cX4_startOf 1 (some .int), Cond.methodLink RX4 73 yX4_judgeMore, Cond.instanceMethod yX4_judgeMore, Cond.selects RX4 yX4_judgeMore yX4_judgeMore, Cond.code yX4_judgeMore cX4_judgeMore 2 (some .int), Cond.methodLink RX4 76 yX4_areEnds, Cond.instanceMethod yX4_areEnds, Cond.selects RX4 yX4_areEnds yX4_areEnds, Cond.code yX4_areEnds cX4_areEnds 4 (some .boolean), Cond.methodLink RX4 79 yX4_isMore, Cond.instanceMethod yX4_isMore, Cond.selects RX4 yX4_isMore yX4_isMore, Cond.code yX4_isMore cX4_isMore 2 (some .boolean), Cond.methodLink RX4 82 yX4_isThird]
def wsX4_judge_r3 : List Cond := [Cond.instanceMethod yX4_isThird, Cond.selects RX4 yX4_isThird yX4_isThird, Cond.code yX4_isThird cX4_isThird 3 (some .boolean)]
def wsX4_judge : List Cond := .code yX4_judge cX4_judge 2 (some .int) :: ((wsX4_judge_r1 ++ (wsX4_judge_r2 ++ wsX4_judge_r3)) ++ wsX40 ++ (vx_atM "java/lang/ArrayIndexOutOfBoundsException" ["java/lang/IndexOutOfBoundsException", "java/lang/RuntimeException", "java/lang/Exception"]).filter goodWord)
def wsX4_read_r1 : List Cond := [Cond.fieldLink RX4 19 "ZHeadsModel" "fault" "I", Cond.fieldLink RX4 36 "ZHeadsModel" "isRead" "Z", Cond.fieldLink RX4 31 "ZHeadsModel" "size" "I", Cond.fieldLink RX4 13 "ZHeadsModel" "read" "[I", Cond.fieldLink RX4 7 "ZHeadsModel" "file" "[I", Cond.fieldLink RX4 16 "ZHeadsModel" "memory" "[I", Cond.methodLink RX4 85 yX4_judge, Cond.instanceMethod yX4_judge, Cond.selects RX4 yX4_judge yX4_judge, Cond.initialized RX4, Cond.code yX4_judge cX4_judge 2 (some .int), Cond.fieldLink RX4 40 "ZHeadsModel" "broken" "I", Cond.fieldLink RX4 51 "ZHeadsModel" "version" "I", Cond.fieldLink RX4 54 "ZHeadsModel" "length" "I", Cond.methodLink RX4 57 yX4_brokenAt, Cond.instanceMethod yX4_brokenAt, Cond.selects RX4 yX4_brokenAt yX4_brokenAt, Cond.code yX4_brokenAt cX4_brokenAt 3 (some .int), Cond.methodLink RX4 27 yX4_in, Cond.static yX4_in, Cond.code yX4_in cX4_in 3 (some .boolean), Cond.methodLink RX4 47 yX4_two, Cond.instanceMethod yX4_two, Cond.selects RX4 yX4_two yX4_two]
def wsX4_read_r2 : List Cond := [Cond.code yX4_two cX4_two 2 (some .int), Cond.methodLink RX4 60 yX4_scaleOf, Cond.static yX4_scaleOf, Cond.code yX4_scaleOf cX4_scaleOf 1 (some .int), Cond.methodLink RX4 63 yX4_fits, Cond.static yX4_fits, Cond.code yX4_fits cX4_fits 3 (some .boolean), Cond.methodLink RX4 66 yX4_areWords, Cond.instanceMethod yX4_areWords, Cond.selects RX4 yX4_areWords yX4_areWords, Cond.code yX4_areWords cX4_areWords 5 (some .boolean), Cond.methodLink RX4 43 yX4_isThere, Cond.instanceMethod yX4_isThere, Cond.selects RX4 yX4_isThere yX4_isThere, Cond.code yX4_isThere cX4_isThere 2 (some .boolean), Cond.methodLink RX4 69 yX4_startOf, Cond.instanceMethod yX4_startOf, Cond.selects RX4 yX4_startOf yX4_startOf, Cond.code yX4_startOf cX4_startOf 1 (some .int), Cond.methodLink RX4 73 yX4_judgeMore, Cond.instanceMethod yX4_judgeMore, Cond.selects RX4 yX4_judgeMore yX4_judgeMore, Cond.code yX4_judgeMore cX4_judgeMore 2 (some .int), Cond.methodLink RX4 76 yX4_areEnds]
def wsX4_read_r3 : List Cond := [Cond.instanceMethod yX4_areEnds, Cond.selects RX4 yX4_areEnds yX4_areEnds, Cond.code yX4_areEnds cX4_areEnds 4 (some .boolean), Cond.methodLink RX4 79 yX4_isMore, Cond.instanceMethod yX4_isMore, Cond.selects RX4 yX4_isMore yX4_isMore, Cond.code yX4_isMore cX4_isMore 2 (some .boolean), Cond.methodLink RX4 82 yX4_isThird, Cond.instanceMethod yX4_isThird, Cond.selects RX4 yX4_isThird yX4_isThird, Cond.code yX4_isThird cX4_isThird 3 (some .boolean)]
def wsX4_read : List Cond := .code yX4_read cX4_read 3 (some .int) :: ((wsX4_read_r1 ++ (wsX4_read_r2 ++ wsX4_read_r3)) ++ wsX40 ++ (vx_atM "java/lang/ArrayIndexOutOfBoundsException" ["java/lang/IndexOutOfBoundsException", "java/lang/RuntimeException", "java/lang/Exception"]).filter goodWord)
def wsX4_rule : List Cond := .code yX4_rule cX4_rule 1 (some .int) :: ([.fieldLink RX4 19 "ZHeadsModel" "fault" "I", .fieldLink RX4 40 "ZHeadsModel" "broken" "I"] ++ wsX40)
def wsX4_ofMore : List Cond := .code yX4_ofMore cX4_ofMore 3 (some .int) :: ([.fieldLink RX4 51 "ZHeadsModel" "version" "I", .methodLink RX4 47 yX4_two, .instanceMethod yX4_two, .selects RX4 yX4_two yX4_two, .initialized RX4, .code yX4_two cX4_two 2 (some .int), .fieldLink RX4 7 "ZHeadsModel" "file" "[I"] ++ wsX40 ++ (vx_atM "java/lang/ArrayIndexOutOfBoundsException" ["java/lang/IndexOutOfBoundsException", "java/lang/RuntimeException", "java/lang/Exception"]).filter goodWord)
def wsX4_field : List Cond := .code yX4_field cX4_field 3 (some .int) :: ([.fieldLink RX4 19 "ZHeadsModel" "fault" "I", .fieldLink RX4 36 "ZHeadsModel" "isRead" "Z", .fieldLink RX4 51 "ZHeadsModel" "version" "I", .fieldLink RX4 54 "ZHeadsModel" "length" "I", .fieldLink RX4 7 "ZHeadsModel" "file" "[I", .methodLink RX4 47 yX4_two, .instanceMethod yX4_two, .selects RX4 yX4_two yX4_two, .initialized RX4, .code yX4_two cX4_two 2 (some .int), .methodLink RX4 69 yX4_startOf, .instanceMethod yX4_startOf, .selects RX4 yX4_startOf yX4_startOf, .code yX4_startOf cX4_startOf 1 (some .int), .methodLink RX4 88 yX4_ofMore, .instanceMethod yX4_ofMore, .selects RX4 yX4_ofMore yX4_ofMore, .code yX4_ofMore cX4_ofMore 3 (some .int)] ++ wsX40 ++ (vx_atM "java/lang/ArrayIndexOutOfBoundsException" ["java/lang/IndexOutOfBoundsException", "java/lang/RuntimeException", "java/lang/Exception"]).filter goodWord)
def wsX4_thrownAt : List Cond := .code yX4_thrownAt cX4_thrownAt 1 (some .int) :: ([.fieldLink RX4 19 "ZHeadsModel" "fault" "I"] ++ wsX40)
def wsX4_serial : List Cond := .code yX4_serial cX4_serial 2 (some .int) :: ([.fieldLink RX4 19 "ZHeadsModel" "fault" "I", .fieldLink RX4 36 "ZHeadsModel" "isRead" "Z", .fieldLink RX4 13 "ZHeadsModel" "read" "[I", .methodLink RX4 27 yX4_in, .static yX4_in, .initialized RX4, .code yX4_in cX4_in 3 (some .boolean), .methodLink RX4 91 yX4_thrownAt, .instanceMethod yX4_thrownAt, .selects RX4 yX4_thrownAt yX4_thrownAt, .code yX4_thrownAt cX4_thrownAt 1 (some .int)] ++ wsX40 ++ (vx_atM "java/lang/ArrayIndexOutOfBoundsException" ["java/lang/IndexOutOfBoundsException", "java/lang/RuntimeException", "java/lang/Exception"]).filter goodWord)
def wsX4_global : List Cond := .code yX4_global cX4_global 3 (some .int) :: ([.fieldLink RX4 19 "ZHeadsModel" "fault" "I", .fieldLink RX4 36 "ZHeadsModel" "isRead" "Z", .fieldLink RX4 16 "ZHeadsModel" "memory" "[I", .methodLink RX4 27 yX4_in, .static yX4_in, .initialized RX4, .code yX4_in cX4_in 3 (some .boolean), .methodLink RX4 91 yX4_thrownAt, .instanceMethod yX4_thrownAt, .selects RX4 yX4_thrownAt yX4_thrownAt, .code yX4_thrownAt cX4_thrownAt 1 (some .int), .methodLink RX4 47 yX4_two, .instanceMethod yX4_two, .selects RX4 yX4_two yX4_two, .code yX4_two cX4_two 2 (some .int), .fieldLink RX4 7 "ZHeadsModel" "file" "[I"] ++ wsX40 ++ (vx_atM "java/lang/ArrayIndexOutOfBoundsException" ["java/lang/IndexOutOfBoundsException", "java/lang/RuntimeException", "java/lang/Exception"]).filter goodWord)
def wsX4_load : List Cond := .code yX4_load cX4_load 2 (some .int) :: ([.fieldLink RX4 19 "ZHeadsModel" "fault" "I", .fieldLink RX4 36 "ZHeadsModel" "isRead" "Z", .fieldLink RX4 31 "ZHeadsModel" "size" "I", .fieldLink RX4 16 "ZHeadsModel" "memory" "[I", .methodLink RX4 27 yX4_in, .static yX4_in, .initialized RX4, .code yX4_in cX4_in 3 (some .boolean), .methodLink RX4 91 yX4_thrownAt, .instanceMethod yX4_thrownAt, .selects RX4 yX4_thrownAt yX4_thrownAt, .code yX4_thrownAt cX4_thrownAt 1 (some .int)] ++ wsX40 ++ (vx_atM "java/lang/ArrayIndexOutOfBoundsException" ["java/lang/IndexOutOfBoundsException", "java/lang/RuntimeException", "java/lang/Exception"]).filter goodWord)
def wsX4_store : List Cond := .code yX4_store cX4_store 4 (some .int) :: ([.fieldLink RX4 19 "ZHeadsModel" "fault" "I", .fieldLink RX4 36 "ZHeadsModel" "isRead" "Z", .fieldLink RX4 16 "ZHeadsModel" "memory" "[I", .methodLink RX4 47 yX4_two, .instanceMethod yX4_two, .selects RX4 yX4_two yX4_two, .initialized RX4, .code yX4_two cX4_two 2 (some .int), .fieldLink RX4 7 "ZHeadsModel" "file" "[I", .methodLink RX4 27 yX4_in, .static yX4_in, .code yX4_in cX4_in 3 (some .boolean)] ++ wsX40 ++ (vx_atM "java/lang/ArrayIndexOutOfBoundsException" ["java/lang/IndexOutOfBoundsException", "java/lang/RuntimeException", "java/lang/Exception"]).filter goodWord)
def wsX4_packedAt : List Cond := .code yX4_packedAt cX4_packedAt 4 (some .int) :: ([.fieldLink RX4 51 "ZHeadsModel" "version" "I", .methodLink RX4 47 yX4_two, .instanceMethod yX4_two, .selects RX4 yX4_two yX4_two, .initialized RX4, .code yX4_two cX4_two 2 (some .int), .fieldLink RX4 7 "ZHeadsModel" "file" "[I"] ++ wsX40 ++ (vx_atM "java/lang/ArrayIndexOutOfBoundsException" ["java/lang/IndexOutOfBoundsException", "java/lang/RuntimeException", "java/lang/Exception"]).filter goodWord)
def wsX4_packed : List Cond := .code yX4_packed cX4_packed 3 (some .int) :: ([.fieldLink RX4 19 "ZHeadsModel" "fault" "I", .fieldLink RX4 36 "ZHeadsModel" "isRead" "Z", .constant RX4 94 (65535), .methodLink RX4 27 yX4_in, .static yX4_in, .initialized RX4, .code yX4_in cX4_in 3 (some .boolean), .methodLink RX4 95 yX4_packedAt, .instanceMethod yX4_packedAt, .selects RX4 yX4_packedAt yX4_packedAt, .code yX4_packedAt cX4_packedAt 4 (some .int), .fieldLink RX4 51 "ZHeadsModel" "version" "I", .methodLink RX4 47 yX4_two, .instanceMethod yX4_two, .selects RX4 yX4_two yX4_two, .code yX4_two cX4_two 2 (some .int), .fieldLink RX4 7 "ZHeadsModel" "file" "[I"] ++ wsX40 ++ (vx_atM "java/lang/ArrayIndexOutOfBoundsException" ["java/lang/IndexOutOfBoundsException", "java/lang/RuntimeException", "java/lang/Exception"]).filter goodWord)
def wsX4_first_r1 : List Cond := [Cond.fieldLink RX4 19 "ZHeadsModel" "fault" "I", Cond.fieldLink RX4 36 "ZHeadsModel" "isRead" "Z", Cond.constant RX4 94 (65535), Cond.methodLink RX4 27 yX4_in, Cond.static yX4_in, Cond.initialized RX4, Cond.code yX4_in cX4_in 3 (some .boolean), Cond.methodLink RX4 95 yX4_packedAt, Cond.instanceMethod yX4_packedAt, Cond.selects RX4 yX4_packedAt yX4_packedAt, Cond.code yX4_packedAt cX4_packedAt 4 (some .int), Cond.fieldLink RX4 51 "ZHeadsModel" "version" "I", Cond.methodLink RX4 47 yX4_two, Cond.instanceMethod yX4_two, Cond.selects RX4 yX4_two yX4_two, Cond.code yX4_two cX4_two 2 (some .int), Cond.fieldLink RX4 7 "ZHeadsModel" "file" "[I", Cond.methodLink RX4 99 yX4_load, Cond.instanceMethod yX4_load, Cond.selects RX4 yX4_load yX4_load, Cond.code yX4_load cX4_load 2 (some .int), Cond.fieldLink RX4 31 "ZHeadsModel" "size" "I", Cond.fieldLink RX4 16 "ZHeadsModel" "memory" "[I", Cond.methodLink RX4 91 yX4_thrownAt]
def wsX4_first_r2 : List Cond := [Cond.instanceMethod yX4_thrownAt, Cond.selects RX4 yX4_thrownAt yX4_thrownAt, Cond.code yX4_thrownAt cX4_thrownAt 1 (some .int)]
def wsX4_first : List Cond := .code yX4_first cX4_first 3 (some .int) :: ((wsX4_first_r1 ++ wsX4_first_r2) ++ wsX40 ++ (vx_atM "java/lang/ArrayIndexOutOfBoundsException" ["java/lang/IndexOutOfBoundsException", "java/lang/RuntimeException", "java/lang/Exception"]).filter goodWord)
def wsX4_sum : List Cond := .code yX4_sum cX4_sum 3 (some .int) :: ([.fieldLink RX4 19 "ZHeadsModel" "fault" "I", .fieldLink RX4 36 "ZHeadsModel" "isRead" "Z", .fieldLink RX4 54 "ZHeadsModel" "length" "I", .fieldLink RX4 13 "ZHeadsModel" "read" "[I", .constant RX4 102 (65536)] ++ wsX40 ++ (vx_atM "java/lang/ArrayIndexOutOfBoundsException" ["java/lang/IndexOutOfBoundsException", "java/lang/RuntimeException", "java/lang/Exception"]).filter goodWord)
def wsX4_agrees : List Cond := .code yX4_agrees cX4_agrees 2 (some .int) :: ([.methodLink RX4 103 yX4_sum, .instanceMethod yX4_sum, .selects RX4 yX4_sum yX4_sum, .initialized RX4, .code yX4_sum cX4_sum 3 (some .int), .fieldLink RX4 19 "ZHeadsModel" "fault" "I", .fieldLink RX4 36 "ZHeadsModel" "isRead" "Z", .fieldLink RX4 54 "ZHeadsModel" "length" "I", .fieldLink RX4 13 "ZHeadsModel" "read" "[I", .constant RX4 102 (65536), .methodLink RX4 47 yX4_two, .instanceMethod yX4_two, .selects RX4 yX4_two yX4_two, .code yX4_two cX4_two 2 (some .int), .fieldLink RX4 7 "ZHeadsModel" "file" "[I"] ++ wsX40 ++ (vx_atM "java/lang/ArrayIndexOutOfBoundsException" ["java/lang/IndexOutOfBoundsException", "java/lang/RuntimeException", "java/lang/Exception"]).filter goodWord)
def wsX4_mayFirst : List Cond := .code yX4_mayFirst cX4_mayFirst 2 (some .boolean) :: ([.fieldLink RX4 51 "ZHeadsModel" "version" "I", .methodLink RX4 27 yX4_in, .static yX4_in, .initialized RX4, .code yX4_in cX4_in 3 (some .boolean)] ++ wsX40)
def wsX4_maySecond : List Cond := .code yX4_maySecond cX4_maySecond 4 (some .boolean) :: ([.fieldLink RX4 51 "ZHeadsModel" "version" "I", .methodLink RX4 27 yX4_in, .static yX4_in, .initialized RX4, .code yX4_in cX4_in 3 (some .boolean)] ++ wsX40)
def wsX4_isFlag : List Cond := .code yX4_isFlag cX4_isFlag 2 (some .boolean) :: ([.methodLink RX4 27 yX4_in, .static yX4_in, .initialized RX4, .code yX4_in cX4_in 3 (some .boolean)])
def wsX4_placeOf : List Cond := .code yX4_placeOf cX4_placeOf 2 (some .int) :: ([])
def wsX4_isOn : List Cond := .code yX4_isOn cX4_isOn 3 (some .int) :: ([.fieldLink RX4 19 "ZHeadsModel" "fault" "I", .fieldLink RX4 36 "ZHeadsModel" "isRead" "Z", .fieldLink RX4 16 "ZHeadsModel" "memory" "[I", .methodLink RX4 106 yX4_isFlag, .static yX4_isFlag, .initialized RX4, .code yX4_isFlag cX4_isFlag 2 (some .boolean), .methodLink RX4 27 yX4_in, .static yX4_in, .code yX4_in cX4_in 3 (some .boolean), .methodLink RX4 120 yX4_placeOf, .static yX4_placeOf, .code yX4_placeOf cX4_placeOf 2 (some .int)] ++ wsX40 ++ (vx_atM "java/lang/ArrayIndexOutOfBoundsException" ["java/lang/IndexOutOfBoundsException", "java/lang/RuntimeException", "java/lang/Exception"]).filter goodWord)
def wsX4_flag_r1 : List Cond := [Cond.fieldLink RX4 19 "ZHeadsModel" "fault" "I", Cond.fieldLink RX4 36 "ZHeadsModel" "isRead" "Z", Cond.fieldLink RX4 16 "ZHeadsModel" "memory" "[I", Cond.methodLink RX4 106 yX4_isFlag, Cond.static yX4_isFlag, Cond.initialized RX4, Cond.code yX4_isFlag cX4_isFlag 2 (some .boolean), Cond.methodLink RX4 27 yX4_in, Cond.static yX4_in, Cond.code yX4_in cX4_in 3 (some .boolean), Cond.methodLink RX4 110 yX4_mayFirst, Cond.instanceMethod yX4_mayFirst, Cond.selects RX4 yX4_mayFirst yX4_mayFirst, Cond.code yX4_mayFirst cX4_mayFirst 2 (some .boolean), Cond.fieldLink RX4 51 "ZHeadsModel" "version" "I", Cond.methodLink RX4 113 yX4_maySecond, Cond.instanceMethod yX4_maySecond, Cond.selects RX4 yX4_maySecond yX4_maySecond, Cond.code yX4_maySecond cX4_maySecond 4 (some .boolean), Cond.methodLink RX4 117 yX4_isOn, Cond.instanceMethod yX4_isOn, Cond.selects RX4 yX4_isOn yX4_isOn, Cond.code yX4_isOn cX4_isOn 3 (some .int), Cond.methodLink RX4 120 yX4_placeOf]
def wsX4_flag_r2 : List Cond := [Cond.static yX4_placeOf, Cond.code yX4_placeOf cX4_placeOf 2 (some .int)]
def wsX4_flag : List Cond := .code yX4_flag cX4_flag 8 (some .int) :: ((wsX4_flag_r1 ++ wsX4_flag_r2) ++ wsX40 ++ (vx_atM "java/lang/ArrayIndexOutOfBoundsException" ["java/lang/IndexOutOfBoundsException", "java/lang/RuntimeException", "java/lang/Exception"]).filter goodWord)
def wsX4_isWide : List Cond := .code yX4_isWide cX4_isWide 1 (some .boolean) :: ([])
def wsX4_placeSet : List Cond := .code yX4_placeSet cX4_placeSet 2 (some .int) :: ([.fieldLink RX4 51 "ZHeadsModel" "version" "I"] ++ wsX40)
def wsX4_set : List Cond := .code yX4_set cX4_set 5 (some .int) :: ([.fieldLink RX4 19 "ZHeadsModel" "fault" "I", .fieldLink RX4 36 "ZHeadsModel" "isRead" "Z", .constant RX4 94 (65535), .fieldLink RX4 51 "ZHeadsModel" "version" "I", .fieldLink RX4 16 "ZHeadsModel" "memory" "[I", .methodLink RX4 27 yX4_in, .static yX4_in, .initialized RX4, .code yX4_in cX4_in 3 (some .boolean), .methodLink RX4 123 yX4_isWide, .static yX4_isWide, .code yX4_isWide cX4_isWide 1 (some .boolean), .methodLink RX4 126 yX4_placeSet, .instanceMethod yX4_placeSet, .selects RX4 yX4_placeSet yX4_placeSet, .code yX4_placeSet cX4_placeSet 2 (some .int)] ++ wsX40 ++ (vx_atM "java/lang/ArrayIndexOutOfBoundsException" ["java/lang/IndexOutOfBoundsException", "java/lang/RuntimeException", "java/lang/Exception"]).filter goodWord)
def wsX4_restart : List Cond := .code yX4_restart cX4_restart 3 (some .int) :: ([.fieldLink RX4 19 "ZHeadsModel" "fault" "I", .fieldLink RX4 36 "ZHeadsModel" "isRead" "Z", .fieldLink RX4 16 "ZHeadsModel" "memory" "[I", .fieldLink RX4 13 "ZHeadsModel" "read" "[I", .methodLink RX4 47 yX4_two, .instanceMethod yX4_two, .selects RX4 yX4_two yX4_two, .initialized RX4, .code yX4_two cX4_two 2 (some .int), .fieldLink RX4 7 "ZHeadsModel" "file" "[I"] ++ wsX40 ++ (vx_atM "java/lang/ArrayIndexOutOfBoundsException" ["java/lang/IndexOutOfBoundsException", "java/lang/RuntimeException", "java/lang/Exception"]).filter goodWord)
def wsX4_sign : List Cond := .code yX4_sign cX4_sign 3 (some .int) :: ([.fieldLink RX4 19 "ZHeadsModel" "fault" "I", .fieldLink RX4 36 "ZHeadsModel" "isRead" "Z", .fieldLink RX4 7 "ZHeadsModel" "file" "[I", .fieldLink RX4 13 "ZHeadsModel" "read" "[I", .methodLink RX4 47 yX4_two, .instanceMethod yX4_two, .selects RX4 yX4_two yX4_two, .initialized RX4, .code yX4_two cX4_two 2 (some .int), .methodLink RX4 27 yX4_in, .static yX4_in, .code yX4_in cX4_in 3 (some .boolean), .methodLink RX4 91 yX4_thrownAt, .instanceMethod yX4_thrownAt, .selects RX4 yX4_thrownAt yX4_thrownAt, .code yX4_thrownAt cX4_thrownAt 1 (some .int)] ++ wsX40 ++ (vx_atM "java/lang/ArrayIndexOutOfBoundsException" ["java/lang/IndexOutOfBoundsException", "java/lang/RuntimeException", "java/lang/Exception"]).filter goodWord)
def wsX4_ratio_r1 : List Cond := [Cond.fieldLink RX4 19 "ZHeadsModel" "fault" "I", Cond.fieldLink RX4 36 "ZHeadsModel" "isRead" "Z", Cond.fieldLink RX4 54 "ZHeadsModel" "length" "I", Cond.methodLink RX4 129 yX4_field, Cond.instanceMethod yX4_field, Cond.selects RX4 yX4_field yX4_field, Cond.initialized RX4, Cond.code yX4_field cX4_field 3 (some .int), Cond.fieldLink RX4 51 "ZHeadsModel" "version" "I", Cond.fieldLink RX4 7 "ZHeadsModel" "file" "[I", Cond.methodLink RX4 47 yX4_two, Cond.instanceMethod yX4_two, Cond.selects RX4 yX4_two yX4_two, Cond.code yX4_two cX4_two 2 (some .int), Cond.methodLink RX4 69 yX4_startOf, Cond.instanceMethod yX4_startOf, Cond.selects RX4 yX4_startOf yX4_startOf, Cond.code yX4_startOf cX4_startOf 1 (some .int), Cond.methodLink RX4 88 yX4_ofMore, Cond.instanceMethod yX4_ofMore, Cond.selects RX4 yX4_ofMore yX4_ofMore, Cond.code yX4_ofMore cX4_ofMore 3 (some .int), Cond.methodLink RX4 91 yX4_thrownAt, Cond.instanceMethod yX4_thrownAt]
def wsX4_ratio_r2 : List Cond := [Cond.selects RX4 yX4_thrownAt yX4_thrownAt, Cond.code yX4_thrownAt cX4_thrownAt 1 (some .int)]
def wsX4_ratio : List Cond := .code yX4_ratio cX4_ratio 3 (some .int) :: ((wsX4_ratio_r1 ++ wsX4_ratio_r2) ++ wsX40 ++ (vx_atM "java/lang/ArithmeticException" ["java/lang/RuntimeException", "java/lang/Exception"]).filter goodWord ++ (vx_atM "java/lang/ArrayIndexOutOfBoundsException" ["java/lang/IndexOutOfBoundsException", "java/lang/RuntimeException", "java/lang/Exception"]).filter goodWord)
def wsJx00060_init_a7421 : List Cond := .code yJx00060_init_a7421 cJx00060_init_a7421 2 none :: ([])
def wsJ9_abs_0f7a4 : List Cond := .code yJ9_abs_0f7a4 cJ9_abs_0f7a4 1 (some .int) :: ([])
end
section
theorem dX0_init_0 : decode cX0_init 0 = .ok (.aload_n 0, 1) := by decide +kernel
theorem dX0_init_1 : decode cX0_init 1 = .ok (.invokespecial 3, 3) := by decide +kernel
theorem dX0_init_4 : decode cX0_init 4 = .ok (.aload_n 0, 1) := by decide +kernel
theorem dX0_init_5 : decode cX0_init 5 = .ok (.aload_n 1, 1) := by decide +kernel
theorem dX0_init_6 : decode cX0_init 6 = .ok (.putfield 9, 3) := by decide +kernel
theorem dX0_init_9 : decode cX0_init 9 = .ok (.return_, 1) := by decide +kernel
set_option maxRecDepth 20000 in
theorem ggX0_version_X2_at : GoodIn wsX0_version wsX2_at := goodIn_ca (goodIn_r _ [6, 7, 8, 10, 11] (by decide +kernel) (by decide +kernel)) (goodIn_sub (fun _ h => List.mem_cons_of_mem _ (List.mem_append_right _ h)) (by decide +kernel))
set_option maxRecDepth 20000 in
theorem gX0_version_X2_at : GoodIn wsX0_version (wsV RX0 15 RX2 yX2_at wsX2_at) := goodIn_app (goodIn_of _ (by decide +kernel)) ggX0_version_X2_at
theorem dX0_version_0 : decode cX0_version 0 = .ok (.aload_n 0, 1) := by decide +kernel
theorem dX0_version_1 : decode cX0_version 1 = .ok (.getfield 9, 3) := by decide +kernel
theorem dX0_version_4 : decode cX0_version 4 = .ok (.iconst 0, 1) := by decide +kernel
theorem dX0_version_5 : decode cX0_version 5 = .ok (.invokevirtual 15, 3) := by decide +kernel
theorem dX0_version_8 : decode cX0_version 8 = .ok (.ireturn, 1) := by decide +kernel
set_option maxRecDepth 20000 in
theorem ggX0_scale_X0_version : GoodIn wsX0_scale wsX0_version := goodIn_ca (goodIn_r _ [5, 6, 7, 8, 9, 10, 11, 12, 13, 14, 15, 16] (by decide +kernel) (by decide +kernel)) (goodIn_sub (fun _ h => List.mem_cons_of_mem _ (List.mem_append_right _ h)) (by decide +kernel))
set_option maxRecDepth 20000 in
theorem gX0_scale_X0_version : GoodIn wsX0_scale (wsV RX0 21 RX0 yX0_version wsX0_version) := goodIn_app (goodIn_of _ (by decide +kernel)) ggX0_scale_X0_version
theorem dX0_scale_0 : decode cX0_scale 0 = .ok (.aload_n 0, 1) := by decide +kernel
theorem dX0_scale_1 : decode cX0_scale 1 = .ok (.invokevirtual 21, 3) := by decide +kernel
theorem dX0_scale_4 : decode cX0_scale 4 = .ok (.istore_n 1, 1) := by decide +kernel
theorem dX0_scale_5 : decode cX0_scale 5 = .ok (.iload_n 1, 1) := by decide +kernel
theorem dX0_scale_6 : decode cX0_scale 6 = .ok (.iconst 3, 1) := by decide +kernel
theorem dX0_scale_7 : decode cX0_scale 7 = .ok (.if_icmp .gt 5, 3) := by decide +kernel
theorem dX0_scale_10 : decode cX0_scale 10 = .ok (.iconst 2, 1) := by decide +kernel
theorem dX0_scale_11 : decode cX0_scale 11 = .ok (.ireturn, 1) := by decide +kernel
theorem dX0_scale_12 : decode cX0_scale 12 = .ok (.iload_n 1, 1) := by decide +kernel
theorem dX0_scale_13 : decode cX0_scale 13 = .ok (.iconst 5, 1) := by decide +kernel
theorem dX0_scale_14 : decode cX0_scale 14 = .ok (.if_icmp .gt 7, 3) := by decide +kernel
theorem dX0_scale_17 : decode cX0_scale 17 = .ok (.iconst 4, 1) := by decide +kernel
theorem dX0_scale_18 : decode cX0_scale 18 = .ok (.goto 5, 3) := by decide +kernel
theorem dX0_scale_21 : decode cX0_scale 21 = .ok (.bipush 8, 2) := by decide +kernel
theorem dX0_scale_23 : decode cX0_scale 23 = .ok (.ireturn, 1) := by decide +kernel
set_option maxRecDepth 20000 in
theorem ggX0_length_X2_two : GoodIn wsX0_length wsX2_two := goodIn_ca (goodIn_r _ [6, 7, 8, 27, 28] (by decide +kernel) (by decide +kernel)) (goodIn_sub (fun _ h => List.mem_cons_of_mem _ (List.mem_append_right _ h)) (by decide +kernel))
set_option maxRecDepth 20000 in
theorem gX0_length_X2_two : GoodIn wsX0_length (wsV RX0 25 RX2 yX2_two wsX2_two) := goodIn_app (goodIn_of _ (by decide +kernel)) ggX0_length_X2_two
set_option maxRecDepth 20000 in
theorem ggX0_length_X0_version : GoodIn wsX0_length wsX0_version := goodIn_ca (goodIn_r _ [13, 1, 14, 15, 16, 5, 17, 7, 8, 26, 27, 28] (by decide +kernel) (by decide +kernel)) (goodIn_sub (fun _ h => List.mem_cons_of_mem _ (List.mem_append_right _ h)) (by decide +kernel))
set_option maxRecDepth 20000 in
theorem gX0_length_X0_version : GoodIn wsX0_length (wsV RX0 21 RX0 yX0_version wsX0_version) := goodIn_app (goodIn_of _ (by decide +kernel)) ggX0_length_X0_version
set_option maxRecDepth 20000 in
theorem ggX0_length_X2_count : GoodIn wsX0_length wsX2_count := goodIn_r _ [21, 7, 27, 28] (by decide +kernel) (by decide +kernel)
set_option maxRecDepth 20000 in
theorem gX0_length_X2_count : GoodIn wsX0_length (wsV RX0 28 RX2 yX2_count wsX2_count) := goodIn_app (goodIn_of _ (by decide +kernel)) ggX0_length_X2_count
set_option maxRecDepth 20000 in
theorem ggX0_length_X0_scale : GoodIn wsX0_length wsX0_scale := goodIn_ca (goodIn_r _ [25, 9, 10, 11, 12, 13, 1, 14, 15, 16, 5, 17, 7, 8, 26, 27, 28] (by decide +kernel) (by decide +kernel)) (goodIn_sub (fun _ h => List.mem_cons_of_mem _ (List.mem_append_right _ h)) (by decide +kernel))
set_option maxRecDepth 20000 in
theorem gX0_length_X0_scale : GoodIn wsX0_length (wsV RX0 31 RX0 yX0_scale wsX0_scale) := goodIn_app (goodIn_of _ (by decide +kernel)) ggX0_length_X0_scale
theorem dX0_length_0 : decode cX0_length 0 = .ok (.aload_n 0, 1) := by decide +kernel
theorem dX0_length_1 : decode cX0_length 1 = .ok (.getfield 9, 3) := by decide +kernel
theorem dX0_length_4 : decode cX0_length 4 = .ok (.bipush 26, 2) := by decide +kernel
theorem dX0_length_6 : decode cX0_length 6 = .ok (.invokevirtual 25, 3) := by decide +kernel
theorem dX0_length_9 : decode cX0_length 9 = .ok (.istore_n 1, 1) := by decide +kernel
theorem dX0_length_10 : decode cX0_length 10 = .ok (.iload_n 1, 1) := by decide +kernel
theorem dX0_length_11 : decode cX0_length 11 = .ok (.ifCond .ne 21, 3) := by decide +kernel
theorem dX0_length_14 : decode cX0_length 14 = .ok (.aload_n 0, 1) := by decide +kernel
theorem dX0_length_15 : decode cX0_length 15 = .ok (.invokevirtual 21, 3) := by decide +kernel
theorem dX0_length_18 : decode cX0_length 18 = .ok (.iconst 3, 1) := by decide +kernel
theorem dX0_length_19 : decode cX0_length 19 = .ok (.if_icmp .gt 13, 3) := by decide +kernel
theorem dX0_length_22 : decode cX0_length 22 = .ok (.aload_n 0, 1) := by decide +kernel
theorem dX0_length_23 : decode cX0_length 23 = .ok (.getfield 9, 3) := by decide +kernel
theorem dX0_length_26 : decode cX0_length 26 = .ok (.invokevirtual 28, 3) := by decide +kernel
theorem dX0_length_29 : decode cX0_length 29 = .ok (.goto 9, 3) := by decide +kernel
theorem dX0_length_32 : decode cX0_length 32 = .ok (.iload_n 1, 1) := by decide +kernel
theorem dX0_length_33 : decode cX0_length 33 = .ok (.aload_n 0, 1) := by decide +kernel
theorem dX0_length_34 : decode cX0_length 34 = .ok (.invokevirtual 31, 3) := by decide +kernel
theorem dX0_length_37 : decode cX0_length 37 = .ok (.imul, 1) := by decide +kernel
theorem dX0_length_38 : decode cX0_length 38 = .ok (.ireturn, 1) := by decide +kernel
set_option maxRecDepth 20000 in
theorem ggX0_staticFrom_X2_two : GoodIn wsX0_staticFrom wsX2_two := goodIn_ca (goodIn_r _ [6, 7, 8, 10, 11] (by decide +kernel) (by decide +kernel)) (goodIn_sub (fun _ h => List.mem_cons_of_mem _ (List.mem_append_right _ h)) (by decide +kernel))
set_option maxRecDepth 20000 in
theorem gX0_staticFrom_X2_two : GoodIn wsX0_staticFrom (wsV RX0 25 RX2 yX2_two wsX2_two) := goodIn_app (goodIn_of _ (by decide +kernel)) ggX0_staticFrom_X2_two
theorem dX0_staticFrom_0 : decode cX0_staticFrom 0 = .ok (.aload_n 0, 1) := by decide +kernel
theorem dX0_staticFrom_1 : decode cX0_staticFrom 1 = .ok (.getfield 9, 3) := by decide +kernel
theorem dX0_staticFrom_4 : decode cX0_staticFrom 4 = .ok (.bipush 14, 2) := by decide +kernel
theorem dX0_staticFrom_6 : decode cX0_staticFrom 6 = .ok (.invokevirtual 25, 3) := by decide +kernel
theorem dX0_staticFrom_9 : decode cX0_staticFrom 9 = .ok (.ireturn, 1) := by decide +kernel
set_option maxRecDepth 20000 in
theorem ggX0_high_X2_two : GoodIn wsX0_high wsX2_two := goodIn_ca (goodIn_r _ [6, 7, 8, 10, 11] (by decide +kernel) (by decide +kernel)) (goodIn_sub (fun _ h => List.mem_cons_of_mem _ (List.mem_append_right _ h)) (by decide +kernel))
set_option maxRecDepth 20000 in
theorem gX0_high_X2_two : GoodIn wsX0_high (wsV RX0 25 RX2 yX2_two wsX2_two) := goodIn_app (goodIn_of _ (by decide +kernel)) ggX0_high_X2_two
theorem dX0_high_0 : decode cX0_high 0 = .ok (.aload_n 0, 1) := by decide +kernel
theorem dX0_high_1 : decode cX0_high 1 = .ok (.getfield 9, 3) := by decide +kernel
theorem dX0_high_4 : decode cX0_high 4 = .ok (.iconst 4, 1) := by decide +kernel
theorem dX0_high_5 : decode cX0_high 5 = .ok (.invokevirtual 25, 3) := by decide +kernel
theorem dX0_high_8 : decode cX0_high 8 = .ok (.ireturn, 1) := by decide +kernel
set_option maxRecDepth 20000 in
theorem ggX0_globals_X2_two : GoodIn wsX0_globals wsX2_two := goodIn_ca (goodIn_r _ [6, 7, 8, 10, 11] (by decide +kernel) (by decide +kernel)) (goodIn_sub (fun _ h => List.mem_cons_of_mem _ (List.mem_append_right _ h)) (by decide +kernel))
set_option maxRecDepth 20000 in
theorem gX0_globals_X2_two : GoodIn wsX0_globals (wsV RX0 25 RX2 yX2_two wsX2_two) := goodIn_app (goodIn_of _ (by decide +kernel)) ggX0_globals_X2_two
theorem dX0_globals_0 : decode cX0_globals 0 = .ok (.aload_n 0, 1) := by decide +kernel
theorem dX0_globals_1 : decode cX0_globals 1 = .ok (.getfield 9, 3) := by decide +kernel
theorem dX0_globals_4 : decode cX0_globals 4 = .ok (.bipush 12, 2) := by decide +kernel
theorem dX0_globals_6 : decode cX0_globals 6 = .ok (.invokevirtual 25, 3) := by decide +kernel
theorem dX0_globals_9 : decode cX0_globals 9 = .ok (.ireturn, 1) := by decide +kernel
set_option maxRecDepth 20000 in
theorem ggX0_objects_X2_two : GoodIn wsX0_objects wsX2_two := goodIn_ca (goodIn_r _ [6, 7, 8, 10, 11] (by decide +kernel) (by decide +kernel)) (goodIn_sub (fun _ h => List.mem_cons_of_mem _ (List.mem_append_right _ h)) (by decide +kernel))
set_option maxRecDepth 20000 in
theorem gX0_objects_X2_two : GoodIn wsX0_objects (wsV RX0 25 RX2 yX2_two wsX2_two) := goodIn_app (goodIn_of _ (by decide +kernel)) ggX0_objects_X2_two
theorem dX0_objects_0 : decode cX0_objects 0 = .ok (.aload_n 0, 1) := by decide +kernel
theorem dX0_objects_1 : decode cX0_objects 1 = .ok (.getfield 9, 3) := by decide +kernel
theorem dX0_objects_4 : decode cX0_objects 4 = .ok (.bipush 10, 2) := by decide +kernel
theorem dX0_objects_6 : decode cX0_objects 6 = .ok (.invokevirtual 25, 3) := by decide +kernel
theorem dX0_objects_9 : decode cX0_objects 9 = .ok (.ireturn, 1) := by decide +kernel
set_option maxRecDepth 20000 in
theorem ggX0_words_X2_two : GoodIn wsX0_words wsX2_two := goodIn_ca (goodIn_r _ [6, 7, 8, 10, 11] (by decide +kernel) (by decide +kernel)) (goodIn_sub (fun _ h => List.mem_cons_of_mem _ (List.mem_append_right _ h)) (by decide +kernel))
set_option maxRecDepth 20000 in
theorem gX0_words_X2_two : GoodIn wsX0_words (wsV RX0 25 RX2 yX2_two wsX2_two) := goodIn_app (goodIn_of _ (by decide +kernel)) ggX0_words_X2_two
theorem dX0_words_0 : decode cX0_words 0 = .ok (.aload_n 0, 1) := by decide +kernel
theorem dX0_words_1 : decode cX0_words 1 = .ok (.getfield 9, 3) := by decide +kernel
theorem dX0_words_4 : decode cX0_words 4 = .ok (.bipush 8, 2) := by decide +kernel
theorem dX0_words_6 : decode cX0_words 6 = .ok (.invokevirtual 25, 3) := by decide +kernel
theorem dX0_words_9 : decode cX0_words 9 = .ok (.ireturn, 1) := by decide +kernel
set_option maxRecDepth 20000 in
theorem ggX0_signs_X0_words : GoodIn wsX0_signs wsX0_words := goodIn_ca (goodIn_r _ [6, 1, 7, 8, 9, 10, 11, 12, 13, 18, 19, 20] (by decide +kernel) (by decide +kernel)) (goodIn_sub (fun _ h => List.mem_cons_of_mem _ (List.mem_append_right _ h)) (by decide +kernel))
set_option maxRecDepth 20000 in
theorem gX0_signs_X0_words : GoodIn wsX0_signs (wsV RX0 34 RX0 yX0_words wsX0_words) := goodIn_app (goodIn_of _ (by decide +kernel)) ggX0_signs_X0_words
set_option maxRecDepth 20000 in
theorem ggX0_signs_X2_at : GoodIn wsX0_signs wsX2_at := goodIn_ca (goodIn_r _ [17, 12, 13, 19, 20] (by decide +kernel) (by decide +kernel)) (goodIn_sub (fun _ h => List.mem_cons_of_mem _ (List.mem_append_right _ h)) (by decide +kernel))
set_option maxRecDepth 20000 in
theorem gX0_signs_X2_at : GoodIn wsX0_signs (wsV RX0 15 RX2 yX2_at wsX2_at) := goodIn_app (goodIn_of _ (by decide +kernel)) ggX0_signs_X2_at
theorem dX0_signs_0 : decode cX0_signs 0 = .ok (.aload_n 0, 1) := by decide +kernel
theorem dX0_signs_1 : decode cX0_signs 1 = .ok (.getfield 9, 3) := by decide +kernel
theorem dX0_signs_4 : decode cX0_signs 4 = .ok (.aload_n 0, 1) := by decide +kernel
theorem dX0_signs_5 : decode cX0_signs 5 = .ok (.invokevirtual 34, 3) := by decide +kernel
theorem dX0_signs_8 : decode cX0_signs 8 = .ok (.invokevirtual 15, 3) := by decide +kernel
theorem dX0_signs_11 : decode cX0_signs 11 = .ok (.ireturn, 1) := by decide +kernel
set_option maxRecDepth 20000 in
theorem ggX0_entryBytes_X0_words : GoodIn wsX0_entryBytes wsX0_words := goodIn_ca (goodIn_r _ [6, 1, 7, 8, 9, 10, 11, 12, 13, 22, 23, 24] (by decide +kernel) (by decide +kernel)) (goodIn_sub (fun _ h => List.mem_cons_of_mem _ (List.mem_append_right _ h)) (by decide +kernel))
set_option maxRecDepth 20000 in
theorem gX0_entryBytes_X0_words : GoodIn wsX0_entryBytes (wsV RX0 34 RX0 yX0_words wsX0_words) := goodIn_app (goodIn_of _ (by decide +kernel)) ggX0_entryBytes_X0_words
set_option maxRecDepth 20000 in
theorem ggX0_entryBytes_X0_signs : GoodIn wsX0_entryBytes wsX0_signs := goodIn_ca (goodIn_r _ [17, 1, 2, 3, 4, 5, 6, 7, 8, 9, 10, 11, 12, 13, 18, 19, 20, 21, 22, 23, 24] (by decide +kernel) (by decide +kernel)) (goodIn_sub (fun _ h => List.mem_cons_of_mem _ (List.mem_append_right _ h)) (by decide +kernel))
set_option maxRecDepth 20000 in
theorem gX0_entryBytes_X0_signs : GoodIn wsX0_entryBytes (wsV RX0 37 RX0 yX0_signs wsX0_signs) := goodIn_app (goodIn_of _ (by decide +kernel)) ggX0_entryBytes_X0_signs
set_option maxRecDepth 20000 in
theorem ggX0_entryBytes_X2_at : GoodIn wsX0_entryBytes wsX2_at := goodIn_ca (goodIn_r _ [21, 12, 13, 23, 24] (by decide +kernel) (by decide +kernel)) (goodIn_sub (fun _ h => List.mem_cons_of_mem _ (List.mem_append_right _ h)) (by decide +kernel))
set_option maxRecDepth 20000 in
theorem gX0_entryBytes_X2_at : GoodIn wsX0_entryBytes (wsV RX0 15 RX2 yX2_at wsX2_at) := goodIn_app (goodIn_of _ (by decide +kernel)) ggX0_entryBytes_X2_at
theorem dX0_entryBytes_0 : decode cX0_entryBytes 0 = .ok (.aload_n 0, 1) := by decide +kernel
theorem dX0_entryBytes_1 : decode cX0_entryBytes 1 = .ok (.getfield 9, 3) := by decide +kernel
theorem dX0_entryBytes_4 : decode cX0_entryBytes 4 = .ok (.aload_n 0, 1) := by decide +kernel
theorem dX0_entryBytes_5 : decode cX0_entryBytes 5 = .ok (.invokevirtual 34, 3) := by decide +kernel
theorem dX0_entryBytes_8 : decode cX0_entryBytes 8 = .ok (.iconst 1, 1) := by decide +kernel
theorem dX0_entryBytes_9 : decode cX0_entryBytes 9 = .ok (.iadd, 1) := by decide +kernel
theorem dX0_entryBytes_10 : decode cX0_entryBytes 10 = .ok (.aload_n 0, 1) := by decide +kernel
theorem dX0_entryBytes_11 : decode cX0_entryBytes 11 = .ok (.invokevirtual 37, 3) := by decide +kernel
theorem dX0_entryBytes_14 : decode cX0_entryBytes 14 = .ok (.iadd, 1) := by decide +kernel
theorem dX0_entryBytes_15 : decode cX0_entryBytes 15 = .ok (.invokevirtual 15, 3) := by decide +kernel
theorem dX0_entryBytes_18 : decode cX0_entryBytes 18 = .ok (.ireturn, 1) := by decide +kernel
set_option maxRecDepth 20000 in
theorem ggX0_entries_X0_words : GoodIn wsX0_entries wsX0_words := goodIn_ca (goodIn_r _ [6, 1, 7, 8, 9, 10, 11, 12, 13, 22, 23, 24] (by decide +kernel) (by decide +kernel)) (goodIn_sub (fun _ h => List.mem_cons_of_mem _ (List.mem_append_right _ h)) (by decide +kernel))
set_option maxRecDepth 20000 in
theorem gX0_entries_X0_words : GoodIn wsX0_entries (wsV RX0 34 RX0 yX0_words wsX0_words) := goodIn_app (goodIn_of _ (by decide +kernel)) ggX0_entries_X0_words
set_option maxRecDepth 20000 in
theorem ggX0_entries_X0_signs : GoodIn wsX0_entries wsX0_signs := goodIn_ca (goodIn_r _ [17, 1, 2, 3, 4, 5, 6, 7, 8, 9, 10, 11, 12, 13, 18, 19, 20, 21, 22, 23, 24] (by decide +kernel) (by decide +kernel)) (goodIn_sub (fun _ h => List.mem_cons_of_mem _ (List.mem_append_right _ h)) (by decide +kernel))
set_option maxRecDepth 20000 in
theorem gX0_entries_X0_signs : GoodIn wsX0_entries (wsV RX0 37 RX0 yX0_signs wsX0_signs) := goodIn_app (goodIn_of _ (by decide +kernel)) ggX0_entries_X0_signs
set_option maxRecDepth 20000 in
theorem ggX0_entries_X2_two : GoodIn wsX0_entries wsX2_two := goodIn_ca (goodIn_r _ [11, 12, 13, 23, 24] (by decide +kernel) (by decide +kernel)) (goodIn_sub (fun _ h => List.mem_cons_of_mem _ (List.mem_append_right _ h)) (by decide +kernel))
set_option maxRecDepth 20000 in
theorem gX0_entries_X2_two : GoodIn wsX0_entries (wsV RX0 25 RX2 yX2_two wsX2_two) := goodIn_app (goodIn_of _ (by decide +kernel)) ggX0_entries_X2_two
theorem dX0_entries_0 : decode cX0_entries 0 = .ok (.aload_n 0, 1) := by decide +kernel
theorem dX0_entries_1 : decode cX0_entries 1 = .ok (.getfield 9, 3) := by decide +kernel
theorem dX0_entries_4 : decode cX0_entries 4 = .ok (.aload_n 0, 1) := by decide +kernel
theorem dX0_entries_5 : decode cX0_entries 5 = .ok (.invokevirtual 34, 3) := by decide +kernel
theorem dX0_entries_8 : decode cX0_entries 8 = .ok (.iconst 2, 1) := by decide +kernel
theorem dX0_entries_9 : decode cX0_entries 9 = .ok (.iadd, 1) := by decide +kernel
theorem dX0_entries_10 : decode cX0_entries 10 = .ok (.aload_n 0, 1) := by decide +kernel
theorem dX0_entries_11 : decode cX0_entries 11 = .ok (.invokevirtual 37, 3) := by decide +kernel
theorem dX0_entries_14 : decode cX0_entries 14 = .ok (.iadd, 1) := by decide +kernel
theorem dX0_entries_15 : decode cX0_entries 15 = .ok (.invokevirtual 25, 3) := by decide +kernel
theorem dX0_entries_18 : decode cX0_entries 18 = .ok (.i2s, 1) := by decide +kernel
theorem dX0_entries_19 : decode cX0_entries 19 = .ok (.ireturn, 1) := by decide +kernel
set_option maxRecDepth 20000 in
theorem ggX0_shorts_X0_version : GoodIn wsX0_shorts wsX0_version := goodIn_ca (goodIn_r _ [6, 1, 7, 8, 9, 10, 11, 12, 13, 18, 19, 20] (by decide +kernel) (by decide +kernel)) (goodIn_sub (fun _ h => List.mem_cons_of_mem _ (List.mem_append_right _ h)) (by decide +kernel))
set_option maxRecDepth 20000 in
theorem gX0_shorts_X0_version : GoodIn wsX0_shorts (wsV RX0 21 RX0 yX0_version wsX0_version) := goodIn_app (goodIn_of _ (by decide +kernel)) ggX0_shorts_X0_version
set_option maxRecDepth 20000 in
theorem ggX0_shorts_X2_two : GoodIn wsX0_shorts wsX2_two := goodIn_ca (goodIn_r _ [17, 12, 13, 19, 20] (by decide +kernel) (by decide +kernel)) (goodIn_sub (fun _ h => List.mem_cons_of_mem _ (List.mem_append_right _ h)) (by decide +kernel))
set_option maxRecDepth 20000 in
theorem gX0_shorts_X2_two : GoodIn wsX0_shorts (wsV RX0 25 RX2 yX2_two wsX2_two) := goodIn_app (goodIn_of _ (by decide +kernel)) ggX0_shorts_X2_two
theorem dX0_shorts_0 : decode cX0_shorts 0 = .ok (.aload_n 0, 1) := by decide +kernel
theorem dX0_shorts_1 : decode cX0_shorts 1 = .ok (.invokevirtual 21, 3) := by decide +kernel
theorem dX0_shorts_4 : decode cX0_shorts 4 = .ok (.iconst 1, 1) := by decide +kernel
theorem dX0_shorts_5 : decode cX0_shorts 5 = .ok (.if_icmp .ne 7, 3) := by decide +kernel
theorem dX0_shorts_8 : decode cX0_shorts 8 = .ok (.iconst 0, 1) := by decide +kernel
theorem dX0_shorts_9 : decode cX0_shorts 9 = .ok (.goto 12, 3) := by decide +kernel
theorem dX0_shorts_12 : decode cX0_shorts 12 = .ok (.aload_n 0, 1) := by decide +kernel
theorem dX0_shorts_13 : decode cX0_shorts 13 = .ok (.getfield 9, 3) := by decide +kernel
theorem dX0_shorts_16 : decode cX0_shorts 16 = .ok (.bipush 24, 2) := by decide +kernel
theorem dX0_shorts_18 : decode cX0_shorts 18 = .ok (.invokevirtual 25, 3) := by decide +kernel
theorem dX0_shorts_21 : decode cX0_shorts 21 = .ok (.ireturn, 1) := by decide +kernel
set_option maxRecDepth 20000 in
theorem ggX0_start_X0_version : GoodIn wsX0_start wsX0_version := goodIn_ca (goodIn_r _ [6, 1, 7, 8, 9, 10, 11, 12, 13, 18, 19, 20] (by decide +kernel) (by decide +kernel)) (goodIn_sub (fun _ h => List.mem_cons_of_mem _ (List.mem_append_right _ h)) (by decide +kernel))
set_option maxRecDepth 20000 in
theorem gX0_start_X0_version : GoodIn wsX0_start (wsV RX0 21 RX0 yX0_version wsX0_version) := goodIn_app (goodIn_of _ (by decide +kernel)) ggX0_start_X0_version
set_option maxRecDepth 20000 in
theorem ggX0_start_X2_two : GoodIn wsX0_start wsX2_two := goodIn_ca (goodIn_r _ [17, 12, 13, 19, 20] (by decide +kernel) (by decide +kernel)) (goodIn_sub (fun _ h => List.mem_cons_of_mem _ (List.mem_append_right _ h)) (by decide +kernel))
set_option maxRecDepth 20000 in
theorem gX0_start_X2_two : GoodIn wsX0_start (wsV RX0 25 RX2 yX2_two wsX2_two) := goodIn_app (goodIn_of _ (by decide +kernel)) ggX0_start_X2_two
theorem dX0_start_0 : decode cX0_start 0 = .ok (.aload_n 0, 1) := by decide +kernel
theorem dX0_start_1 : decode cX0_start 1 = .ok (.invokevirtual 21, 3) := by decide +kernel
theorem dX0_start_4 : decode cX0_start 4 = .ok (.bipush 6, 2) := by decide +kernel
theorem dX0_start_6 : decode cX0_start 6 = .ok (.if_icmp .ne 30, 3) := by decide +kernel
theorem dX0_start_9 : decode cX0_start 9 = .ok (.iconst 4, 1) := by decide +kernel
theorem dX0_start_10 : decode cX0_start 10 = .ok (.aload_n 0, 1) := by decide +kernel
theorem dX0_start_11 : decode cX0_start 11 = .ok (.getfield 9, 3) := by decide +kernel
theorem dX0_start_14 : decode cX0_start 14 = .ok (.bipush 6, 2) := by decide +kernel
theorem dX0_start_16 : decode cX0_start 16 = .ok (.invokevirtual 25, 3) := by decide +kernel
theorem dX0_start_19 : decode cX0_start 19 = .ok (.imul, 1) := by decide +kernel
theorem dX0_start_20 : decode cX0_start 20 = .ok (.bipush 8, 2) := by decide +kernel
theorem dX0_start_22 : decode cX0_start 22 = .ok (.aload_n 0, 1) := by decide +kernel
theorem dX0_start_23 : decode cX0_start 23 = .ok (.getfield 9, 3) := by decide +kernel
theorem dX0_start_26 : decode cX0_start 26 = .ok (.bipush 40, 2) := by decide +kernel
theorem dX0_start_28 : decode cX0_start 28 = .ok (.invokevirtual 25, 3) := by decide +kernel
theorem dX0_start_31 : decode cX0_start 31 = .ok (.imul, 1) := by decide +kernel
theorem dX0_start_32 : decode cX0_start 32 = .ok (.iadd, 1) := by decide +kernel
theorem dX0_start_33 : decode cX0_start 33 = .ok (.goto 12, 3) := by decide +kernel
theorem dX0_start_36 : decode cX0_start 36 = .ok (.aload_n 0, 1) := by decide +kernel
theorem dX0_start_37 : decode cX0_start 37 = .ok (.getfield 9, 3) := by decide +kernel
theorem dX0_start_40 : decode cX0_start 40 = .ok (.bipush 6, 2) := by decide +kernel
theorem dX0_start_42 : decode cX0_start 42 = .ok (.invokevirtual 25, 3) := by decide +kernel
theorem dX0_start_45 : decode cX0_start 45 = .ok (.ireturn, 1) := by decide +kernel
set_option maxRecDepth 20000 in
theorem ggX0_letters_X0_version : GoodIn wsX0_letters wsX0_version := goodIn_ca (goodIn_r _ [6, 1, 7, 8, 9, 10, 11, 12, 13, 18, 19, 20] (by decide +kernel) (by decide +kernel)) (goodIn_sub (fun _ h => List.mem_cons_of_mem _ (List.mem_append_right _ h)) (by decide +kernel))
set_option maxRecDepth 20000 in
theorem gX0_letters_X0_version : GoodIn wsX0_letters (wsV RX0 21 RX0 yX0_version wsX0_version) := goodIn_app (goodIn_of _ (by decide +kernel)) ggX0_letters_X0_version
set_option maxRecDepth 20000 in
theorem ggX0_letters_X2_two : GoodIn wsX0_letters wsX2_two := goodIn_ca (goodIn_r _ [17, 12, 13, 19, 20] (by decide +kernel) (by decide +kernel)) (goodIn_sub (fun _ h => List.mem_cons_of_mem _ (List.mem_append_right _ h)) (by decide +kernel))
set_option maxRecDepth 20000 in
theorem gX0_letters_X2_two : GoodIn wsX0_letters (wsV RX0 25 RX2 yX2_two wsX2_two) := goodIn_app (goodIn_of _ (by decide +kernel)) ggX0_letters_X2_two
theorem dX0_letters_0 : decode cX0_letters 0 = .ok (.aload_n 0, 1) := by decide +kernel
theorem dX0_letters_1 : decode cX0_letters 1 = .ok (.invokevirtual 21, 3) := by decide +kernel
theorem dX0_letters_4 : decode cX0_letters 4 = .ok (.iconst 5, 1) := by decide +kernel
theorem dX0_letters_5 : decode cX0_letters 5 = .ok (.if_icmp .ge 7, 3) := by decide +kernel
theorem dX0_letters_8 : decode cX0_letters 8 = .ok (.iconst 0, 1) := by decide +kernel
theorem dX0_letters_9 : decode cX0_letters 9 = .ok (.goto 12, 3) := by decide +kernel
theorem dX0_letters_12 : decode cX0_letters 12 = .ok (.aload_n 0, 1) := by decide +kernel
theorem dX0_letters_13 : decode cX0_letters 13 = .ok (.getfield 9, 3) := by decide +kernel
theorem dX0_letters_16 : decode cX0_letters 16 = .ok (.bipush 52, 2) := by decide +kernel
theorem dX0_letters_18 : decode cX0_letters 18 = .ok (.invokevirtual 25, 3) := by decide +kernel
theorem dX0_letters_21 : decode cX0_letters 21 = .ok (.ireturn, 1) := by decide +kernel
set_option maxRecDepth 20000 in
theorem ggX0_ends_X0_version : GoodIn wsX0_ends wsX0_version := goodIn_ca (goodIn_r _ [6, 1, 7, 8, 9, 10, 11, 12, 13, 18, 19, 20] (by decide +kernel) (by decide +kernel)) (goodIn_sub (fun _ h => List.mem_cons_of_mem _ (List.mem_append_right _ h)) (by decide +kernel))
set_option maxRecDepth 20000 in
theorem gX0_ends_X0_version : GoodIn wsX0_ends (wsV RX0 21 RX0 yX0_version wsX0_version) := goodIn_app (goodIn_of _ (by decide +kernel)) ggX0_ends_X0_version
set_option maxRecDepth 20000 in
theorem ggX0_ends_X2_two : GoodIn wsX0_ends wsX2_two := goodIn_ca (goodIn_r _ [17, 12, 13, 19, 20] (by decide +kernel) (by decide +kernel)) (goodIn_sub (fun _ h => List.mem_cons_of_mem _ (List.mem_append_right _ h)) (by decide +kernel))
set_option maxRecDepth 20000 in
theorem gX0_ends_X2_two : GoodIn wsX0_ends (wsV RX0 25 RX2 yX2_two wsX2_two) := goodIn_app (goodIn_of _ (by decide +kernel)) ggX0_ends_X2_two
theorem dX0_ends_0 : decode cX0_ends 0 = .ok (.aload_n 0, 1) := by decide +kernel
theorem dX0_ends_1 : decode cX0_ends 1 = .ok (.invokevirtual 21, 3) := by decide +kernel
theorem dX0_ends_4 : decode cX0_ends 4 = .ok (.iconst 5, 1) := by decide +kernel
theorem dX0_ends_5 : decode cX0_ends 5 = .ok (.if_icmp .ge 7, 3) := by decide +kernel
theorem dX0_ends_8 : decode cX0_ends 8 = .ok (.iconst 0, 1) := by decide +kernel
theorem dX0_ends_9 : decode cX0_ends 9 = .ok (.goto 12, 3) := by decide +kernel
theorem dX0_ends_12 : decode cX0_ends 12 = .ok (.aload_n 0, 1) := by decide +kernel
theorem dX0_ends_13 : decode cX0_ends 13 = .ok (.getfield 9, 3) := by decide +kernel
theorem dX0_ends_16 : decode cX0_ends 16 = .ok (.bipush 46, 2) := by decide +kernel
theorem dX0_ends_18 : decode cX0_ends 18 = .ok (.invokevirtual 25, 3) := by decide +kernel
theorem dX0_ends_21 : decode cX0_ends 21 = .ok (.ireturn, 1) := by decide +kernel
set_option maxRecDepth 20000 in
theorem ggX0_more_X0_version : GoodIn wsX0_more wsX0_version := goodIn_ca (goodIn_r _ [6, 1, 7, 8, 9, 10, 11, 12, 13, 18, 19, 20] (by decide +kernel) (by decide +kernel)) (goodIn_sub (fun _ h => List.mem_cons_of_mem _ (List.mem_append_right _ h)) (by decide +kernel))
set_option maxRecDepth 20000 in
theorem gX0_more_X0_version : GoodIn wsX0_more (wsV RX0 21 RX0 yX0_version wsX0_version) := goodIn_app (goodIn_of _ (by decide +kernel)) ggX0_more_X0_version
set_option maxRecDepth 20000 in
theorem ggX0_more_X2_two : GoodIn wsX0_more wsX2_two := goodIn_ca (goodIn_r _ [17, 12, 13, 19, 20] (by decide +kernel) (by decide +kernel)) (goodIn_sub (fun _ h => List.mem_cons_of_mem _ (List.mem_append_right _ h)) (by decide +kernel))
set_option maxRecDepth 20000 in
theorem gX0_more_X2_two : GoodIn wsX0_more (wsV RX0 25 RX2 yX2_two wsX2_two) := goodIn_app (goodIn_of _ (by decide +kernel)) ggX0_more_X2_two
theorem dX0_more_0 : decode cX0_more 0 = .ok (.aload_n 0, 1) := by decide +kernel
theorem dX0_more_1 : decode cX0_more 1 = .ok (.invokevirtual 21, 3) := by decide +kernel
theorem dX0_more_4 : decode cX0_more 4 = .ok (.iconst 5, 1) := by decide +kernel
theorem dX0_more_5 : decode cX0_more 5 = .ok (.if_icmp .ge 7, 3) := by decide +kernel
theorem dX0_more_8 : decode cX0_more 8 = .ok (.iconst 0, 1) := by decide +kernel
theorem dX0_more_9 : decode cX0_more 9 = .ok (.goto 12, 3) := by decide +kernel
theorem dX0_more_12 : decode cX0_more 12 = .ok (.aload_n 0, 1) := by decide +kernel
theorem dX0_more_13 : decode cX0_more 13 = .ok (.getfield 9, 3) := by decide +kernel
theorem dX0_more_16 : decode cX0_more 16 = .ok (.bipush 54, 2) := by decide +kernel
theorem dX0_more_18 : decode cX0_more 18 = .ok (.invokevirtual 25, 3) := by decide +kernel
theorem dX0_more_21 : decode cX0_more 21 = .ok (.ireturn, 1) := by decide +kernel
set_option maxRecDepth 20000 in
theorem ggX0_moreWords_X0_more : GoodIn wsX0_moreWords wsX0_more := goodIn_ca (goodIn_r _ [6, 1, 7, 8, 9, 5, 10, 11, 12, 13, 14, 15, 16, 17, 18, 19, 20, 21, 22, 23, 24] (by decide +kernel) (by decide +kernel)) (goodIn_sub (fun _ h => List.mem_cons_of_mem _ (List.mem_append_right _ h)) (by decide +kernel))
set_option maxRecDepth 20000 in
theorem gX0_moreWords_X0_more : GoodIn wsX0_moreWords (wsV RX0 40 RX0 yX0_more wsX0_more) := goodIn_app (goodIn_of _ (by decide +kernel)) ggX0_moreWords_X0_more
set_option maxRecDepth 20000 in
theorem ggX0_moreWords_X2_two : GoodIn wsX0_moreWords wsX2_two := goodIn_ca (goodIn_r _ [21, 16, 17, 23, 24] (by decide +kernel) (by decide +kernel)) (goodIn_sub (fun _ h => List.mem_cons_of_mem _ (List.mem_append_right _ h)) (by decide +kernel))
set_option maxRecDepth 20000 in
theorem gX0_moreWords_X2_two : GoodIn wsX0_moreWords (wsV RX0 25 RX2 yX2_two wsX2_two) := goodIn_app (goodIn_of _ (by decide +kernel)) ggX0_moreWords_X2_two
theorem dX0_moreWords_0 : decode cX0_moreWords 0 = .ok (.aload_n 0, 1) := by decide +kernel
theorem dX0_moreWords_1 : decode cX0_moreWords 1 = .ok (.invokevirtual 40, 3) := by decide +kernel
theorem dX0_moreWords_4 : decode cX0_moreWords 4 = .ok (.istore_n 1, 1) := by decide +kernel
theorem dX0_moreWords_5 : decode cX0_moreWords 5 = .ok (.iload_n 1, 1) := by decide +kernel
theorem dX0_moreWords_6 : decode cX0_moreWords 6 = .ok (.ifCond .ne 7, 3) := by decide +kernel
theorem dX0_moreWords_9 : decode cX0_moreWords 9 = .ok (.iconst 0, 1) := by decide +kernel
theorem dX0_moreWords_10 : decode cX0_moreWords 10 = .ok (.goto 11, 3) := by decide +kernel
theorem dX0_moreWords_13 : decode cX0_moreWords 13 = .ok (.aload_n 0, 1) := by decide +kernel
theorem dX0_moreWords_14 : decode cX0_moreWords 14 = .ok (.getfield 9, 3) := by decide +kernel
theorem dX0_moreWords_17 : decode cX0_moreWords 17 = .ok (.iload_n 1, 1) := by decide +kernel
theorem dX0_moreWords_18 : decode cX0_moreWords 18 = .ok (.invokevirtual 25, 3) := by decide +kernel
theorem dX0_moreWords_21 : decode cX0_moreWords 21 = .ok (.ireturn, 1) := by decide +kernel
set_option maxRecDepth 20000 in
theorem ggX0_thirdWord_X0_more : GoodIn wsX0_thirdWord wsX0_more := goodIn_ca (goodIn_r _ [6, 1, 7, 8, 9, 5, 10, 11, 12, 13, 14, 15, 16, 17, 18, 19, 20, 21, 22, 23, 24] (by decide +kernel) (by decide +kernel)) (goodIn_sub (fun _ h => List.mem_cons_of_mem _ (List.mem_append_right _ h)) (by decide +kernel))
set_option maxRecDepth 20000 in
theorem gX0_thirdWord_X0_more : GoodIn wsX0_thirdWord (wsV RX0 40 RX0 yX0_more wsX0_more) := goodIn_app (goodIn_of _ (by decide +kernel)) ggX0_thirdWord_X0_more
set_option maxRecDepth 20000 in
theorem ggX0_thirdWord_X2_two : GoodIn wsX0_thirdWord wsX2_two := goodIn_ca (goodIn_r _ [21, 16, 17, 23, 24] (by decide +kernel) (by decide +kernel)) (goodIn_sub (fun _ h => List.mem_cons_of_mem _ (List.mem_append_right _ h)) (by decide +kernel))
set_option maxRecDepth 20000 in
theorem gX0_thirdWord_X2_two : GoodIn wsX0_thirdWord (wsV RX0 25 RX2 yX2_two wsX2_two) := goodIn_app (goodIn_of _ (by decide +kernel)) ggX0_thirdWord_X2_two
theorem dX0_thirdWord_0 : decode cX0_thirdWord 0 = .ok (.aload_n 0, 1) := by decide +kernel
theorem dX0_thirdWord_1 : decode cX0_thirdWord 1 = .ok (.invokevirtual 40, 3) := by decide +kernel
theorem dX0_thirdWord_4 : decode cX0_thirdWord 4 = .ok (.istore_n 1, 1) := by decide +kernel
theorem dX0_thirdWord_5 : decode cX0_thirdWord 5 = .ok (.iload_n 1, 1) := by decide +kernel
theorem dX0_thirdWord_6 : decode cX0_thirdWord 6 = .ok (.ifCond .eq 15, 3) := by decide +kernel
theorem dX0_thirdWord_9 : decode cX0_thirdWord 9 = .ok (.aload_n 0, 1) := by decide +kernel
theorem dX0_thirdWord_10 : decode cX0_thirdWord 10 = .ok (.getfield 9, 3) := by decide +kernel
theorem dX0_thirdWord_13 : decode cX0_thirdWord 13 = .ok (.iload_n 1, 1) := by decide +kernel
theorem dX0_thirdWord_14 : decode cX0_thirdWord 14 = .ok (.invokevirtual 25, 3) := by decide +kernel
theorem dX0_thirdWord_17 : decode cX0_thirdWord 17 = .ok (.iconst 3, 1) := by decide +kernel
theorem dX0_thirdWord_18 : decode cX0_thirdWord 18 = .ok (.if_icmp .ge 7, 3) := by decide +kernel
theorem dX0_thirdWord_21 : decode cX0_thirdWord 21 = .ok (.iconst 0, 1) := by decide +kernel
theorem dX0_thirdWord_22 : decode cX0_thirdWord 22 = .ok (.goto 14, 3) := by decide +kernel
theorem dX0_thirdWord_25 : decode cX0_thirdWord 25 = .ok (.aload_n 0, 1) := by decide +kernel
theorem dX0_thirdWord_26 : decode cX0_thirdWord 26 = .ok (.getfield 9, 3) := by decide +kernel
theorem dX0_thirdWord_29 : decode cX0_thirdWord 29 = .ok (.iload_n 1, 1) := by decide +kernel
theorem dX0_thirdWord_30 : decode cX0_thirdWord 30 = .ok (.bipush 6, 2) := by decide +kernel
theorem dX0_thirdWord_32 : decode cX0_thirdWord 32 = .ok (.iadd, 1) := by decide +kernel
theorem dX0_thirdWord_33 : decode cX0_thirdWord 33 = .ok (.invokevirtual 25, 3) := by decide +kernel
theorem dX0_thirdWord_36 : decode cX0_thirdWord 36 = .ok (.ireturn, 1) := by decide +kernel
set_option maxRecDepth 20000 in
theorem ggX0_unpacked_X0_version : GoodIn wsX0_unpacked wsX0_version := goodIn_ca (goodIn_r _ [6, 1, 7, 8, 9, 10, 11, 12, 13, 18, 19, 20] (by decide +kernel) (by decide +kernel)) (goodIn_sub (fun _ h => List.mem_cons_of_mem _ (List.mem_append_right _ h)) (by decide +kernel))
set_option maxRecDepth 20000 in
theorem gX0_unpacked_X0_version : GoodIn wsX0_unpacked (wsV RX0 21 RX0 yX0_version wsX0_version) := goodIn_app (goodIn_of _ (by decide +kernel)) ggX0_unpacked_X0_version
set_option maxRecDepth 20000 in
theorem ggX0_unpacked_X2_two : GoodIn wsX0_unpacked wsX2_two := goodIn_ca (goodIn_r _ [17, 12, 13, 19, 20] (by decide +kernel) (by decide +kernel)) (goodIn_sub (fun _ h => List.mem_cons_of_mem _ (List.mem_append_right _ h)) (by decide +kernel))
set_option maxRecDepth 20000 in
theorem gX0_unpacked_X2_two : GoodIn wsX0_unpacked (wsV RX0 25 RX2 yX2_two wsX2_two) := goodIn_app (goodIn_of _ (by decide +kernel)) ggX0_unpacked_X2_two
theorem dX0_unpacked_0 : decode cX0_unpacked 0 = .ok (.aload_n 0, 1) := by decide +kernel
theorem dX0_unpacked_1 : decode cX0_unpacked 1 = .ok (.invokevirtual 21, 3) := by decide +kernel
theorem dX0_unpacked_4 : decode cX0_unpacked 4 = .ok (.istore_n 3, 1) := by decide +kernel
theorem dX0_unpacked_5 : decode cX0_unpacked 5 = .ok (.iload_n 3, 1) := by decide +kernel
theorem dX0_unpacked_6 : decode cX0_unpacked 6 = .ok (.iconst 3, 1) := by decide +kernel
theorem dX0_unpacked_7 : decode cX0_unpacked 7 = .ok (.if_icmp .gt 7, 3) := by decide +kernel
theorem dX0_unpacked_10 : decode cX0_unpacked 10 = .ok (.iconst 2, 1) := by decide +kernel
theorem dX0_unpacked_11 : decode cX0_unpacked 11 = .ok (.iload_n 1, 1) := by decide +kernel
theorem dX0_unpacked_12 : decode cX0_unpacked 12 = .ok (.imul, 1) := by decide +kernel
theorem dX0_unpacked_13 : decode cX0_unpacked 13 = .ok (.ireturn, 1) := by decide +kernel
theorem dX0_unpacked_14 : decode cX0_unpacked 14 = .ok (.iload_n 3, 1) := by decide +kernel
theorem dX0_unpacked_15 : decode cX0_unpacked 15 = .ok (.iconst 5, 1) := by decide +kernel
theorem dX0_unpacked_16 : decode cX0_unpacked 16 = .ok (.if_icmp .gt 7, 3) := by decide +kernel
theorem dX0_unpacked_19 : decode cX0_unpacked 19 = .ok (.iconst 4, 1) := by decide +kernel
theorem dX0_unpacked_20 : decode cX0_unpacked 20 = .ok (.iload_n 1, 1) := by decide +kernel
theorem dX0_unpacked_21 : decode cX0_unpacked 21 = .ok (.imul, 1) := by decide +kernel
theorem dX0_unpacked_22 : decode cX0_unpacked 22 = .ok (.ireturn, 1) := by decide +kernel
theorem dX0_unpacked_23 : decode cX0_unpacked 23 = .ok (.iload_n 3, 1) := by decide +kernel
theorem dX0_unpacked_24 : decode cX0_unpacked 24 = .ok (.bipush 8, 2) := by decide +kernel
theorem dX0_unpacked_26 : decode cX0_unpacked 26 = .ok (.if_icmp .ne 10, 3) := by decide +kernel
theorem dX0_unpacked_29 : decode cX0_unpacked 29 = .ok (.bipush 8, 2) := by decide +kernel
theorem dX0_unpacked_31 : decode cX0_unpacked 31 = .ok (.iload_n 1, 1) := by decide +kernel
theorem dX0_unpacked_32 : decode cX0_unpacked 32 = .ok (.imul, 1) := by decide +kernel
theorem dX0_unpacked_33 : decode cX0_unpacked 33 = .ok (.goto 28, 3) := by decide +kernel
theorem dX0_unpacked_36 : decode cX0_unpacked 36 = .ok (.iconst 4, 1) := by decide +kernel
theorem dX0_unpacked_37 : decode cX0_unpacked 37 = .ok (.iload_n 1, 1) := by decide +kernel
theorem dX0_unpacked_38 : decode cX0_unpacked 38 = .ok (.imul, 1) := by decide +kernel
theorem dX0_unpacked_39 : decode cX0_unpacked 39 = .ok (.bipush 8, 2) := by decide +kernel
theorem dX0_unpacked_41 : decode cX0_unpacked 41 = .ok (.aload_n 0, 1) := by decide +kernel
theorem dX0_unpacked_42 : decode cX0_unpacked 42 = .ok (.getfield 9, 3) := by decide +kernel
theorem dX0_unpacked_45 : decode cX0_unpacked 45 = .ok (.iload_n 2, 1) := by decide +kernel
theorem dX0_unpacked_46 : decode cX0_unpacked 46 = .ok (.ifCond .eq 8, 3) := by decide +kernel
theorem dX0_unpacked_49 : decode cX0_unpacked 49 = .ok (.bipush 42, 2) := by decide +kernel
theorem dX0_unpacked_51 : decode cX0_unpacked 51 = .ok (.goto 5, 3) := by decide +kernel
theorem dX0_unpacked_54 : decode cX0_unpacked 54 = .ok (.bipush 40, 2) := by decide +kernel
theorem dX0_unpacked_56 : decode cX0_unpacked 56 = .ok (.invokevirtual 25, 3) := by decide +kernel
theorem dX0_unpacked_59 : decode cX0_unpacked 59 = .ok (.imul, 1) := by decide +kernel
theorem dX0_unpacked_60 : decode cX0_unpacked 60 = .ok (.iadd, 1) := by decide +kernel
theorem dX0_unpacked_61 : decode cX0_unpacked 61 = .ok (.ireturn, 1) := by decide +kernel
set_option maxRecDepth 20000 in
theorem ggX0_term_X0_version : GoodIn wsX0_term wsX0_version := goodIn_ca (goodIn_r _ [6, 1, 7, 8, 9, 10, 11, 12, 13, 90, 91, 92] (by decide +kernel) (by decide +kernel)) (goodIn_sub (fun _ h => List.mem_cons_of_mem _ (List.mem_append_right _ h)) (by decide +kernel))
set_option maxRecDepth 20000 in
theorem gX0_term_X0_version : GoodIn wsX0_term (wsV RX0 21 RX0 yX0_version wsX0_version) := goodIn_app (goodIn_of _ (by decide +kernel)) ggX0_term_X0_version
set_option maxRecDepth 20000 in
theorem ggX0_term_X0_length : GoodIn wsX0_term wsX0_length := goodIn_ca (goodIn_r _ [17, 1, 18, 19, 20, 10, 21, 12, 13, 2, 3, 4, 5, 6, 7, 8, 9, 11, 22, 23, 24, 25, 26, 27, 28, 29, 90, 91, 92] (by decide +kernel) (by decide +kernel)) (goodIn_sub (fun _ h => List.mem_cons_of_mem _ (List.mem_append_right _ h)) (by decide +kernel))
set_option maxRecDepth 20000 in
theorem gX0_term_X0_length : GoodIn wsX0_term (wsV RX0 43 RX0 yX0_length wsX0_length) := goodIn_app (goodIn_of _ (by decide +kernel)) ggX0_term_X0_length
set_option maxRecDepth 20000 in
theorem ggX0_term_X0_staticFrom : GoodIn wsX0_term wsX0_staticFrom := goodIn_ca (goodIn_r _ [33, 1, 18, 19, 20, 10, 21, 12, 13, 90, 91, 92] (by decide +kernel) (by decide +kernel)) (goodIn_sub (fun _ h => List.mem_cons_of_mem _ (List.mem_append_right _ h)) (by decide +kernel))
set_option maxRecDepth 20000 in
theorem gX0_term_X0_staticFrom : GoodIn wsX0_term (wsV RX0 46 RX0 yX0_staticFrom wsX0_staticFrom) := goodIn_app (goodIn_of _ (by decide +kernel)) ggX0_term_X0_staticFrom
set_option maxRecDepth 20000 in
theorem ggX0_term_X0_high : GoodIn wsX0_term wsX0_high := goodIn_ca (goodIn_r _ [37, 1, 18, 19, 20, 10, 21, 12, 13, 90, 91, 92] (by decide +kernel) (by decide +kernel)) (goodIn_sub (fun _ h => List.mem_cons_of_mem _ (List.mem_append_right _ h)) (by decide +kernel))
set_option maxRecDepth 20000 in
theorem gX0_term_X0_high : GoodIn wsX0_term (wsV RX0 49 RX0 yX0_high wsX0_high) := goodIn_app (goodIn_of _ (by decide +kernel)) ggX0_term_X0_high
set_option maxRecDepth 20000 in
theorem ggX0_term_X0_globals : GoodIn wsX0_term wsX0_globals := goodIn_ca (goodIn_r _ [41, 1, 18, 19, 20, 10, 21, 12, 13, 90, 91, 92] (by decide +kernel) (by decide +kernel)) (goodIn_sub (fun _ h => List.mem_cons_of_mem _ (List.mem_append_right _ h)) (by decide +kernel))
set_option maxRecDepth 20000 in
theorem gX0_term_X0_globals : GoodIn wsX0_term (wsV RX0 52 RX0 yX0_globals wsX0_globals) := goodIn_app (goodIn_of _ (by decide +kernel)) ggX0_term_X0_globals
set_option maxRecDepth 20000 in
theorem ggX0_term_X0_objects : GoodIn wsX0_term wsX0_objects := goodIn_ca (goodIn_r _ [45, 1, 18, 19, 20, 10, 21, 12, 13, 90, 91, 92] (by decide +kernel) (by decide +kernel)) (goodIn_sub (fun _ h => List.mem_cons_of_mem _ (List.mem_append_right _ h)) (by decide +kernel))
set_option maxRecDepth 20000 in
theorem gX0_term_X0_objects : GoodIn wsX0_term (wsV RX0 55 RX0 yX0_objects wsX0_objects) := goodIn_app (goodIn_of _ (by decide +kernel)) ggX0_term_X0_objects
set_option maxRecDepth 20000 in
theorem ggX0_term_X0_words : GoodIn wsX0_term wsX0_words := goodIn_ca (goodIn_r _ [49, 1, 18, 19, 20, 10, 21, 12, 13, 90, 91, 92] (by decide +kernel) (by decide +kernel)) (goodIn_sub (fun _ h => List.mem_cons_of_mem _ (List.mem_append_right _ h)) (by decide +kernel))
set_option maxRecDepth 20000 in
theorem gX0_term_X0_words : GoodIn wsX0_term (wsV RX0 34 RX0 yX0_words wsX0_words) := goodIn_app (goodIn_of _ (by decide +kernel)) ggX0_term_X0_words
set_option maxRecDepth 20000 in
theorem ggX0_term_X0_shorts : GoodIn wsX0_term wsX0_shorts := goodIn_ca (goodIn_r _ [53, 1, 2, 3, 4, 5, 6, 7, 8, 9, 10, 11, 12, 13, 18, 19, 20, 21, 90, 91, 92] (by decide +kernel) (by decide +kernel)) (goodIn_sub (fun _ h => List.mem_cons_of_mem _ (List.mem_append_right _ h)) (by decide +kernel))
set_option maxRecDepth 20000 in
theorem gX0_term_X0_shorts : GoodIn wsX0_term (wsV RX0 58 RX0 yX0_shorts wsX0_shorts) := goodIn_app (goodIn_of _ (by decide +kernel)) ggX0_term_X0_shorts
set_option maxRecDepth 20000 in
theorem ggX0_term_X0_start : GoodIn wsX0_term wsX0_start := goodIn_ca (goodIn_r _ [57, 1, 2, 3, 4, 5, 6, 7, 8, 9, 10, 11, 12, 13, 18, 19, 20, 21, 90, 91, 92] (by decide +kernel) (by decide +kernel)) (goodIn_sub (fun _ h => List.mem_cons_of_mem _ (List.mem_append_right _ h)) (by decide +kernel))
set_option maxRecDepth 20000 in
theorem gX0_term_X0_start : GoodIn wsX0_term (wsV RX0 61 RX0 yX0_start wsX0_start) := goodIn_app (goodIn_of _ (by decide +kernel)) ggX0_term_X0_start
set_option maxRecDepth 20000 in
theorem ggX0_term_X0_letters : GoodIn wsX0_term wsX0_letters := goodIn_ca (goodIn_r _ [61, 1, 2, 3, 4, 5, 6, 7, 8, 9, 10, 11, 12, 13, 18, 19, 20, 21, 90, 91, 92] (by decide +kernel) (by decide +kernel)) (goodIn_sub (fun _ h => List.mem_cons_of_mem _ (List.mem_append_right _ h)) (by decide +kernel))
set_option maxRecDepth 20000 in
theorem gX0_term_X0_letters : GoodIn wsX0_term (wsV RX0 64 RX0 yX0_letters wsX0_letters) := goodIn_app (goodIn_of _ (by decide +kernel)) ggX0_term_X0_letters
set_option maxRecDepth 20000 in
theorem ggX0_term_X0_ends : GoodIn wsX0_term wsX0_ends := goodIn_ca (goodIn_r _ [65, 1, 2, 3, 4, 5, 6, 7, 8, 9, 10, 11, 12, 13, 18, 19, 20, 21, 90, 91, 92] (by decide +kernel) (by decide +kernel)) (goodIn_sub (fun _ h => List.mem_cons_of_mem _ (List.mem_append_right _ h)) (by decide +kernel))
set_option maxRecDepth 20000 in
theorem gX0_term_X0_ends : GoodIn wsX0_term (wsV RX0 67 RX0 yX0_ends wsX0_ends) := goodIn_app (goodIn_of _ (by decide +kernel)) ggX0_term_X0_ends
set_option maxRecDepth 20000 in
theorem ggX0_term_X0_moreWords : GoodIn wsX0_term wsX0_moreWords := goodIn_ca (goodIn_r _ [69, 1, 70, 71, 72, 5, 73, 2, 3, 4, 6, 7, 8, 9, 10, 11, 12, 13, 18, 19, 20, 21, 90, 91, 92] (by decide +kernel) (by decide +kernel)) (goodIn_sub (fun _ h => List.mem_cons_of_mem _ (List.mem_append_right _ h)) (by decide +kernel))
set_option maxRecDepth 20000 in
theorem gX0_term_X0_moreWords : GoodIn wsX0_term (wsV RX0 70 RX0 yX0_moreWords wsX0_moreWords) := goodIn_app (goodIn_of _ (by decide +kernel)) ggX0_term_X0_moreWords
set_option maxRecDepth 20000 in
theorem ggX0_term_X0_thirdWord : GoodIn wsX0_term wsX0_thirdWord := goodIn_ca (goodIn_r _ [77, 1, 70, 71, 72, 5, 73, 2, 3, 4, 6, 7, 8, 9, 10, 11, 12, 13, 18, 19, 20, 21, 90, 91, 92] (by decide +kernel) (by decide +kernel)) (goodIn_sub (fun _ h => List.mem_cons_of_mem _ (List.mem_append_right _ h)) (by decide +kernel))
set_option maxRecDepth 20000 in
theorem gX0_term_X0_thirdWord : GoodIn wsX0_term (wsV RX0 73 RX0 yX0_thirdWord wsX0_thirdWord) := goodIn_app (goodIn_of _ (by decide +kernel)) ggX0_term_X0_thirdWord
set_option maxRecDepth 20000 in
theorem ggX0_term_X2_two : GoodIn wsX0_term wsX2_two := goodIn_ca (goodIn_r _ [21, 12, 13, 91, 92] (by decide +kernel) (by decide +kernel)) (goodIn_sub (fun _ h => List.mem_cons_of_mem _ (List.mem_append_right _ h)) (by decide +kernel))
set_option maxRecDepth 20000 in
theorem gX0_term_X2_two : GoodIn wsX0_term (wsV RX0 25 RX2 yX2_two wsX2_two) := goodIn_app (goodIn_of _ (by decide +kernel)) ggX0_term_X2_two
set_option maxRecDepth 20000 in
theorem ggX0_term_X0_entries : GoodIn wsX0_term wsX0_entries := goodIn_ca (goodIn_r _ [81, 1, 46, 47, 48, 5, 49, 18, 19, 20, 10, 21, 12, 13, 82, 83, 84, 85, 7, 8, 9, 11, 90, 91, 92] (by decide +kernel) (by decide +kernel)) (goodIn_sub (fun _ h => List.mem_cons_of_mem _ (List.mem_append_right _ h)) (by decide +kernel))
set_option maxRecDepth 20000 in
theorem gX0_term_X0_entries : GoodIn wsX0_term (wsV RX0 76 RX0 yX0_entries wsX0_entries) := goodIn_app (goodIn_of _ (by decide +kernel)) ggX0_term_X0_entries
set_option maxRecDepth 20000 in
theorem ggX0_term_X0_entryBytes : GoodIn wsX0_term wsX0_entryBytes := goodIn_ca (goodIn_r _ [89, 1, 46, 47, 48, 5, 49, 18, 19, 20, 10, 21, 12, 13, 82, 83, 84, 85, 7, 8, 9, 11, 90, 91, 92] (by decide +kernel) (by decide +kernel)) (goodIn_sub (fun _ h => List.mem_cons_of_mem _ (List.mem_append_right _ h)) (by decide +kernel))
set_option maxRecDepth 20000 in
theorem gX0_term_X0_entryBytes : GoodIn wsX0_term (wsV RX0 79 RX0 yX0_entryBytes wsX0_entryBytes) := goodIn_app (goodIn_of _ (by decide +kernel)) ggX0_term_X0_entryBytes
set_option maxRecDepth 20000 in
theorem ggX0_term_X0_signs : GoodIn wsX0_term wsX0_signs := goodIn_ca (goodIn_r _ [85, 1, 46, 47, 48, 5, 49, 18, 19, 20, 10, 21, 12, 13, 7, 8, 9, 11, 90, 91, 92] (by decide +kernel) (by decide +kernel)) (goodIn_sub (fun _ h => List.mem_cons_of_mem _ (List.mem_append_right _ h)) (by decide +kernel))
set_option maxRecDepth 20000 in
theorem gX0_term_X0_signs : GoodIn wsX0_term (wsV RX0 37 RX0 yX0_signs wsX0_signs) := goodIn_app (goodIn_of _ (by decide +kernel)) ggX0_term_X0_signs
theorem dX0_term_0 : decode cX0_term 0 = .ok (.iload_n 1, 1) := by decide +kernel
theorem dX0_term_1 : decode cX0_term 1 = .ok (.tableswitch 177 0 16 #[83, 88, 93, 98, 103, 108, 113, 118, 123, 128, 133, 138, 143, 148, 157, 167, 172], 83) := by decide +kernel
theorem dX0_term_84 : decode cX0_term 84 = .ok (.aload_n 0, 1) := by decide +kernel
theorem dX0_term_85 : decode cX0_term 85 = .ok (.invokevirtual 21, 3) := by decide +kernel
theorem dX0_term_88 : decode cX0_term 88 = .ok (.ireturn, 1) := by decide +kernel
theorem dX0_term_89 : decode cX0_term 89 = .ok (.aload_n 0, 1) := by decide +kernel
theorem dX0_term_90 : decode cX0_term 90 = .ok (.invokevirtual 43, 3) := by decide +kernel
theorem dX0_term_93 : decode cX0_term 93 = .ok (.ireturn, 1) := by decide +kernel
theorem dX0_term_94 : decode cX0_term 94 = .ok (.aload_n 0, 1) := by decide +kernel
theorem dX0_term_95 : decode cX0_term 95 = .ok (.invokevirtual 46, 3) := by decide +kernel
theorem dX0_term_98 : decode cX0_term 98 = .ok (.ireturn, 1) := by decide +kernel
theorem dX0_term_99 : decode cX0_term 99 = .ok (.aload_n 0, 1) := by decide +kernel
theorem dX0_term_100 : decode cX0_term 100 = .ok (.invokevirtual 49, 3) := by decide +kernel
theorem dX0_term_103 : decode cX0_term 103 = .ok (.ireturn, 1) := by decide +kernel
theorem dX0_term_104 : decode cX0_term 104 = .ok (.aload_n 0, 1) := by decide +kernel
theorem dX0_term_105 : decode cX0_term 105 = .ok (.invokevirtual 52, 3) := by decide +kernel
theorem dX0_term_108 : decode cX0_term 108 = .ok (.ireturn, 1) := by decide +kernel
theorem dX0_term_109 : decode cX0_term 109 = .ok (.aload_n 0, 1) := by decide +kernel
theorem dX0_term_110 : decode cX0_term 110 = .ok (.invokevirtual 55, 3) := by decide +kernel
theorem dX0_term_113 : decode cX0_term 113 = .ok (.ireturn, 1) := by decide +kernel
theorem dX0_term_114 : decode cX0_term 114 = .ok (.aload_n 0, 1) := by decide +kernel
theorem dX0_term_115 : decode cX0_term 115 = .ok (.invokevirtual 34, 3) := by decide +kernel
theorem dX0_term_118 : decode cX0_term 118 = .ok (.ireturn, 1) := by decide +kernel
theorem dX0_term_119 : decode cX0_term 119 = .ok (.aload_n 0, 1) := by decide +kernel
theorem dX0_term_120 : decode cX0_term 120 = .ok (.invokevirtual 58, 3) := by decide +kernel
theorem dX0_term_123 : decode cX0_term 123 = .ok (.ireturn, 1) := by decide +kernel
theorem dX0_term_124 : decode cX0_term 124 = .ok (.aload_n 0, 1) := by decide +kernel
theorem dX0_term_125 : decode cX0_term 125 = .ok (.invokevirtual 61, 3) := by decide +kernel
theorem dX0_term_128 : decode cX0_term 128 = .ok (.ireturn, 1) := by decide +kernel
theorem dX0_term_129 : decode cX0_term 129 = .ok (.aload_n 0, 1) := by decide +kernel
theorem dX0_term_130 : decode cX0_term 130 = .ok (.invokevirtual 64, 3) := by decide +kernel
theorem dX0_term_133 : decode cX0_term 133 = .ok (.ireturn, 1) := by decide +kernel
theorem dX0_term_134 : decode cX0_term 134 = .ok (.aload_n 0, 1) := by decide +kernel
theorem dX0_term_135 : decode cX0_term 135 = .ok (.invokevirtual 67, 3) := by decide +kernel
theorem dX0_term_138 : decode cX0_term 138 = .ok (.ireturn, 1) := by decide +kernel
theorem dX0_term_139 : decode cX0_term 139 = .ok (.aload_n 0, 1) := by decide +kernel
theorem dX0_term_140 : decode cX0_term 140 = .ok (.invokevirtual 70, 3) := by decide +kernel
theorem dX0_term_143 : decode cX0_term 143 = .ok (.ireturn, 1) := by decide +kernel
theorem dX0_term_144 : decode cX0_term 144 = .ok (.aload_n 0, 1) := by decide +kernel
theorem dX0_term_145 : decode cX0_term 145 = .ok (.invokevirtual 73, 3) := by decide +kernel
theorem dX0_term_148 : decode cX0_term 148 = .ok (.ireturn, 1) := by decide +kernel
theorem dX0_term_149 : decode cX0_term 149 = .ok (.aload_n 0, 1) := by decide +kernel
theorem dX0_term_150 : decode cX0_term 150 = .ok (.getfield 9, 3) := by decide +kernel
theorem dX0_term_153 : decode cX0_term 153 = .ok (.iconst 2, 1) := by decide +kernel
theorem dX0_term_154 : decode cX0_term 154 = .ok (.invokevirtual 25, 3) := by decide +kernel
theorem dX0_term_157 : decode cX0_term 157 = .ok (.ireturn, 1) := by decide +kernel
theorem dX0_term_158 : decode cX0_term 158 = .ok (.aload_n 0, 1) := by decide +kernel
theorem dX0_term_159 : decode cX0_term 159 = .ok (.getfield 9, 3) := by decide +kernel
theorem dX0_term_162 : decode cX0_term 162 = .ok (.bipush 28, 2) := by decide +kernel
theorem dX0_term_164 : decode cX0_term 164 = .ok (.invokevirtual 25, 3) := by decide +kernel
theorem dX0_term_167 : decode cX0_term 167 = .ok (.ireturn, 1) := by decide +kernel
theorem dX0_term_168 : decode cX0_term 168 = .ok (.aload_n 0, 1) := by decide +kernel
theorem dX0_term_169 : decode cX0_term 169 = .ok (.invokevirtual 76, 3) := by decide +kernel
theorem dX0_term_172 : decode cX0_term 172 = .ok (.ireturn, 1) := by decide +kernel
theorem dX0_term_173 : decode cX0_term 173 = .ok (.aload_n 0, 1) := by decide +kernel
theorem dX0_term_174 : decode cX0_term 174 = .ok (.invokevirtual 79, 3) := by decide +kernel
theorem dX0_term_177 : decode cX0_term 177 = .ok (.ireturn, 1) := by decide +kernel
theorem dX0_term_178 : decode cX0_term 178 = .ok (.aload_n 0, 1) := by decide +kernel
theorem dX0_term_179 : decode cX0_term 179 = .ok (.invokevirtual 37, 3) := by decide +kernel
theorem dX0_term_182 : decode cX0_term 182 = .ok (.ireturn, 1) := by decide +kernel
set_option maxRecDepth 20000 in
theorem ggX0_holds_X2_has : GoodIn wsX0_holds wsX2_has := goodIn_r _ [6, 7, 8, 109, 110] (by decide +kernel) (by decide +kernel)
set_option maxRecDepth 20000 in
theorem gX0_holds_X2_has : GoodIn wsX0_holds (wsV RX0 82 RX2 yX2_has wsX2_has) := goodIn_app (goodIn_of _ (by decide +kernel)) ggX0_holds_X2_has
set_option maxRecDepth 20000 in
theorem ggX0_holds_X0_version : GoodIn wsX0_holds wsX0_version := goodIn_ca (goodIn_r _ [13, 1, 14, 15, 16, 5, 17, 7, 8, 108, 109, 110] (by decide +kernel) (by decide +kernel)) (goodIn_sub (fun _ h => List.mem_cons_of_mem _ (List.mem_append_right _ h)) (by decide +kernel))
set_option maxRecDepth 20000 in
theorem gX0_holds_X0_version : GoodIn wsX0_holds (wsV RX0 21 RX0 yX0_version wsX0_version) := goodIn_app (goodIn_of _ (by decide +kernel)) ggX0_holds_X0_version
set_option maxRecDepth 20000 in
theorem ggX0_holds_X0_isWithin : GoodIn wsX0_holds wsX0_isWithin := goodIn_r _ [20] (by decide +kernel) (by decide +kernel)
set_option maxRecDepth 20000 in
theorem gX0_holds_X0_isWithin : GoodIn wsX0_holds (va_wsS RX0 86 yX0_isWithin wsX0_isWithin) := goodIn_app (goodIn_of _ (by decide +kernel)) ggX0_holds_X0_isWithin
set_option maxRecDepth 20000 in
theorem ggX0_holds_X2_count : GoodIn wsX0_holds wsX2_count := goodIn_r _ [24, 7, 109, 110] (by decide +kernel) (by decide +kernel)
set_option maxRecDepth 20000 in
theorem gX0_holds_X2_count : GoodIn wsX0_holds (wsV RX0 28 RX2 yX2_count wsX2_count) := goodIn_app (goodIn_of _ (by decide +kernel)) ggX0_holds_X2_count
set_option maxRecDepth 20000 in
theorem ggX0_holds_X0_length : GoodIn wsX0_holds wsX0_length := goodIn_ca (goodIn_r _ [28, 1, 29, 30, 31, 5, 32, 7, 8, 9, 10, 11, 12, 13, 14, 15, 16, 17, 21, 22, 23, 24, 33, 34, 35, 36, 108, 109, 110] (by decide +kernel) (by decide +kernel)) (goodIn_sub (fun _ h => List.mem_cons_of_mem _ (List.mem_append_right _ h)) (by decide +kernel))
set_option maxRecDepth 20000 in
theorem gX0_holds_X0_length : GoodIn wsX0_holds (wsV RX0 43 RX0 yX0_length wsX0_length) := goodIn_app (goodIn_of _ (by decide +kernel)) ggX0_holds_X0_length
set_option maxRecDepth 20000 in
theorem ggX0_holds_X0_staticFrom : GoodIn wsX0_holds wsX0_staticFrom := goodIn_ca (goodIn_r _ [40, 1, 29, 30, 31, 5, 32, 7, 8, 108, 109, 110] (by decide +kernel) (by decide +kernel)) (goodIn_sub (fun _ h => List.mem_cons_of_mem _ (List.mem_append_right _ h)) (by decide +kernel))
set_option maxRecDepth 20000 in
theorem gX0_holds_X0_staticFrom : GoodIn wsX0_holds (wsV RX0 46 RX0 yX0_staticFrom wsX0_staticFrom) := goodIn_app (goodIn_of _ (by decide +kernel)) ggX0_holds_X0_staticFrom
set_option maxRecDepth 20000 in
theorem ggX0_holds_X0_high : GoodIn wsX0_holds wsX0_high := goodIn_ca (goodIn_r _ [44, 1, 29, 30, 31, 5, 32, 7, 8, 108, 109, 110] (by decide +kernel) (by decide +kernel)) (goodIn_sub (fun _ h => List.mem_cons_of_mem _ (List.mem_append_right _ h)) (by decide +kernel))
set_option maxRecDepth 20000 in
theorem gX0_holds_X0_high : GoodIn wsX0_holds (wsV RX0 49 RX0 yX0_high wsX0_high) := goodIn_app (goodIn_of _ (by decide +kernel)) ggX0_holds_X0_high
set_option maxRecDepth 20000 in
theorem ggX0_holds_X0_globals : GoodIn wsX0_holds wsX0_globals := goodIn_ca (goodIn_r _ [48, 1, 29, 30, 31, 5, 32, 7, 8, 108, 109, 110] (by decide +kernel) (by decide +kernel)) (goodIn_sub (fun _ h => List.mem_cons_of_mem _ (List.mem_append_right _ h)) (by decide +kernel))
set_option maxRecDepth 20000 in
theorem gX0_holds_X0_globals : GoodIn wsX0_holds (wsV RX0 52 RX0 yX0_globals wsX0_globals) := goodIn_app (goodIn_of _ (by decide +kernel)) ggX0_holds_X0_globals
set_option maxRecDepth 20000 in
theorem ggX0_holds_X0_fits : GoodIn wsX0_holds wsX0_fits := goodIn_r _ [51] (by decide +kernel) (by decide +kernel)
set_option maxRecDepth 20000 in
theorem gX0_holds_X0_fits : GoodIn wsX0_holds (va_wsS RX0 90 yX0_fits wsX0_fits) := goodIn_app (goodIn_of _ (by decide +kernel)) ggX0_holds_X0_fits
set_option maxRecDepth 20000 in
theorem ggX0_holds_X0_objects : GoodIn wsX0_holds wsX0_objects := goodIn_ca (goodIn_r _ [55, 1, 29, 30, 31, 5, 32, 7, 8, 108, 109, 110] (by decide +kernel) (by decide +kernel)) (goodIn_sub (fun _ h => List.mem_cons_of_mem _ (List.mem_append_right _ h)) (by decide +kernel))
set_option maxRecDepth 20000 in
theorem gX0_holds_X0_objects : GoodIn wsX0_holds (wsV RX0 55 RX0 yX0_objects wsX0_objects) := goodIn_app (goodIn_of _ (by decide +kernel)) ggX0_holds_X0_objects
set_option maxRecDepth 20000 in
theorem ggX0_holds_X0_wordsHold : GoodIn wsX0_holds wsX0_wordsHold := goodIn_ca (goodIn_r _ [59, 1, 60, 61, 62, 63, 64, 65, 66, 12, 67, 29, 30, 31, 5, 32, 7, 8, 14, 15, 16, 17, 9, 10, 11, 13, 25, 26, 27, 28, 21, 22, 23, 24, 33, 34, 35, 36, 108, 109, 110] (by decide +kernel) (by decide +kernel)) (goodIn_sub (fun _ h => List.mem_cons_of_mem _ (List.mem_append_right _ h)) (by decide +kernel))
set_option maxRecDepth 20000 in
theorem gX0_holds_X0_wordsHold : GoodIn wsX0_holds (wsV RX0 93 RX0 yX0_wordsHold wsX0_wordsHold) := goodIn_app (goodIn_of _ (by decide +kernel)) ggX0_holds_X0_wordsHold
set_option maxRecDepth 20000 in
theorem ggX0_holds_X0_shorts : GoodIn wsX0_holds wsX0_shorts := goodIn_ca (goodIn_r _ [71, 1, 9, 10, 11, 12, 13, 14, 15, 16, 5, 17, 7, 8, 29, 30, 31, 32, 108, 109, 110] (by decide +kernel) (by decide +kernel)) (goodIn_sub (fun _ h => List.mem_cons_of_mem _ (List.mem_append_right _ h)) (by decide +kernel))
set_option maxRecDepth 20000 in
theorem gX0_holds_X0_shorts : GoodIn wsX0_holds (wsV RX0 58 RX0 yX0_shorts wsX0_shorts) := goodIn_app (goodIn_of _ (by decide +kernel)) ggX0_holds_X0_shorts
set_option maxRecDepth 20000 in
theorem ggX0_holds_X0_start : GoodIn wsX0_holds wsX0_start := goodIn_ca (goodIn_r _ [75, 1, 9, 10, 11, 12, 13, 14, 15, 16, 5, 17, 7, 8, 29, 30, 31, 32, 108, 109, 110] (by decide +kernel) (by decide +kernel)) (goodIn_sub (fun _ h => List.mem_cons_of_mem _ (List.mem_append_right _ h)) (by decide +kernel))
set_option maxRecDepth 20000 in
theorem gX0_holds_X0_start : GoodIn wsX0_holds (wsV RX0 61 RX0 yX0_start wsX0_start) := goodIn_app (goodIn_of _ (by decide +kernel)) ggX0_holds_X0_start
set_option maxRecDepth 20000 in
theorem ggX0_holds_X0_letters : GoodIn wsX0_holds wsX0_letters := goodIn_ca (goodIn_r _ [79, 1, 9, 10, 11, 12, 13, 14, 15, 16, 5, 17, 7, 8, 29, 30, 31, 32, 108, 109, 110] (by decide +kernel) (by decide +kernel)) (goodIn_sub (fun _ h => List.mem_cons_of_mem _ (List.mem_append_right _ h)) (by decide +kernel))
set_option maxRecDepth 20000 in
theorem gX0_holds_X0_letters : GoodIn wsX0_holds (wsV RX0 64 RX0 yX0_letters wsX0_letters) := goodIn_app (goodIn_of _ (by decide +kernel)) ggX0_holds_X0_letters
set_option maxRecDepth 20000 in
theorem ggX0_holds_X0_ends : GoodIn wsX0_holds wsX0_ends := goodIn_ca (goodIn_r _ [83, 1, 9, 10, 11, 12, 13, 14, 15, 16, 5, 17, 7, 8, 29, 30, 31, 32, 108, 109, 110] (by decide +kernel) (by decide +kernel)) (goodIn_sub (fun _ h => List.mem_cons_of_mem _ (List.mem_append_right _ h)) (by decide +kernel))
set_option maxRecDepth 20000 in
theorem gX0_holds_X0_ends : GoodIn wsX0_holds (wsV RX0 67 RX0 yX0_ends wsX0_ends) := goodIn_app (goodIn_of _ (by decide +kernel)) ggX0_holds_X0_ends
set_option maxRecDepth 20000 in
theorem ggX0_holds_X0_endsHold : GoodIn wsX0_holds wsX0_endsHold := goodIn_ca (goodIn_r _ [87, 1, 80, 81, 82, 12, 83, 9, 10, 11, 13, 14, 15, 16, 5, 17, 7, 8, 29, 30, 31, 32, 25, 26, 27, 28, 21, 22, 23, 24, 33, 34, 35, 36, 108, 109, 110] (by decide +kernel) (by decide +kernel)) (goodIn_sub (fun _ h => List.mem_cons_of_mem _ (List.mem_append_right _ h)) (by decide +kernel))
set_option maxRecDepth 20000 in
theorem gX0_holds_X0_endsHold : GoodIn wsX0_holds (wsV RX0 97 RX0 yX0_endsHold wsX0_endsHold) := goodIn_app (goodIn_of _ (by decide +kernel)) ggX0_holds_X0_endsHold
set_option maxRecDepth 20000 in
theorem ggX0_holds_X0_more : GoodIn wsX0_holds wsX0_more := goodIn_ca (goodIn_r _ [91, 1, 9, 10, 11, 12, 13, 14, 15, 16, 5, 17, 7, 8, 29, 30, 31, 32, 108, 109, 110] (by decide +kernel) (by decide +kernel)) (goodIn_sub (fun _ h => List.mem_cons_of_mem _ (List.mem_append_right _ h)) (by decide +kernel))
set_option maxRecDepth 20000 in
theorem gX0_holds_X0_more : GoodIn wsX0_holds (wsV RX0 40 RX0 yX0_more wsX0_more) := goodIn_app (goodIn_of _ (by decide +kernel)) ggX0_holds_X0_more
set_option maxRecDepth 20000 in
theorem ggX0_holds_X0_moreHolds : GoodIn wsX0_holds wsX0_moreHolds := goodIn_ca (goodIn_r _ [95, 96, 97, 98, 12, 99, 1, 88, 89, 90, 91, 9, 10, 11, 13, 14, 15, 16, 5, 17, 7, 8, 29, 30, 31, 32, 25, 26, 27, 28, 21, 22, 23, 24, 33, 34, 35, 36, 49, 50, 51, 108, 109, 110] (by decide +kernel) (by decide +kernel)) (goodIn_sub (fun _ h => List.mem_cons_of_mem _ (List.mem_append_right _ h)) (by decide +kernel))
set_option maxRecDepth 20000 in
theorem gX0_holds_X0_moreHolds : GoodIn wsX0_holds (wsV RX0 100 RX0 yX0_moreHolds wsX0_moreHolds) := goodIn_app (goodIn_of _ (by decide +kernel)) ggX0_holds_X0_moreHolds
set_option maxRecDepth 20000 in
theorem ggX0_holds_X0_thirdWord : GoodIn wsX0_holds wsX0_thirdWord := goodIn_ca (goodIn_r _ [103, 1, 88, 89, 90, 12, 91, 9, 10, 11, 13, 14, 15, 16, 5, 17, 7, 8, 29, 30, 31, 32, 108, 109, 110] (by decide +kernel) (by decide +kernel)) (goodIn_sub (fun _ h => List.mem_cons_of_mem _ (List.mem_append_right _ h)) (by decide +kernel))
set_option maxRecDepth 20000 in
theorem gX0_holds_X0_thirdWord : GoodIn wsX0_holds (wsV RX0 73 RX0 yX0_thirdWord wsX0_thirdWord) := goodIn_app (goodIn_of _ (by decide +kernel)) ggX0_holds_X0_thirdWord
set_option maxRecDepth 20000 in
theorem ggX0_holds_X0_thirdHolds : GoodIn wsX0_holds wsX0_thirdHolds := goodIn_ca (goodIn_r _ [107, 1, 100, 101, 102, 12, 103, 88, 89, 90, 91, 9, 10, 11, 13, 14, 15, 16, 5, 17, 7, 8, 29, 30, 31, 32, 25, 26, 27, 28, 21, 22, 23, 24, 33, 34, 35, 36, 49, 50, 51, 108, 109, 110] (by decide +kernel) (by decide +kernel)) (goodIn_sub (fun _ h => List.mem_cons_of_mem _ (List.mem_append_right _ h)) (by decide +kernel))
set_option maxRecDepth 20000 in
theorem gX0_holds_X0_thirdHolds : GoodIn wsX0_holds (wsV RX0 103 RX0 yX0_thirdHolds wsX0_thirdHolds) := goodIn_app (goodIn_of _ (by decide +kernel)) ggX0_holds_X0_thirdHolds
theorem dX0_holds_0 : decode cX0_holds 0 = .ok (.iload_n 1, 1) := by decide +kernel
theorem dX0_holds_1 : decode cX0_holds 1 = .ok (.tableswitch 331 1 14 #[71, 80, 91, 109, 126, 140, 156, 171, 198, 203, 246, 262, 291, 311], 71) := by decide +kernel
theorem dX0_holds_72 : decode cX0_holds 72 = .ok (.aload_n 0, 1) := by decide +kernel
theorem dX0_holds_73 : decode cX0_holds 73 = .ok (.getfield 9, 3) := by decide +kernel
theorem dX0_holds_76 : decode cX0_holds 76 = .ok (.iconst 0, 1) := by decide +kernel
theorem dX0_holds_77 : decode cX0_holds 77 = .ok (.invokevirtual 82, 3) := by decide +kernel
theorem dX0_holds_80 : decode cX0_holds 80 = .ok (.ireturn, 1) := by decide +kernel
theorem dX0_holds_81 : decode cX0_holds 81 = .ok (.aload_n 0, 1) := by decide +kernel
theorem dX0_holds_82 : decode cX0_holds 82 = .ok (.invokevirtual 21, 3) := by decide +kernel
theorem dX0_holds_85 : decode cX0_holds 85 = .ok (.iconst 1, 1) := by decide +kernel
theorem dX0_holds_86 : decode cX0_holds 86 = .ok (.bipush 8, 2) := by decide +kernel
theorem dX0_holds_88 : decode cX0_holds 88 = .ok (.invokestatic 86, 3) := by decide +kernel
theorem dX0_holds_91 : decode cX0_holds 91 = .ok (.ireturn, 1) := by decide +kernel
theorem dX0_holds_92 : decode cX0_holds 92 = .ok (.aload_n 0, 1) := by decide +kernel
theorem dX0_holds_93 : decode cX0_holds 93 = .ok (.getfield 9, 3) := by decide +kernel
theorem dX0_holds_96 : decode cX0_holds 96 = .ok (.invokevirtual 28, 3) := by decide +kernel
theorem dX0_holds_99 : decode cX0_holds 99 = .ok (.bipush 64, 2) := by decide +kernel
theorem dX0_holds_101 : decode cX0_holds 101 = .ok (.if_icmp .lt 7, 3) := by decide +kernel
theorem dX0_holds_104 : decode cX0_holds 104 = .ok (.iconst 1, 1) := by decide +kernel
theorem dX0_holds_105 : decode cX0_holds 105 = .ok (.goto 4, 3) := by decide +kernel
theorem dX0_holds_108 : decode cX0_holds 108 = .ok (.iconst 0, 1) := by decide +kernel
theorem dX0_holds_109 : decode cX0_holds 109 = .ok (.ireturn, 1) := by decide +kernel
theorem dX0_holds_110 : decode cX0_holds 110 = .ok (.aload_n 0, 1) := by decide +kernel
theorem dX0_holds_111 : decode cX0_holds 111 = .ok (.invokevirtual 43, 3) := by decide +kernel
theorem dX0_holds_114 : decode cX0_holds 114 = .ok (.bipush 64, 2) := by decide +kernel
theorem dX0_holds_116 : decode cX0_holds 116 = .ok (.aload_n 0, 1) := by decide +kernel
theorem dX0_holds_117 : decode cX0_holds 117 = .ok (.getfield 9, 3) := by decide +kernel
theorem dX0_holds_120 : decode cX0_holds 120 = .ok (.invokevirtual 28, 3) := by decide +kernel
theorem dX0_holds_123 : decode cX0_holds 123 = .ok (.invokestatic 86, 3) := by decide +kernel
theorem dX0_holds_126 : decode cX0_holds 126 = .ok (.ireturn, 1) := by decide +kernel
theorem dX0_holds_127 : decode cX0_holds 127 = .ok (.aload_n 0, 1) := by decide +kernel
theorem dX0_holds_128 : decode cX0_holds 128 = .ok (.invokevirtual 46, 3) := by decide +kernel
theorem dX0_holds_131 : decode cX0_holds 131 = .ok (.bipush 64, 2) := by decide +kernel
theorem dX0_holds_133 : decode cX0_holds 133 = .ok (.aload_n 0, 1) := by decide +kernel
theorem dX0_holds_134 : decode cX0_holds 134 = .ok (.invokevirtual 43, 3) := by decide +kernel
theorem dX0_holds_137 : decode cX0_holds 137 = .ok (.invokestatic 86, 3) := by decide +kernel
theorem dX0_holds_140 : decode cX0_holds 140 = .ok (.ireturn, 1) := by decide +kernel
theorem dX0_holds_141 : decode cX0_holds 141 = .ok (.aload_n 0, 1) := by decide +kernel
theorem dX0_holds_142 : decode cX0_holds 142 = .ok (.invokevirtual 49, 3) := by decide +kernel
theorem dX0_holds_145 : decode cX0_holds 145 = .ok (.aload_n 0, 1) := by decide +kernel
theorem dX0_holds_146 : decode cX0_holds 146 = .ok (.invokevirtual 46, 3) := by decide +kernel
theorem dX0_holds_149 : decode cX0_holds 149 = .ok (.aload_n 0, 1) := by decide +kernel
theorem dX0_holds_150 : decode cX0_holds 150 = .ok (.invokevirtual 43, 3) := by decide +kernel
theorem dX0_holds_153 : decode cX0_holds 153 = .ok (.invokestatic 86, 3) := by decide +kernel
theorem dX0_holds_156 : decode cX0_holds 156 = .ok (.ireturn, 1) := by decide +kernel
theorem dX0_holds_157 : decode cX0_holds 157 = .ok (.aload_n 0, 1) := by decide +kernel
theorem dX0_holds_158 : decode cX0_holds 158 = .ok (.invokevirtual 52, 3) := by decide +kernel
theorem dX0_holds_161 : decode cX0_holds 161 = .ok (.sipush 480, 3) := by decide +kernel
theorem dX0_holds_164 : decode cX0_holds 164 = .ok (.aload_n 0, 1) := by decide +kernel
theorem dX0_holds_165 : decode cX0_holds 165 = .ok (.invokevirtual 46, 3) := by decide +kernel
theorem dX0_holds_168 : decode cX0_holds 168 = .ok (.invokestatic 90, 3) := by decide +kernel
theorem dX0_holds_171 : decode cX0_holds 171 = .ok (.ireturn, 1) := by decide +kernel
theorem dX0_holds_172 : decode cX0_holds 172 = .ok (.aload_n 0, 1) := by decide +kernel
theorem dX0_holds_173 : decode cX0_holds 173 = .ok (.invokevirtual 55, 3) := by decide +kernel
theorem dX0_holds_176 : decode cX0_holds 176 = .ok (.aload_n 0, 1) := by decide +kernel
theorem dX0_holds_177 : decode cX0_holds 177 = .ok (.invokevirtual 21, 3) := by decide +kernel
theorem dX0_holds_180 : decode cX0_holds 180 = .ok (.iconst 3, 1) := by decide +kernel
theorem dX0_holds_181 : decode cX0_holds 181 = .ok (.if_icmp .gt 8, 3) := by decide +kernel
theorem dX0_holds_184 : decode cX0_holds 184 = .ok (.bipush 62, 2) := by decide +kernel
theorem dX0_holds_186 : decode cX0_holds 186 = .ok (.goto 5, 3) := by decide +kernel
theorem dX0_holds_189 : decode cX0_holds 189 = .ok (.bipush 126, 2) := by decide +kernel
theorem dX0_holds_191 : decode cX0_holds 191 = .ok (.aload_n 0, 1) := by decide +kernel
theorem dX0_holds_192 : decode cX0_holds 192 = .ok (.invokevirtual 46, 3) := by decide +kernel
theorem dX0_holds_195 : decode cX0_holds 195 = .ok (.invokestatic 90, 3) := by decide +kernel
theorem dX0_holds_198 : decode cX0_holds 198 = .ok (.ireturn, 1) := by decide +kernel
theorem dX0_holds_199 : decode cX0_holds 199 = .ok (.aload_n 0, 1) := by decide +kernel
theorem dX0_holds_200 : decode cX0_holds 200 = .ok (.invokevirtual 93, 3) := by decide +kernel
theorem dX0_holds_203 : decode cX0_holds 203 = .ok (.ireturn, 1) := by decide +kernel
theorem dX0_holds_204 : decode cX0_holds 204 = .ok (.aload_n 0, 1) := by decide +kernel
theorem dX0_holds_205 : decode cX0_holds 205 = .ok (.invokevirtual 58, 3) := by decide +kernel
theorem dX0_holds_208 : decode cX0_holds 208 = .ok (.ifCond .eq 33, 3) := by decide +kernel
theorem dX0_holds_211 : decode cX0_holds 211 = .ok (.aload_n 0, 1) := by decide +kernel
theorem dX0_holds_212 : decode cX0_holds 212 = .ok (.invokevirtual 58, 3) := by decide +kernel
theorem dX0_holds_215 : decode cX0_holds 215 = .ok (.aload_n 0, 1) := by decide +kernel
theorem dX0_holds_216 : decode cX0_holds 216 = .ok (.invokevirtual 21, 3) := by decide +kernel
theorem dX0_holds_219 : decode cX0_holds 219 = .ok (.iconst 2, 1) := by decide +kernel
theorem dX0_holds_220 : decode cX0_holds 220 = .ok (.if_icmp .ne 8, 3) := by decide +kernel
theorem dX0_holds_223 : decode cX0_holds 223 = .ok (.bipush 64, 2) := by decide +kernel
theorem dX0_holds_225 : decode cX0_holds 225 = .ok (.goto 6, 3) := by decide +kernel
theorem dX0_holds_228 : decode cX0_holds 228 = .ok (.sipush 192, 3) := by decide +kernel
theorem dX0_holds_231 : decode cX0_holds 231 = .ok (.aload_n 0, 1) := by decide +kernel
theorem dX0_holds_232 : decode cX0_holds 232 = .ok (.invokevirtual 43, 3) := by decide +kernel
theorem dX0_holds_235 : decode cX0_holds 235 = .ok (.invokestatic 90, 3) := by decide +kernel
theorem dX0_holds_238 : decode cX0_holds 238 = .ok (.ifCond .eq 7, 3) := by decide +kernel
theorem dX0_holds_241 : decode cX0_holds 241 = .ok (.iconst 1, 1) := by decide +kernel
theorem dX0_holds_242 : decode cX0_holds 242 = .ok (.goto 4, 3) := by decide +kernel
theorem dX0_holds_245 : decode cX0_holds 245 = .ok (.iconst 0, 1) := by decide +kernel
theorem dX0_holds_246 : decode cX0_holds 246 = .ok (.ireturn, 1) := by decide +kernel
theorem dX0_holds_247 : decode cX0_holds 247 = .ok (.aload_n 0, 1) := by decide +kernel
theorem dX0_holds_248 : decode cX0_holds 248 = .ok (.invokevirtual 61, 3) := by decide +kernel
theorem dX0_holds_251 : decode cX0_holds 251 = .ok (.bipush 64, 2) := by decide +kernel
theorem dX0_holds_253 : decode cX0_holds 253 = .ok (.aload_n 0, 1) := by decide +kernel
theorem dX0_holds_254 : decode cX0_holds 254 = .ok (.invokevirtual 43, 3) := by decide +kernel
theorem dX0_holds_257 : decode cX0_holds 257 = .ok (.iconst 1, 1) := by decide +kernel
theorem dX0_holds_258 : decode cX0_holds 258 = .ok (.isub, 1) := by decide +kernel
theorem dX0_holds_259 : decode cX0_holds 259 = .ok (.invokestatic 86, 3) := by decide +kernel
theorem dX0_holds_262 : decode cX0_holds 262 = .ok (.ireturn, 1) := by decide +kernel
theorem dX0_holds_263 : decode cX0_holds 263 = .ok (.aload_n 0, 1) := by decide +kernel
theorem dX0_holds_264 : decode cX0_holds 264 = .ok (.invokevirtual 64, 3) := by decide +kernel
theorem dX0_holds_267 : decode cX0_holds 267 = .ok (.ifCond .eq 19, 3) := by decide +kernel
theorem dX0_holds_270 : decode cX0_holds 270 = .ok (.aload_n 0, 1) := by decide +kernel
theorem dX0_holds_271 : decode cX0_holds 271 = .ok (.invokevirtual 64, 3) := by decide +kernel
theorem dX0_holds_274 : decode cX0_holds 274 = .ok (.bipush 78, 2) := by decide +kernel
theorem dX0_holds_276 : decode cX0_holds 276 = .ok (.aload_n 0, 1) := by decide +kernel
theorem dX0_holds_277 : decode cX0_holds 277 = .ok (.invokevirtual 43, 3) := by decide +kernel
theorem dX0_holds_280 : decode cX0_holds 280 = .ok (.invokestatic 90, 3) := by decide +kernel
theorem dX0_holds_283 : decode cX0_holds 283 = .ok (.ifCond .eq 7, 3) := by decide +kernel
theorem dX0_holds_286 : decode cX0_holds 286 = .ok (.iconst 1, 1) := by decide +kernel
theorem dX0_holds_287 : decode cX0_holds 287 = .ok (.goto 4, 3) := by decide +kernel
theorem dX0_holds_290 : decode cX0_holds 290 = .ok (.iconst 0, 1) := by decide +kernel
theorem dX0_holds_291 : decode cX0_holds 291 = .ok (.ireturn, 1) := by decide +kernel
theorem dX0_holds_292 : decode cX0_holds 292 = .ok (.aload_n 0, 1) := by decide +kernel
theorem dX0_holds_293 : decode cX0_holds 293 = .ok (.invokevirtual 67, 3) := by decide +kernel
theorem dX0_holds_296 : decode cX0_holds 296 = .ok (.ifCond .eq 10, 3) := by decide +kernel
theorem dX0_holds_299 : decode cX0_holds 299 = .ok (.aload_n 0, 1) := by decide +kernel
theorem dX0_holds_300 : decode cX0_holds 300 = .ok (.invokevirtual 97, 3) := by decide +kernel
theorem dX0_holds_303 : decode cX0_holds 303 = .ok (.ifCond .eq 7, 3) := by decide +kernel
theorem dX0_holds_306 : decode cX0_holds 306 = .ok (.iconst 1, 1) := by decide +kernel
theorem dX0_holds_307 : decode cX0_holds 307 = .ok (.goto 4, 3) := by decide +kernel
theorem dX0_holds_310 : decode cX0_holds 310 = .ok (.iconst 0, 1) := by decide +kernel
theorem dX0_holds_311 : decode cX0_holds 311 = .ok (.ireturn, 1) := by decide +kernel
theorem dX0_holds_312 : decode cX0_holds 312 = .ok (.aload_n 0, 1) := by decide +kernel
theorem dX0_holds_313 : decode cX0_holds 313 = .ok (.invokevirtual 40, 3) := by decide +kernel
theorem dX0_holds_316 : decode cX0_holds 316 = .ok (.ifCond .eq 10, 3) := by decide +kernel
theorem dX0_holds_319 : decode cX0_holds 319 = .ok (.aload_n 0, 1) := by decide +kernel
theorem dX0_holds_320 : decode cX0_holds 320 = .ok (.invokevirtual 100, 3) := by decide +kernel
theorem dX0_holds_323 : decode cX0_holds 323 = .ok (.ifCond .eq 7, 3) := by decide +kernel
theorem dX0_holds_326 : decode cX0_holds 326 = .ok (.iconst 1, 1) := by decide +kernel
theorem dX0_holds_327 : decode cX0_holds 327 = .ok (.goto 4, 3) := by decide +kernel
theorem dX0_holds_330 : decode cX0_holds 330 = .ok (.iconst 0, 1) := by decide +kernel
theorem dX0_holds_331 : decode cX0_holds 331 = .ok (.ireturn, 1) := by decide +kernel
theorem dX0_holds_332 : decode cX0_holds 332 = .ok (.aload_n 0, 1) := by decide +kernel
theorem dX0_holds_333 : decode cX0_holds 333 = .ok (.invokevirtual 73, 3) := by decide +kernel
theorem dX0_holds_336 : decode cX0_holds 336 = .ok (.ifCond .eq 10, 3) := by decide +kernel
theorem dX0_holds_339 : decode cX0_holds 339 = .ok (.aload_n 0, 1) := by decide +kernel
theorem dX0_holds_340 : decode cX0_holds 340 = .ok (.invokevirtual 103, 3) := by decide +kernel
theorem dX0_holds_343 : decode cX0_holds 343 = .ok (.ifCond .eq 7, 3) := by decide +kernel
theorem dX0_holds_346 : decode cX0_holds 346 = .ok (.iconst 1, 1) := by decide +kernel
theorem dX0_holds_347 : decode cX0_holds 347 = .ok (.goto 4, 3) := by decide +kernel
theorem dX0_holds_350 : decode cX0_holds 350 = .ok (.iconst 0, 1) := by decide +kernel
theorem dX0_holds_351 : decode cX0_holds 351 = .ok (.ireturn, 1) := by decide +kernel
set_option maxRecDepth 20000 in
theorem ggX0_placeOf_X2_count : GoodIn wsX0_placeOf wsX2_count := goodIn_r _ [6, 7, 27, 28] (by decide +kernel) (by decide +kernel)
set_option maxRecDepth 20000 in
theorem gX0_placeOf_X2_count : GoodIn wsX0_placeOf (wsV RX0 28 RX2 yX2_count wsX2_count) := goodIn_app (goodIn_of _ (by decide +kernel)) ggX0_placeOf_X2_count
set_option maxRecDepth 20000 in
theorem ggX0_placeOf_X0_more : GoodIn wsX0_placeOf wsX0_more := goodIn_ca (goodIn_r _ [12, 1, 13, 14, 15, 11, 16, 17, 18, 19, 5, 20, 7, 21, 22, 23, 24, 25, 26, 27, 28] (by decide +kernel) (by decide +kernel)) (goodIn_sub (fun _ h => List.mem_cons_of_mem _ (List.mem_append_right _ h)) (by decide +kernel))
set_option maxRecDepth 20000 in
theorem gX0_placeOf_X0_more : GoodIn wsX0_placeOf (wsV RX0 40 RX0 yX0_more wsX0_more) := goodIn_app (goodIn_of _ (by decide +kernel)) ggX0_placeOf_X0_more
theorem dX0_placeOf_0 : decode cX0_placeOf 0 = .ok (.iload_n 1, 1) := by decide +kernel
theorem dX0_placeOf_1 : decode cX0_placeOf 1 = .ok (.tableswitch 115 3 15 #[67, 75, 78, 81, 83, 86, 89, 92, 95, 98, 101, 104, 107], 67) := by decide +kernel
theorem dX0_placeOf_68 : decode cX0_placeOf 68 = .ok (.aload_n 0, 1) := by decide +kernel
theorem dX0_placeOf_69 : decode cX0_placeOf 69 = .ok (.getfield 9, 3) := by decide +kernel
theorem dX0_placeOf_72 : decode cX0_placeOf 72 = .ok (.invokevirtual 28, 3) := by decide +kernel
theorem dX0_placeOf_75 : decode cX0_placeOf 75 = .ok (.ireturn, 1) := by decide +kernel
theorem dX0_placeOf_76 : decode cX0_placeOf 76 = .ok (.bipush 26, 2) := by decide +kernel
theorem dX0_placeOf_78 : decode cX0_placeOf 78 = .ok (.ireturn, 1) := by decide +kernel
theorem dX0_placeOf_79 : decode cX0_placeOf 79 = .ok (.bipush 14, 2) := by decide +kernel
theorem dX0_placeOf_81 : decode cX0_placeOf 81 = .ok (.ireturn, 1) := by decide +kernel
theorem dX0_placeOf_82 : decode cX0_placeOf 82 = .ok (.iconst 4, 1) := by decide +kernel
theorem dX0_placeOf_83 : decode cX0_placeOf 83 = .ok (.ireturn, 1) := by decide +kernel
theorem dX0_placeOf_84 : decode cX0_placeOf 84 = .ok (.bipush 12, 2) := by decide +kernel
theorem dX0_placeOf_86 : decode cX0_placeOf 86 = .ok (.ireturn, 1) := by decide +kernel
theorem dX0_placeOf_87 : decode cX0_placeOf 87 = .ok (.bipush 10, 2) := by decide +kernel
theorem dX0_placeOf_89 : decode cX0_placeOf 89 = .ok (.ireturn, 1) := by decide +kernel
theorem dX0_placeOf_90 : decode cX0_placeOf 90 = .ok (.bipush 8, 2) := by decide +kernel
theorem dX0_placeOf_92 : decode cX0_placeOf 92 = .ok (.ireturn, 1) := by decide +kernel
theorem dX0_placeOf_93 : decode cX0_placeOf 93 = .ok (.bipush 24, 2) := by decide +kernel
theorem dX0_placeOf_95 : decode cX0_placeOf 95 = .ok (.ireturn, 1) := by decide +kernel
theorem dX0_placeOf_96 : decode cX0_placeOf 96 = .ok (.bipush 6, 2) := by decide +kernel
theorem dX0_placeOf_98 : decode cX0_placeOf 98 = .ok (.ireturn, 1) := by decide +kernel
theorem dX0_placeOf_99 : decode cX0_placeOf 99 = .ok (.bipush 52, 2) := by decide +kernel
theorem dX0_placeOf_101 : decode cX0_placeOf 101 = .ok (.ireturn, 1) := by decide +kernel
theorem dX0_placeOf_102 : decode cX0_placeOf 102 = .ok (.bipush 46, 2) := by decide +kernel
theorem dX0_placeOf_104 : decode cX0_placeOf 104 = .ok (.ireturn, 1) := by decide +kernel
theorem dX0_placeOf_105 : decode cX0_placeOf 105 = .ok (.bipush 54, 2) := by decide +kernel
theorem dX0_placeOf_107 : decode cX0_placeOf 107 = .ok (.ireturn, 1) := by decide +kernel
theorem dX0_placeOf_108 : decode cX0_placeOf 108 = .ok (.aload_n 0, 1) := by decide +kernel
theorem dX0_placeOf_109 : decode cX0_placeOf 109 = .ok (.invokevirtual 40, 3) := by decide +kernel
theorem dX0_placeOf_112 : decode cX0_placeOf 112 = .ok (.bipush 6, 2) := by decide +kernel
theorem dX0_placeOf_114 : decode cX0_placeOf 114 = .ok (.iadd, 1) := by decide +kernel
theorem dX0_placeOf_115 : decode cX0_placeOf 115 = .ok (.ireturn, 1) := by decide +kernel
theorem dX0_placeOf_116 : decode cX0_placeOf 116 = .ok (.iconst 0, 1) := by decide +kernel
theorem dX0_placeOf_117 : decode cX0_placeOf 117 = .ok (.ireturn, 1) := by decide +kernel
set_option maxRecDepth 20000 in
theorem ggX0_wordsHold_X0_words : GoodIn wsX0_wordsHold wsX0_words := goodIn_ca (goodIn_r _ [10, 1, 11, 12, 13, 14, 15, 16, 17, 38, 39, 40] (by decide +kernel) (by decide +kernel)) (goodIn_sub (fun _ h => List.mem_cons_of_mem _ (List.mem_append_right _ h)) (by decide +kernel))
set_option maxRecDepth 20000 in
theorem gX0_wordsHold_X0_words : GoodIn wsX0_wordsHold (wsV RX0 34 RX0 yX0_words wsX0_words) := goodIn_app (goodIn_of _ (by decide +kernel)) ggX0_wordsHold_X0_words
set_option maxRecDepth 20000 in
theorem ggX0_wordsHold_X2_at : GoodIn wsX0_wordsHold wsX2_at := goodIn_ca (goodIn_r _ [21, 16, 17, 39, 40] (by decide +kernel) (by decide +kernel)) (goodIn_sub (fun _ h => List.mem_cons_of_mem _ (List.mem_append_right _ h)) (by decide +kernel))
set_option maxRecDepth 20000 in
theorem gX0_wordsHold_X2_at : GoodIn wsX0_wordsHold (wsV RX0 15 RX2 yX2_at wsX2_at) := goodIn_app (goodIn_of _ (by decide +kernel)) ggX0_wordsHold_X2_at
set_option maxRecDepth 20000 in
theorem ggX0_wordsHold_X2_two : GoodIn wsX0_wordsHold wsX2_two := goodIn_ca (goodIn_r _ [15, 16, 17, 39, 40] (by decide +kernel) (by decide +kernel)) (goodIn_sub (fun _ h => List.mem_cons_of_mem _ (List.mem_append_right _ h)) (by decide +kernel))
set_option maxRecDepth 20000 in
theorem gX0_wordsHold_X2_two : GoodIn wsX0_wordsHold (wsV RX0 25 RX2 yX2_two wsX2_two) := goodIn_app (goodIn_of _ (by decide +kernel)) ggX0_wordsHold_X2_two
set_option maxRecDepth 20000 in
theorem ggX0_wordsHold_X0_version : GoodIn wsX0_wordsHold wsX0_version := goodIn_ca (goodIn_r _ [25, 1, 18, 19, 20, 14, 21, 16, 17, 38, 39, 40] (by decide +kernel) (by decide +kernel)) (goodIn_sub (fun _ h => List.mem_cons_of_mem _ (List.mem_append_right _ h)) (by decide +kernel))
set_option maxRecDepth 20000 in
theorem gX0_wordsHold_X0_version : GoodIn wsX0_wordsHold (wsV RX0 21 RX0 yX0_version wsX0_version) := goodIn_app (goodIn_of _ (by decide +kernel)) ggX0_wordsHold_X0_version
set_option maxRecDepth 20000 in
theorem ggX0_wordsHold_X0_length : GoodIn wsX0_wordsHold wsX0_length := goodIn_ca (goodIn_r _ [29, 1, 11, 12, 13, 14, 15, 16, 17, 22, 23, 24, 9, 25, 18, 19, 20, 21, 30, 31, 32, 33, 34, 35, 36, 37, 38, 39, 40] (by decide +kernel) (by decide +kernel)) (goodIn_sub (fun _ h => List.mem_cons_of_mem _ (List.mem_append_right _ h)) (by decide +kernel))
set_option maxRecDepth 20000 in
theorem gX0_wordsHold_X0_length : GoodIn wsX0_wordsHold (wsV RX0 43 RX0 yX0_length wsX0_length) := goodIn_app (goodIn_of _ (by decide +kernel)) ggX0_wordsHold_X0_length
theorem dX0_wordsHold_0 : decode cX0_wordsHold 0 = .ok (.aload_n 0, 1) := by decide +kernel
theorem dX0_wordsHold_1 : decode cX0_wordsHold 1 = .ok (.invokevirtual 34, 3) := by decide +kernel
theorem dX0_wordsHold_4 : decode cX0_wordsHold 4 = .ok (.istore_n 1, 1) := by decide +kernel
theorem dX0_wordsHold_5 : decode cX0_wordsHold 5 = .ok (.aload_n 0, 1) := by decide +kernel
theorem dX0_wordsHold_6 : decode cX0_wordsHold 6 = .ok (.getfield 9, 3) := by decide +kernel
theorem dX0_wordsHold_9 : decode cX0_wordsHold 9 = .ok (.iload_n 1, 1) := by decide +kernel
theorem dX0_wordsHold_10 : decode cX0_wordsHold 10 = .ok (.invokevirtual 15, 3) := by decide +kernel
theorem dX0_wordsHold_13 : decode cX0_wordsHold 13 = .ok (.istore_n 2, 1) := by decide +kernel
theorem dX0_wordsHold_14 : decode cX0_wordsHold 14 = .ok (.iload_n 1, 1) := by decide +kernel
theorem dX0_wordsHold_15 : decode cX0_wordsHold 15 = .ok (.bipush 64, 2) := by decide +kernel
theorem dX0_wordsHold_17 : decode cX0_wordsHold 17 = .ok (.if_icmp .lt 8, 3) := by decide +kernel
theorem dX0_wordsHold_20 : decode cX0_wordsHold 20 = .ok (.iload_n 2, 1) := by decide +kernel
theorem dX0_wordsHold_21 : decode cX0_wordsHold 21 = .ok (.iconst (-1), 1) := by decide +kernel
theorem dX0_wordsHold_22 : decode cX0_wordsHold 22 = .ok (.if_icmp .ne 5, 3) := by decide +kernel
theorem dX0_wordsHold_25 : decode cX0_wordsHold 25 = .ok (.iconst 0, 1) := by decide +kernel
theorem dX0_wordsHold_26 : decode cX0_wordsHold 26 = .ok (.ireturn, 1) := by decide +kernel
theorem dX0_wordsHold_27 : decode cX0_wordsHold 27 = .ok (.aload_n 0, 1) := by decide +kernel
theorem dX0_wordsHold_28 : decode cX0_wordsHold 28 = .ok (.getfield 9, 3) := by decide +kernel
theorem dX0_wordsHold_31 : decode cX0_wordsHold 31 = .ok (.iload_n 1, 1) := by decide +kernel
theorem dX0_wordsHold_32 : decode cX0_wordsHold 32 = .ok (.iconst 1, 1) := by decide +kernel
theorem dX0_wordsHold_33 : decode cX0_wordsHold 33 = .ok (.iadd, 1) := by decide +kernel
theorem dX0_wordsHold_34 : decode cX0_wordsHold 34 = .ok (.iload_n 2, 1) := by decide +kernel
theorem dX0_wordsHold_35 : decode cX0_wordsHold 35 = .ok (.iadd, 1) := by decide +kernel
theorem dX0_wordsHold_36 : decode cX0_wordsHold 36 = .ok (.invokevirtual 15, 3) := by decide +kernel
theorem dX0_wordsHold_39 : decode cX0_wordsHold 39 = .ok (.istore_n 3, 1) := by decide +kernel
theorem dX0_wordsHold_40 : decode cX0_wordsHold 40 = .ok (.aload_n 0, 1) := by decide +kernel
theorem dX0_wordsHold_41 : decode cX0_wordsHold 41 = .ok (.getfield 9, 3) := by decide +kernel
theorem dX0_wordsHold_44 : decode cX0_wordsHold 44 = .ok (.iload_n 1, 1) := by decide +kernel
theorem dX0_wordsHold_45 : decode cX0_wordsHold 45 = .ok (.iconst 2, 1) := by decide +kernel
theorem dX0_wordsHold_46 : decode cX0_wordsHold 46 = .ok (.iadd, 1) := by decide +kernel
theorem dX0_wordsHold_47 : decode cX0_wordsHold 47 = .ok (.iload_n 2, 1) := by decide +kernel
theorem dX0_wordsHold_48 : decode cX0_wordsHold 48 = .ok (.iadd, 1) := by decide +kernel
theorem dX0_wordsHold_49 : decode cX0_wordsHold 49 = .ok (.invokevirtual 25, 3) := by decide +kernel
theorem dX0_wordsHold_52 : decode cX0_wordsHold 52 = .ok (.istore 4, 2) := by decide +kernel
theorem dX0_wordsHold_54 : decode cX0_wordsHold 54 = .ok (.iload_n 3, 1) := by decide +kernel
theorem dX0_wordsHold_55 : decode cX0_wordsHold 55 = .ok (.aload_n 0, 1) := by decide +kernel
theorem dX0_wordsHold_56 : decode cX0_wordsHold 56 = .ok (.invokevirtual 21, 3) := by decide +kernel
theorem dX0_wordsHold_59 : decode cX0_wordsHold 59 = .ok (.iconst 3, 1) := by decide +kernel
theorem dX0_wordsHold_60 : decode cX0_wordsHold 60 = .ok (.if_icmp .gt 7, 3) := by decide +kernel
theorem dX0_wordsHold_63 : decode cX0_wordsHold 63 = .ok (.iconst 4, 1) := by decide +kernel
theorem dX0_wordsHold_64 : decode cX0_wordsHold 64 = .ok (.goto 5, 3) := by decide +kernel
theorem dX0_wordsHold_67 : decode cX0_wordsHold 67 = .ok (.bipush 6, 2) := by decide +kernel
theorem dX0_wordsHold_69 : decode cX0_wordsHold 69 = .ok (.if_icmp .lt 9, 3) := by decide +kernel
theorem dX0_wordsHold_72 : decode cX0_wordsHold 72 = .ok (.iload 4, 2) := by decide +kernel
theorem dX0_wordsHold_74 : decode cX0_wordsHold 74 = .ok (.iconst (-1), 1) := by decide +kernel
theorem dX0_wordsHold_75 : decode cX0_wordsHold 75 = .ok (.if_icmp .ne 5, 3) := by decide +kernel
theorem dX0_wordsHold_78 : decode cX0_wordsHold 78 = .ok (.iconst 0, 1) := by decide +kernel
theorem dX0_wordsHold_79 : decode cX0_wordsHold 79 = .ok (.ireturn, 1) := by decide +kernel
theorem dX0_wordsHold_80 : decode cX0_wordsHold 80 = .ok (.iload 4, 2) := by decide +kernel
theorem dX0_wordsHold_82 : decode cX0_wordsHold 82 = .ok (.i2s, 1) := by decide +kernel
theorem dX0_wordsHold_83 : decode cX0_wordsHold 83 = .ok (.invokestatic 106, 3) := by decide +kernel
theorem dX0_wordsHold_86 : decode cX0_wordsHold 86 = .ok (.istore 5, 2) := by decide +kernel
theorem dX0_wordsHold_88 : decode cX0_wordsHold 88 = .ok (.iload_n 1, 1) := by decide +kernel
theorem dX0_wordsHold_89 : decode cX0_wordsHold 89 = .ok (.iconst 4, 1) := by decide +kernel
theorem dX0_wordsHold_90 : decode cX0_wordsHold 90 = .ok (.iadd, 1) := by decide +kernel
theorem dX0_wordsHold_91 : decode cX0_wordsHold 91 = .ok (.iload_n 2, 1) := by decide +kernel
theorem dX0_wordsHold_92 : decode cX0_wordsHold 92 = .ok (.iadd, 1) := by decide +kernel
theorem dX0_wordsHold_93 : decode cX0_wordsHold 93 = .ok (.iload 5, 2) := by decide +kernel
theorem dX0_wordsHold_95 : decode cX0_wordsHold 95 = .ok (.iload_n 3, 1) := by decide +kernel
theorem dX0_wordsHold_96 : decode cX0_wordsHold 96 = .ok (.imul, 1) := by decide +kernel
theorem dX0_wordsHold_97 : decode cX0_wordsHold 97 = .ok (.iadd, 1) := by decide +kernel
theorem dX0_wordsHold_98 : decode cX0_wordsHold 98 = .ok (.aload_n 0, 1) := by decide +kernel
theorem dX0_wordsHold_99 : decode cX0_wordsHold 99 = .ok (.invokevirtual 43, 3) := by decide +kernel
theorem dX0_wordsHold_102 : decode cX0_wordsHold 102 = .ok (.if_icmp .gt 7, 3) := by decide +kernel
theorem dX0_wordsHold_105 : decode cX0_wordsHold 105 = .ok (.iconst 1, 1) := by decide +kernel
theorem dX0_wordsHold_106 : decode cX0_wordsHold 106 = .ok (.goto 4, 3) := by decide +kernel
theorem dX0_wordsHold_109 : decode cX0_wordsHold 109 = .ok (.iconst 0, 1) := by decide +kernel
theorem dX0_wordsHold_110 : decode cX0_wordsHold 110 = .ok (.ireturn, 1) := by decide +kernel
set_option maxRecDepth 20000 in
theorem ggX0_endsHold_X0_ends : GoodIn wsX0_endsHold wsX0_ends := goodIn_ca (goodIn_r _ [6, 1, 7, 8, 9, 5, 10, 11, 12, 13, 14, 15, 16, 17, 18, 19, 20, 21, 34, 35, 36] (by decide +kernel) (by decide +kernel)) (goodIn_sub (fun _ h => List.mem_cons_of_mem _ (List.mem_append_right _ h)) (by decide +kernel))
set_option maxRecDepth 20000 in
theorem gX0_endsHold_X0_ends : GoodIn wsX0_endsHold (wsV RX0 67 RX0 yX0_ends wsX0_ends) := goodIn_app (goodIn_of _ (by decide +kernel)) ggX0_endsHold_X0_ends
set_option maxRecDepth 20000 in
theorem ggX0_endsHold_X0_length : GoodIn wsX0_endsHold wsX0_length := goodIn_ca (goodIn_r _ [25, 1, 18, 19, 20, 14, 21, 16, 17, 7, 8, 9, 5, 10, 11, 12, 13, 15, 26, 27, 28, 29, 30, 31, 32, 33, 34, 35, 36] (by decide +kernel) (by decide +kernel)) (goodIn_sub (fun _ h => List.mem_cons_of_mem _ (List.mem_append_right _ h)) (by decide +kernel))
set_option maxRecDepth 20000 in
theorem gX0_endsHold_X0_length : GoodIn wsX0_endsHold (wsV RX0 43 RX0 yX0_length wsX0_length) := goodIn_app (goodIn_of _ (by decide +kernel)) ggX0_endsHold_X0_length
set_option maxRecDepth 20000 in
theorem ggX0_endsHold_X2_at : GoodIn wsX0_endsHold wsX2_at := goodIn_ca (goodIn_r _ [15, 16, 17, 35, 36] (by decide +kernel) (by decide +kernel)) (goodIn_sub (fun _ h => List.mem_cons_of_mem _ (List.mem_append_right _ h)) (by decide +kernel))
set_option maxRecDepth 20000 in
theorem gX0_endsHold_X2_at : GoodIn wsX0_endsHold (wsV RX0 15 RX2 yX2_at wsX2_at) := goodIn_app (goodIn_of _ (by decide +kernel)) ggX0_endsHold_X2_at
theorem dX0_endsHold_0 : decode cX0_endsHold 0 = .ok (.aload_n 0, 1) := by decide +kernel
theorem dX0_endsHold_1 : decode cX0_endsHold 1 = .ok (.invokevirtual 67, 3) := by decide +kernel
theorem dX0_endsHold_4 : decode cX0_endsHold 4 = .ok (.istore_n 1, 1) := by decide +kernel
theorem dX0_endsHold_5 : decode cX0_endsHold 5 = .ok (.aload_n 0, 1) := by decide +kernel
theorem dX0_endsHold_6 : decode cX0_endsHold 6 = .ok (.invokevirtual 43, 3) := by decide +kernel
theorem dX0_endsHold_9 : decode cX0_endsHold 9 = .ok (.istore_n 2, 1) := by decide +kernel
theorem dX0_endsHold_10 : decode cX0_endsHold 10 = .ok (.iload_n 1, 1) := by decide +kernel
theorem dX0_endsHold_11 : decode cX0_endsHold 11 = .ok (.bipush 64, 2) := by decide +kernel
theorem dX0_endsHold_13 : decode cX0_endsHold 13 = .ok (.if_icmp .ge 5, 3) := by decide +kernel
theorem dX0_endsHold_16 : decode cX0_endsHold 16 = .ok (.iconst 0, 1) := by decide +kernel
theorem dX0_endsHold_17 : decode cX0_endsHold 17 = .ok (.ireturn, 1) := by decide +kernel
theorem dX0_endsHold_18 : decode cX0_endsHold 18 = .ok (.iload_n 1, 1) := by decide +kernel
theorem dX0_endsHold_19 : decode cX0_endsHold 19 = .ok (.istore_n 3, 1) := by decide +kernel
theorem dX0_endsHold_20 : decode cX0_endsHold 20 = .ok (.iload_n 3, 1) := by decide +kernel
theorem dX0_endsHold_21 : decode cX0_endsHold 21 = .ok (.iload_n 2, 1) := by decide +kernel
theorem dX0_endsHold_22 : decode cX0_endsHold 22 = .ok (.if_icmp .ge 22, 3) := by decide +kernel
theorem dX0_endsHold_25 : decode cX0_endsHold 25 = .ok (.aload_n 0, 1) := by decide +kernel
theorem dX0_endsHold_26 : decode cX0_endsHold 26 = .ok (.getfield 9, 3) := by decide +kernel
theorem dX0_endsHold_29 : decode cX0_endsHold 29 = .ok (.iload_n 3, 1) := by decide +kernel
theorem dX0_endsHold_30 : decode cX0_endsHold 30 = .ok (.invokevirtual 15, 3) := by decide +kernel
theorem dX0_endsHold_33 : decode cX0_endsHold 33 = .ok (.ifCond .ne 5, 3) := by decide +kernel
theorem dX0_endsHold_36 : decode cX0_endsHold 36 = .ok (.iconst 1, 1) := by decide +kernel
theorem dX0_endsHold_37 : decode cX0_endsHold 37 = .ok (.ireturn, 1) := by decide +kernel
theorem dX0_endsHold_38 : decode cX0_endsHold 38 = .ok (.iinc 3 1, 3) := by decide +kernel
theorem dX0_endsHold_41 : decode cX0_endsHold 41 = .ok (.goto (-21), 3) := by decide +kernel
theorem dX0_endsHold_44 : decode cX0_endsHold 44 = .ok (.iconst 0, 1) := by decide +kernel
theorem dX0_endsHold_45 : decode cX0_endsHold 45 = .ok (.ireturn, 1) := by decide +kernel
set_option maxRecDepth 20000 in
theorem ggX0_moreHolds_X0_moreWords : GoodIn wsX0_moreHolds wsX0_moreWords := goodIn_ca (goodIn_r _ [5, 6, 7, 8, 9, 4, 10, 11, 12, 13, 14, 15, 16, 17, 18, 19, 20, 21, 22, 23, 24, 25, 41, 42, 43] (by decide +kernel) (by decide +kernel)) (goodIn_sub (fun _ h => List.mem_cons_of_mem _ (List.mem_append_right _ h)) (by decide +kernel))
set_option maxRecDepth 20000 in
theorem gX0_moreHolds_X0_moreWords : GoodIn wsX0_moreHolds (wsV RX0 70 RX0 yX0_moreWords wsX0_moreWords) := goodIn_app (goodIn_of _ (by decide +kernel)) ggX0_moreHolds_X0_moreWords
set_option maxRecDepth 20000 in
theorem ggX0_moreHolds_X0_more : GoodIn wsX0_moreHolds wsX0_more := goodIn_ca (goodIn_r _ [10, 6, 11, 12, 13, 4, 14, 15, 16, 17, 18, 19, 20, 21, 22, 23, 24, 25, 41, 42, 43] (by decide +kernel) (by decide +kernel)) (goodIn_sub (fun _ h => List.mem_cons_of_mem _ (List.mem_append_right _ h)) (by decide +kernel))
set_option maxRecDepth 20000 in
theorem gX0_moreHolds_X0_more : GoodIn wsX0_moreHolds (wsV RX0 40 RX0 yX0_more wsX0_more) := goodIn_app (goodIn_of _ (by decide +kernel)) ggX0_moreHolds_X0_more
set_option maxRecDepth 20000 in
theorem ggX0_moreHolds_X0_length : GoodIn wsX0_moreHolds wsX0_length := goodIn_ca (goodIn_r _ [29, 6, 22, 23, 24, 18, 25, 20, 21, 11, 12, 13, 4, 14, 15, 16, 17, 19, 30, 31, 32, 33, 34, 35, 36, 37, 41, 42, 43] (by decide +kernel) (by decide +kernel)) (goodIn_sub (fun _ h => List.mem_cons_of_mem _ (List.mem_append_right _ h)) (by decide +kernel))
set_option maxRecDepth 20000 in
theorem gX0_moreHolds_X0_length : GoodIn wsX0_moreHolds (wsV RX0 43 RX0 yX0_length wsX0_length) := goodIn_app (goodIn_of _ (by decide +kernel)) ggX0_moreHolds_X0_length
set_option maxRecDepth 20000 in
theorem ggX0_moreHolds_X0_fits : GoodIn wsX0_moreHolds wsX0_fits := goodIn_r _ [40] (by decide +kernel) (by decide +kernel)
set_option maxRecDepth 20000 in
theorem gX0_moreHolds_X0_fits : GoodIn wsX0_moreHolds (va_wsS RX0 90 yX0_fits wsX0_fits) := goodIn_app (goodIn_of _ (by decide +kernel)) ggX0_moreHolds_X0_fits
theorem dX0_moreHolds_0 : decode cX0_moreHolds 0 = .ok (.aload_n 0, 1) := by decide +kernel
theorem dX0_moreHolds_1 : decode cX0_moreHolds 1 = .ok (.invokevirtual 70, 3) := by decide +kernel
theorem dX0_moreHolds_4 : decode cX0_moreHolds 4 = .ok (.istore_n 1, 1) := by decide +kernel
theorem dX0_moreHolds_5 : decode cX0_moreHolds 5 = .ok (.iload_n 1, 1) := by decide +kernel
theorem dX0_moreHolds_6 : decode cX0_moreHolds 6 = .ok (.iconst (-1), 1) := by decide +kernel
theorem dX0_moreHolds_7 : decode cX0_moreHolds 7 = .ok (.if_icmp .eq 26, 3) := by decide +kernel
theorem dX0_moreHolds_10 : decode cX0_moreHolds 10 = .ok (.aload_n 0, 1) := by decide +kernel
theorem dX0_moreHolds_11 : decode cX0_moreHolds 11 = .ok (.invokevirtual 40, 3) := by decide +kernel
theorem dX0_moreHolds_14 : decode cX0_moreHolds 14 = .ok (.iconst 2, 1) := by decide +kernel
theorem dX0_moreHolds_15 : decode cX0_moreHolds 15 = .ok (.iconst 2, 1) := by decide +kernel
theorem dX0_moreHolds_16 : decode cX0_moreHolds 16 = .ok (.iload_n 1, 1) := by decide +kernel
theorem dX0_moreHolds_17 : decode cX0_moreHolds 17 = .ok (.imul, 1) := by decide +kernel
theorem dX0_moreHolds_18 : decode cX0_moreHolds 18 = .ok (.iadd, 1) := by decide +kernel
theorem dX0_moreHolds_19 : decode cX0_moreHolds 19 = .ok (.aload_n 0, 1) := by decide +kernel
theorem dX0_moreHolds_20 : decode cX0_moreHolds 20 = .ok (.invokevirtual 43, 3) := by decide +kernel
theorem dX0_moreHolds_23 : decode cX0_moreHolds 23 = .ok (.invokestatic 90, 3) := by decide +kernel
theorem dX0_moreHolds_26 : decode cX0_moreHolds 26 = .ok (.ifCond .eq 7, 3) := by decide +kernel
theorem dX0_moreHolds_29 : decode cX0_moreHolds 29 = .ok (.iconst 1, 1) := by decide +kernel
theorem dX0_moreHolds_30 : decode cX0_moreHolds 30 = .ok (.goto 4, 3) := by decide +kernel
theorem dX0_moreHolds_33 : decode cX0_moreHolds 33 = .ok (.iconst 0, 1) := by decide +kernel
theorem dX0_moreHolds_34 : decode cX0_moreHolds 34 = .ok (.ireturn, 1) := by decide +kernel
set_option maxRecDepth 20000 in
theorem ggX0_thirdHolds_X0_thirdWord : GoodIn wsX0_thirdHolds wsX0_thirdWord := goodIn_ca (goodIn_r _ [6, 1, 7, 8, 9, 5, 10, 11, 12, 13, 14, 15, 16, 17, 18, 19, 20, 21, 22, 23, 24, 25, 41, 42, 43] (by decide +kernel) (by decide +kernel)) (goodIn_sub (fun _ h => List.mem_cons_of_mem _ (List.mem_append_right _ h)) (by decide +kernel))
set_option maxRecDepth 20000 in
theorem gX0_thirdHolds_X0_thirdWord : GoodIn wsX0_thirdHolds (wsV RX0 73 RX0 yX0_thirdWord wsX0_thirdWord) := goodIn_app (goodIn_of _ (by decide +kernel)) ggX0_thirdHolds_X0_thirdWord
set_option maxRecDepth 20000 in
theorem ggX0_thirdHolds_X2_at : GoodIn wsX0_thirdHolds wsX2_at := goodIn_ca (goodIn_r _ [19, 20, 21, 42, 43] (by decide +kernel) (by decide +kernel)) (goodIn_sub (fun _ h => List.mem_cons_of_mem _ (List.mem_append_right _ h)) (by decide +kernel))
set_option maxRecDepth 20000 in
theorem gX0_thirdHolds_X2_at : GoodIn wsX0_thirdHolds (wsV RX0 15 RX2 yX2_at wsX2_at) := goodIn_app (goodIn_of _ (by decide +kernel)) ggX0_thirdHolds_X2_at
set_option maxRecDepth 20000 in
theorem ggX0_thirdHolds_X0_length : GoodIn wsX0_thirdHolds wsX0_length := goodIn_ca (goodIn_r _ [29, 1, 22, 23, 24, 18, 25, 20, 21, 11, 12, 13, 5, 14, 15, 16, 17, 19, 30, 31, 32, 33, 34, 35, 36, 37, 41, 42, 43] (by decide +kernel) (by decide +kernel)) (goodIn_sub (fun _ h => List.mem_cons_of_mem _ (List.mem_append_right _ h)) (by decide +kernel))
set_option maxRecDepth 20000 in
theorem gX0_thirdHolds_X0_length : GoodIn wsX0_thirdHolds (wsV RX0 43 RX0 yX0_length wsX0_length) := goodIn_app (goodIn_of _ (by decide +kernel)) ggX0_thirdHolds_X0_length
set_option maxRecDepth 20000 in
theorem ggX0_thirdHolds_X0_fits : GoodIn wsX0_thirdHolds wsX0_fits := goodIn_r _ [40] (by decide +kernel) (by decide +kernel)
set_option maxRecDepth 20000 in
theorem gX0_thirdHolds_X0_fits : GoodIn wsX0_thirdHolds (va_wsS RX0 90 yX0_fits wsX0_fits) := goodIn_app (goodIn_of _ (by decide +kernel)) ggX0_thirdHolds_X0_fits
theorem dX0_thirdHolds_0 : decode cX0_thirdHolds 0 = .ok (.aload_n 0, 1) := by decide +kernel
theorem dX0_thirdHolds_1 : decode cX0_thirdHolds 1 = .ok (.invokevirtual 73, 3) := by decide +kernel
theorem dX0_thirdHolds_4 : decode cX0_thirdHolds 4 = .ok (.istore_n 1, 1) := by decide +kernel
theorem dX0_thirdHolds_5 : decode cX0_thirdHolds 5 = .ok (.aload_n 0, 1) := by decide +kernel
theorem dX0_thirdHolds_6 : decode cX0_thirdHolds 6 = .ok (.getfield 9, 3) := by decide +kernel
theorem dX0_thirdHolds_9 : decode cX0_thirdHolds 9 = .ok (.iload_n 1, 1) := by decide +kernel
theorem dX0_thirdHolds_10 : decode cX0_thirdHolds 10 = .ok (.invokevirtual 15, 3) := by decide +kernel
theorem dX0_thirdHolds_13 : decode cX0_thirdHolds 13 = .ok (.istore_n 2, 1) := by decide +kernel
theorem dX0_thirdHolds_14 : decode cX0_thirdHolds 14 = .ok (.iload_n 2, 1) := by decide +kernel
theorem dX0_thirdHolds_15 : decode cX0_thirdHolds 15 = .ok (.iconst (-1), 1) := by decide +kernel
theorem dX0_thirdHolds_16 : decode cX0_thirdHolds 16 = .ok (.if_icmp .eq 23, 3) := by decide +kernel
theorem dX0_thirdHolds_19 : decode cX0_thirdHolds 19 = .ok (.iload_n 1, 1) := by decide +kernel
theorem dX0_thirdHolds_20 : decode cX0_thirdHolds 20 = .ok (.iconst 1, 1) := by decide +kernel
theorem dX0_thirdHolds_21 : decode cX0_thirdHolds 21 = .ok (.iconst 2, 1) := by decide +kernel
theorem dX0_thirdHolds_22 : decode cX0_thirdHolds 22 = .ok (.iload_n 2, 1) := by decide +kernel
theorem dX0_thirdHolds_23 : decode cX0_thirdHolds 23 = .ok (.imul, 1) := by decide +kernel
theorem dX0_thirdHolds_24 : decode cX0_thirdHolds 24 = .ok (.iadd, 1) := by decide +kernel
theorem dX0_thirdHolds_25 : decode cX0_thirdHolds 25 = .ok (.aload_n 0, 1) := by decide +kernel
theorem dX0_thirdHolds_26 : decode cX0_thirdHolds 26 = .ok (.invokevirtual 43, 3) := by decide +kernel
theorem dX0_thirdHolds_29 : decode cX0_thirdHolds 29 = .ok (.invokestatic 90, 3) := by decide +kernel
theorem dX0_thirdHolds_32 : decode cX0_thirdHolds 32 = .ok (.ifCond .eq 7, 3) := by decide +kernel
theorem dX0_thirdHolds_35 : decode cX0_thirdHolds 35 = .ok (.iconst 1, 1) := by decide +kernel
theorem dX0_thirdHolds_36 : decode cX0_thirdHolds 36 = .ok (.goto 4, 3) := by decide +kernel
theorem dX0_thirdHolds_39 : decode cX0_thirdHolds 39 = .ok (.iconst 0, 1) := by decide +kernel
theorem dX0_thirdHolds_40 : decode cX0_thirdHolds 40 = .ok (.ireturn, 1) := by decide +kernel
theorem dX0_isWithin_0 : decode cX0_isWithin 0 = .ok (.iload_n 0, 1) := by decide +kernel
theorem dX0_isWithin_1 : decode cX0_isWithin 1 = .ok (.iload_n 1, 1) := by decide +kernel
theorem dX0_isWithin_2 : decode cX0_isWithin 2 = .ok (.if_icmp .lt 12, 3) := by decide +kernel
theorem dX0_isWithin_5 : decode cX0_isWithin 5 = .ok (.iload_n 0, 1) := by decide +kernel
theorem dX0_isWithin_6 : decode cX0_isWithin 6 = .ok (.iload_n 2, 1) := by decide +kernel
theorem dX0_isWithin_7 : decode cX0_isWithin 7 = .ok (.if_icmp .gt 7, 3) := by decide +kernel
theorem dX0_isWithin_10 : decode cX0_isWithin 10 = .ok (.iconst 1, 1) := by decide +kernel
theorem dX0_isWithin_11 : decode cX0_isWithin 11 = .ok (.goto 4, 3) := by decide +kernel
theorem dX0_isWithin_14 : decode cX0_isWithin 14 = .ok (.iconst 0, 1) := by decide +kernel
theorem dX0_isWithin_15 : decode cX0_isWithin 15 = .ok (.ireturn, 1) := by decide +kernel
theorem dX0_fits_0 : decode cX0_fits 0 = .ok (.iload_n 0, 1) := by decide +kernel
theorem dX0_fits_1 : decode cX0_fits 1 = .ok (.bipush 64, 2) := by decide +kernel
theorem dX0_fits_3 : decode cX0_fits 3 = .ok (.if_icmp .lt 14, 3) := by decide +kernel
theorem dX0_fits_6 : decode cX0_fits 6 = .ok (.iload_n 0, 1) := by decide +kernel
theorem dX0_fits_7 : decode cX0_fits 7 = .ok (.iload_n 1, 1) := by decide +kernel
theorem dX0_fits_8 : decode cX0_fits 8 = .ok (.iadd, 1) := by decide +kernel
theorem dX0_fits_9 : decode cX0_fits 9 = .ok (.iload_n 2, 1) := by decide +kernel
theorem dX0_fits_10 : decode cX0_fits 10 = .ok (.if_icmp .gt 7, 3) := by decide +kernel
theorem dX0_fits_13 : decode cX0_fits 13 = .ok (.iconst 1, 1) := by decide +kernel
theorem dX0_fits_14 : decode cX0_fits 14 = .ok (.goto 4, 3) := by decide +kernel
theorem dX0_fits_17 : decode cX0_fits 17 = .ok (.iconst 0, 1) := by decide +kernel
theorem dX0_fits_18 : decode cX0_fits 18 = .ok (.ireturn, 1) := by decide +kernel
end
section
theorem dX1_isFlag_0 : decode cX1_isFlag 0 = .ok (.iload_n 0, 1) := by decide +kernel
theorem dX1_isFlag_1 : decode cX1_isFlag 1 = .ok (.iconst 1, 1) := by decide +kernel
theorem dX1_isFlag_2 : decode cX1_isFlag 2 = .ok (.if_icmp .eq 10, 3) := by decide +kernel
theorem dX1_isFlag_5 : decode cX1_isFlag 5 = .ok (.iload_n 0, 1) := by decide +kernel
theorem dX1_isFlag_6 : decode cX1_isFlag 6 = .ok (.iconst 2, 1) := by decide +kernel
theorem dX1_isFlag_7 : decode cX1_isFlag 7 = .ok (.if_icmp .eq 5, 3) := by decide +kernel
theorem dX1_isFlag_10 : decode cX1_isFlag 10 = .ok (.iconst 0, 1) := by decide +kernel
theorem dX1_isFlag_11 : decode cX1_isFlag 11 = .ok (.ireturn, 1) := by decide +kernel
theorem dX1_isFlag_12 : decode cX1_isFlag 12 = .ok (.iload_n 1, 1) := by decide +kernel
theorem dX1_isFlag_13 : decode cX1_isFlag 13 = .ok (.ifCond .lt 23, 3) := by decide +kernel
theorem dX1_isFlag_16 : decode cX1_isFlag 16 = .ok (.iload_n 1, 1) := by decide +kernel
theorem dX1_isFlag_17 : decode cX1_isFlag 17 = .ok (.iload_n 0, 1) := by decide +kernel
theorem dX1_isFlag_18 : decode cX1_isFlag 18 = .ok (.iconst 1, 1) := by decide +kernel
theorem dX1_isFlag_19 : decode cX1_isFlag 19 = .ok (.if_icmp .ne 8, 3) := by decide +kernel
theorem dX1_isFlag_22 : decode cX1_isFlag 22 = .ok (.bipush 7, 2) := by decide +kernel
theorem dX1_isFlag_24 : decode cX1_isFlag 24 = .ok (.goto 5, 3) := by decide +kernel
theorem dX1_isFlag_27 : decode cX1_isFlag 27 = .ok (.bipush 15, 2) := by decide +kernel
theorem dX1_isFlag_29 : decode cX1_isFlag 29 = .ok (.if_icmp .gt 7, 3) := by decide +kernel
theorem dX1_isFlag_32 : decode cX1_isFlag 32 = .ok (.iconst 1, 1) := by decide +kernel
theorem dX1_isFlag_33 : decode cX1_isFlag 33 = .ok (.goto 4, 3) := by decide +kernel
theorem dX1_isFlag_36 : decode cX1_isFlag 36 = .ok (.iconst 0, 1) := by decide +kernel
theorem dX1_isFlag_37 : decode cX1_isFlag 37 = .ok (.ireturn, 1) := by decide +kernel
set_option maxRecDepth 20000 in
theorem ggX1_maySwitchFirst_X1_playerBits : GoodIn wsX1_maySwitchFirst wsX1_playerBits := goodIn_r _ [4] (by decide +kernel) (by decide +kernel)
set_option maxRecDepth 20000 in
theorem gX1_maySwitchFirst_X1_playerBits : GoodIn wsX1_maySwitchFirst (va_wsS RX1 7 yX1_playerBits wsX1_playerBits) := goodIn_app (goodIn_of _ (by decide +kernel)) ggX1_maySwitchFirst_X1_playerBits
theorem dX1_maySwitchFirst_0 : decode cX1_maySwitchFirst 0 = .ok (.iload_n 2, 1) := by decide +kernel
theorem dX1_maySwitchFirst_1 : decode cX1_maySwitchFirst 1 = .ok (.ifCond .ne 19, 3) := by decide +kernel
theorem dX1_maySwitchFirst_4 : decode cX1_maySwitchFirst 4 = .ok (.iload_n 0, 1) := by decide +kernel
theorem dX1_maySwitchFirst_5 : decode cX1_maySwitchFirst 5 = .ok (.invokestatic 7, 3) := by decide +kernel
theorem dX1_maySwitchFirst_8 : decode cX1_maySwitchFirst 8 = .ok (.iload_n 1, 1) := by decide +kernel
theorem dX1_maySwitchFirst_9 : decode cX1_maySwitchFirst 9 = .ok (.ishr, 1) := by decide +kernel
theorem dX1_maySwitchFirst_10 : decode cX1_maySwitchFirst 10 = .ok (.iconst 1, 1) := by decide +kernel
theorem dX1_maySwitchFirst_11 : decode cX1_maySwitchFirst 11 = .ok (.iand, 1) := by decide +kernel
theorem dX1_maySwitchFirst_12 : decode cX1_maySwitchFirst 12 = .ok (.iconst 1, 1) := by decide +kernel
theorem dX1_maySwitchFirst_13 : decode cX1_maySwitchFirst 13 = .ok (.if_icmp .ne 7, 3) := by decide +kernel
theorem dX1_maySwitchFirst_16 : decode cX1_maySwitchFirst 16 = .ok (.iconst 1, 1) := by decide +kernel
theorem dX1_maySwitchFirst_17 : decode cX1_maySwitchFirst 17 = .ok (.goto 4, 3) := by decide +kernel
theorem dX1_maySwitchFirst_20 : decode cX1_maySwitchFirst 20 = .ok (.iconst 0, 1) := by decide +kernel
theorem dX1_maySwitchFirst_21 : decode cX1_maySwitchFirst 21 = .ok (.ireturn, 1) := by decide +kernel
theorem dX1_playerBits_0 : decode cX1_playerBits 0 = .ok (.iload_n 0, 1) := by decide +kernel
theorem dX1_playerBits_1 : decode cX1_playerBits 1 = .ok (.tableswitch 50 1 6 #[39, 39, 39, 42, 50, 46], 39) := by decide +kernel
theorem dX1_playerBits_40 : decode cX1_playerBits 40 = .ok (.bipush 112, 2) := by decide +kernel
theorem dX1_playerBits_42 : decode cX1_playerBits 42 = .ok (.ireturn, 1) := by decide +kernel
theorem dX1_playerBits_43 : decode cX1_playerBits 43 = .ok (.sipush 156, 3) := by decide +kernel
theorem dX1_playerBits_46 : decode cX1_playerBits 46 = .ok (.ireturn, 1) := by decide +kernel
theorem dX1_playerBits_47 : decode cX1_playerBits 47 = .ok (.sipush 191, 3) := by decide +kernel
theorem dX1_playerBits_50 : decode cX1_playerBits 50 = .ok (.ireturn, 1) := by decide +kernel
theorem dX1_playerBits_51 : decode cX1_playerBits 51 = .ok (.sipush 157, 3) := by decide +kernel
theorem dX1_playerBits_54 : decode cX1_playerBits 54 = .ok (.ireturn, 1) := by decide +kernel
theorem dX1_maySwitchSecond_0 : decode cX1_maySwitchSecond 0 = .ok (.iload_n 1, 1) := by decide +kernel
theorem dX1_maySwitchSecond_1 : decode cX1_maySwitchSecond 1 = .ok (.ifCond .ne 5, 3) := by decide +kernel
theorem dX1_maySwitchSecond_4 : decode cX1_maySwitchSecond 4 = .ok (.iconst 1, 1) := by decide +kernel
theorem dX1_maySwitchSecond_5 : decode cX1_maySwitchSecond 5 = .ok (.ireturn, 1) := by decide +kernel
theorem dX1_maySwitchSecond_6 : decode cX1_maySwitchSecond 6 = .ok (.iload_n 1, 1) := by decide +kernel
theorem dX1_maySwitchSecond_7 : decode cX1_maySwitchSecond 7 = .ok (.iconst 1, 1) := by decide +kernel
theorem dX1_maySwitchSecond_8 : decode cX1_maySwitchSecond 8 = .ok (.if_icmp .ne 18, 3) := by decide +kernel
theorem dX1_maySwitchSecond_11 : decode cX1_maySwitchSecond 11 = .ok (.iload_n 3, 1) := by decide +kernel
theorem dX1_maySwitchSecond_12 : decode cX1_maySwitchSecond 12 = .ok (.ifCond .eq 12, 3) := by decide +kernel
theorem dX1_maySwitchSecond_15 : decode cX1_maySwitchSecond 15 = .ok (.iload_n 0, 1) := by decide +kernel
theorem dX1_maySwitchSecond_16 : decode cX1_maySwitchSecond 16 = .ok (.iconst 3, 1) := by decide +kernel
theorem dX1_maySwitchSecond_17 : decode cX1_maySwitchSecond 17 = .ok (.if_icmp .lt 7, 3) := by decide +kernel
theorem dX1_maySwitchSecond_20 : decode cX1_maySwitchSecond 20 = .ok (.iconst 1, 1) := by decide +kernel
theorem dX1_maySwitchSecond_21 : decode cX1_maySwitchSecond 21 = .ok (.goto 4, 3) := by decide +kernel
theorem dX1_maySwitchSecond_24 : decode cX1_maySwitchSecond 24 = .ok (.iconst 0, 1) := by decide +kernel
theorem dX1_maySwitchSecond_25 : decode cX1_maySwitchSecond 25 = .ok (.ireturn, 1) := by decide +kernel
theorem dX1_maySwitchSecond_26 : decode cX1_maySwitchSecond 26 = .ok (.iload_n 1, 1) := by decide +kernel
theorem dX1_maySwitchSecond_27 : decode cX1_maySwitchSecond 27 = .ok (.iconst 2, 1) := by decide +kernel
theorem dX1_maySwitchSecond_28 : decode cX1_maySwitchSecond 28 = .ok (.if_icmp .ne 23, 3) := by decide +kernel
theorem dX1_maySwitchSecond_31 : decode cX1_maySwitchSecond 31 = .ok (.iload_n 0, 1) := by decide +kernel
theorem dX1_maySwitchSecond_32 : decode cX1_maySwitchSecond 32 = .ok (.bipush 6, 2) := by decide +kernel
theorem dX1_maySwitchSecond_34 : decode cX1_maySwitchSecond 34 = .ok (.if_icmp .ne 15, 3) := by decide +kernel
theorem dX1_maySwitchSecond_37 : decode cX1_maySwitchSecond 37 = .ok (.iload_n 3, 1) := by decide +kernel
theorem dX1_maySwitchSecond_38 : decode cX1_maySwitchSecond 38 = .ok (.ifCond .eq 7, 3) := by decide +kernel
theorem dX1_maySwitchSecond_41 : decode cX1_maySwitchSecond 41 = .ok (.iload_n 2, 1) := by decide +kernel
theorem dX1_maySwitchSecond_42 : decode cX1_maySwitchSecond 42 = .ok (.ifCond .ne 7, 3) := by decide +kernel
theorem dX1_maySwitchSecond_45 : decode cX1_maySwitchSecond 45 = .ok (.iconst 1, 1) := by decide +kernel
theorem dX1_maySwitchSecond_46 : decode cX1_maySwitchSecond 46 = .ok (.goto 4, 3) := by decide +kernel
theorem dX1_maySwitchSecond_49 : decode cX1_maySwitchSecond 49 = .ok (.iconst 0, 1) := by decide +kernel
theorem dX1_maySwitchSecond_50 : decode cX1_maySwitchSecond 50 = .ok (.ireturn, 1) := by decide +kernel
theorem dX1_maySwitchSecond_51 : decode cX1_maySwitchSecond 51 = .ok (.iload_n 3, 1) := by decide +kernel
theorem dX1_maySwitchSecond_52 : decode cX1_maySwitchSecond 52 = .ok (.ifCond .ne 7, 3) := by decide +kernel
theorem dX1_maySwitchSecond_55 : decode cX1_maySwitchSecond 55 = .ok (.iload_n 2, 1) := by decide +kernel
theorem dX1_maySwitchSecond_56 : decode cX1_maySwitchSecond 56 = .ok (.ifCond .eq 5, 3) := by decide +kernel
theorem dX1_maySwitchSecond_59 : decode cX1_maySwitchSecond 59 = .ok (.iconst 0, 1) := by decide +kernel
theorem dX1_maySwitchSecond_60 : decode cX1_maySwitchSecond 60 = .ok (.ireturn, 1) := by decide +kernel
theorem dX1_maySwitchSecond_61 : decode cX1_maySwitchSecond 61 = .ok (.iload_n 1, 1) := by decide +kernel
theorem dX1_maySwitchSecond_62 : decode cX1_maySwitchSecond 62 = .ok (.bipush 7, 2) := by decide +kernel
theorem dX1_maySwitchSecond_64 : decode cX1_maySwitchSecond 64 = .ok (.if_icmp .gt 16, 3) := by decide +kernel
theorem dX1_maySwitchSecond_67 : decode cX1_maySwitchSecond 67 = .ok (.iload_n 0, 1) := by decide +kernel
theorem dX1_maySwitchSecond_68 : decode cX1_maySwitchSecond 68 = .ok (.iconst 5, 1) := by decide +kernel
theorem dX1_maySwitchSecond_69 : decode cX1_maySwitchSecond 69 = .ok (.if_icmp .lt 7, 3) := by decide +kernel
theorem dX1_maySwitchSecond_72 : decode cX1_maySwitchSecond 72 = .ok (.iconst 1, 1) := by decide +kernel
theorem dX1_maySwitchSecond_73 : decode cX1_maySwitchSecond 73 = .ok (.goto 24, 3) := by decide +kernel
theorem dX1_maySwitchSecond_76 : decode cX1_maySwitchSecond 76 = .ok (.iconst 0, 1) := by decide +kernel
theorem dX1_maySwitchSecond_77 : decode cX1_maySwitchSecond 77 = .ok (.goto 20, 3) := by decide +kernel
theorem dX1_maySwitchSecond_80 : decode cX1_maySwitchSecond 80 = .ok (.iload_n 1, 1) := by decide +kernel
theorem dX1_maySwitchSecond_81 : decode cX1_maySwitchSecond 81 = .ok (.bipush 8, 2) := by decide +kernel
theorem dX1_maySwitchSecond_83 : decode cX1_maySwitchSecond 83 = .ok (.if_icmp .ne 13, 3) := by decide +kernel
theorem dX1_maySwitchSecond_86 : decode cX1_maySwitchSecond 86 = .ok (.iload_n 0, 1) := by decide +kernel
theorem dX1_maySwitchSecond_87 : decode cX1_maySwitchSecond 87 = .ok (.bipush 6, 2) := by decide +kernel
theorem dX1_maySwitchSecond_89 : decode cX1_maySwitchSecond 89 = .ok (.if_icmp .ne 7, 3) := by decide +kernel
theorem dX1_maySwitchSecond_92 : decode cX1_maySwitchSecond 92 = .ok (.iconst 1, 1) := by decide +kernel
theorem dX1_maySwitchSecond_93 : decode cX1_maySwitchSecond 93 = .ok (.goto 4, 3) := by decide +kernel
theorem dX1_maySwitchSecond_96 : decode cX1_maySwitchSecond 96 = .ok (.iconst 0, 1) := by decide +kernel
theorem dX1_maySwitchSecond_97 : decode cX1_maySwitchSecond 97 = .ok (.ireturn, 1) := by decide +kernel
theorem dX1_isWide_0 : decode cX1_isWide 0 = .ok (.iload_n 0, 1) := by decide +kernel
theorem dX1_isWide_1 : decode cX1_isWide 1 = .ok (.iconst 4, 1) := by decide +kernel
theorem dX1_isWide_2 : decode cX1_isWide 2 = .ok (.if_icmp .eq 14, 3) := by decide +kernel
theorem dX1_isWide_5 : decode cX1_isWide 5 = .ok (.iload_n 0, 1) := by decide +kernel
theorem dX1_isWide_6 : decode cX1_isWide 6 = .ok (.iconst 5, 1) := by decide +kernel
theorem dX1_isWide_7 : decode cX1_isWide 7 = .ok (.if_icmp .eq 9, 3) := by decide +kernel
theorem dX1_isWide_10 : decode cX1_isWide 10 = .ok (.iload_n 0, 1) := by decide +kernel
theorem dX1_isWide_11 : decode cX1_isWide 11 = .ok (.bipush 10, 2) := by decide +kernel
theorem dX1_isWide_13 : decode cX1_isWide 13 = .ok (.if_icmp .ne 7, 3) := by decide +kernel
theorem dX1_isWide_16 : decode cX1_isWide 16 = .ok (.iconst 1, 1) := by decide +kernel
theorem dX1_isWide_17 : decode cX1_isWide 17 = .ok (.goto 4, 3) := by decide +kernel
theorem dX1_isWide_20 : decode cX1_isWide 20 = .ok (.iconst 0, 1) := by decide +kernel
theorem dX1_isWide_21 : decode cX1_isWide 21 = .ok (.ireturn, 1) := by decide +kernel
theorem dX1_settableFrom_0 : decode cX1_settableFrom 0 = .ok (.iload_n 0, 1) := by decide +kernel
theorem dX1_settableFrom_1 : decode cX1_settableFrom 1 = .ok (.iconst 3, 1) := by decide +kernel
theorem dX1_settableFrom_2 : decode cX1_settableFrom 2 = .ok (.if_icmp .gt 5, 3) := by decide +kernel
theorem dX1_settableFrom_5 : decode cX1_settableFrom 5 = .ok (.iconst 4, 1) := by decide +kernel
theorem dX1_settableFrom_6 : decode cX1_settableFrom 6 = .ok (.ireturn, 1) := by decide +kernel
theorem dX1_settableFrom_7 : decode cX1_settableFrom 7 = .ok (.iload_n 0, 1) := by decide +kernel
theorem dX1_settableFrom_8 : decode cX1_settableFrom 8 = .ok (.bipush 9, 2) := by decide +kernel
theorem dX1_settableFrom_10 : decode cX1_settableFrom 10 = .ok (.if_icmp .gt 7, 3) := by decide +kernel
theorem dX1_settableFrom_13 : decode cX1_settableFrom 13 = .ok (.iconst 5, 1) := by decide +kernel
theorem dX1_settableFrom_14 : decode cX1_settableFrom 14 = .ok (.goto 4, 3) := by decide +kernel
theorem dX1_settableFrom_17 : decode cX1_settableFrom 17 = .ok (.iconst 1, 1) := by decide +kernel
theorem dX1_settableFrom_18 : decode cX1_settableFrom 18 = .ok (.ireturn, 1) := by decide +kernel
theorem dX1_settingPlace_0 : decode cX1_settingPlace 0 = .ok (.iload_n 0, 1) := by decide +kernel
theorem dX1_settingPlace_1 : decode cX1_settingPlace 1 = .ok (.tableswitch 84 4 10 #[43, 46, 49, 62, 75, 78, 81], 43) := by decide +kernel
theorem dX1_settingPlace_44 : decode cX1_settingPlace 44 = .ok (.bipush 34, 2) := by decide +kernel
theorem dX1_settingPlace_46 : decode cX1_settingPlace 46 = .ok (.ireturn, 1) := by decide +kernel
theorem dX1_settingPlace_47 : decode cX1_settingPlace 47 = .ok (.bipush 36, 2) := by decide +kernel
theorem dX1_settingPlace_49 : decode cX1_settingPlace 49 = .ok (.ireturn, 1) := by decide +kernel
theorem dX1_settingPlace_50 : decode cX1_settingPlace 50 = .ok (.iload_n 1, 1) := by decide +kernel
theorem dX1_settingPlace_51 : decode cX1_settingPlace 51 = .ok (.iconst 5, 1) := by decide +kernel
theorem dX1_settingPlace_52 : decode cX1_settingPlace 52 = .ok (.if_icmp .ne 8, 3) := by decide +kernel
theorem dX1_settingPlace_55 : decode cX1_settingPlace 55 = .ok (.bipush 38, 2) := by decide +kernel
theorem dX1_settingPlace_57 : decode cX1_settingPlace 57 = .ok (.goto 5, 3) := by decide +kernel
theorem dX1_settingPlace_60 : decode cX1_settingPlace 60 = .ok (.bipush 39, 2) := by decide +kernel
theorem dX1_settingPlace_62 : decode cX1_settingPlace 62 = .ok (.ireturn, 1) := by decide +kernel
theorem dX1_settingPlace_63 : decode cX1_settingPlace 63 = .ok (.iload_n 1, 1) := by decide +kernel
theorem dX1_settingPlace_64 : decode cX1_settingPlace 64 = .ok (.iconst 5, 1) := by decide +kernel
theorem dX1_settingPlace_65 : decode cX1_settingPlace 65 = .ok (.if_icmp .ne 8, 3) := by decide +kernel
theorem dX1_settingPlace_68 : decode cX1_settingPlace 68 = .ok (.bipush 39, 2) := by decide +kernel
theorem dX1_settingPlace_70 : decode cX1_settingPlace 70 = .ok (.goto 5, 3) := by decide +kernel
theorem dX1_settingPlace_73 : decode cX1_settingPlace 73 = .ok (.bipush 38, 2) := by decide +kernel
theorem dX1_settingPlace_75 : decode cX1_settingPlace 75 = .ok (.ireturn, 1) := by decide +kernel
theorem dX1_settingPlace_76 : decode cX1_settingPlace 76 = .ok (.bipush 44, 2) := by decide +kernel
theorem dX1_settingPlace_78 : decode cX1_settingPlace 78 = .ok (.ireturn, 1) := by decide +kernel
theorem dX1_settingPlace_79 : decode cX1_settingPlace 79 = .ok (.bipush 45, 2) := by decide +kernel
theorem dX1_settingPlace_81 : decode cX1_settingPlace 81 = .ok (.ireturn, 1) := by decide +kernel
theorem dX1_settingPlace_82 : decode cX1_settingPlace 82 = .ok (.bipush 50, 2) := by decide +kernel
theorem dX1_settingPlace_84 : decode cX1_settingPlace 84 = .ok (.ireturn, 1) := by decide +kernel
theorem dX1_settingPlace_85 : decode cX1_settingPlace 85 = .ok (.bipush 30, 2) := by decide +kernel
theorem dX1_settingPlace_87 : decode cX1_settingPlace 87 = .ok (.iload_n 0, 1) := by decide +kernel
theorem dX1_settingPlace_88 : decode cX1_settingPlace 88 = .ok (.iadd, 1) := by decide +kernel
theorem dX1_settingPlace_89 : decode cX1_settingPlace 89 = .ok (.ireturn, 1) := by decide +kernel
end
section
theorem dX2_init_0 : decode cX2_init 0 = .ok (.aload_n 0, 1) := by decide +kernel
theorem dX2_init_1 : decode cX2_init 1 = .ok (.invokespecial 3, 3) := by decide +kernel
theorem dX2_init_4 : decode cX2_init 4 = .ok (.aload_n 0, 1) := by decide +kernel
theorem dX2_init_5 : decode cX2_init 5 = .ok (.sipush 600, 3) := by decide +kernel
theorem dX2_init_8 : decode cX2_init 8 = .ok (.newarray .int, 2) := by decide +kernel
theorem dX2_init_10 : decode cX2_init 10 = .ok (.putfield 9, 3) := by decide +kernel
theorem dX2_init_13 : decode cX2_init 13 = .ok (.aload_n 0, 1) := by decide +kernel
theorem dX2_init_14 : decode cX2_init 14 = .ok (.iconst 0, 1) := by decide +kernel
theorem dX2_init_15 : decode cX2_init 15 = .ok (.putfield 15, 3) := by decide +kernel
theorem dX2_init_18 : decode cX2_init 18 = .ok (.return_, 1) := by decide +kernel
theorem dX2_count_0 : decode cX2_count 0 = .ok (.aload_n 0, 1) := by decide +kernel
theorem dX2_count_1 : decode cX2_count 1 = .ok (.getfield 15, 3) := by decide +kernel
theorem dX2_count_4 : decode cX2_count 4 = .ok (.ireturn, 1) := by decide +kernel
theorem dX2_room_0 : decode cX2_room 0 = .ok (.sipush 600, 3) := by decide +kernel
theorem dX2_room_3 : decode cX2_room 3 = .ok (.aload_n 0, 1) := by decide +kernel
theorem dX2_room_4 : decode cX2_room 4 = .ok (.getfield 15, 3) := by decide +kernel
theorem dX2_room_7 : decode cX2_room 7 = .ok (.isub, 1) := by decide +kernel
theorem dX2_room_8 : decode cX2_room 8 = .ok (.ireturn, 1) := by decide +kernel
theorem dX2_has_0 : decode cX2_has 0 = .ok (.iload_n 1, 1) := by decide +kernel
theorem dX2_has_1 : decode cX2_has 1 = .ok (.ifCond .lt 24, 3) := by decide +kernel
theorem dX2_has_4 : decode cX2_has 4 = .ok (.iload_n 1, 1) := by decide +kernel
theorem dX2_has_5 : decode cX2_has 5 = .ok (.aload_n 0, 1) := by decide +kernel
theorem dX2_has_6 : decode cX2_has 6 = .ok (.getfield 15, 3) := by decide +kernel
theorem dX2_has_9 : decode cX2_has 9 = .ok (.if_icmp .ge 16, 3) := by decide +kernel
theorem dX2_has_12 : decode cX2_has 12 = .ok (.iload_n 1, 1) := by decide +kernel
theorem dX2_has_13 : decode cX2_has 13 = .ok (.aload_n 0, 1) := by decide +kernel
theorem dX2_has_14 : decode cX2_has 14 = .ok (.getfield 9, 3) := by decide +kernel
theorem dX2_has_17 : decode cX2_has 17 = .ok (.arraylength, 1) := by decide +kernel
theorem dX2_has_18 : decode cX2_has 18 = .ok (.if_icmp .ge 7, 3) := by decide +kernel
theorem dX2_has_21 : decode cX2_has 21 = .ok (.iconst 1, 1) := by decide +kernel
theorem dX2_has_22 : decode cX2_has 22 = .ok (.goto 4, 3) := by decide +kernel
theorem dX2_has_25 : decode cX2_has 25 = .ok (.iconst 0, 1) := by decide +kernel
theorem dX2_has_26 : decode cX2_has 26 = .ok (.ireturn, 1) := by decide +kernel
theorem dX2_at_0 : decode cX2_at 0 = .ok (.iload_n 1, 1) := by decide +kernel
theorem dX2_at_1 : decode cX2_at 1 = .ok (.ifCond .lt 29, 3) := by decide +kernel
theorem dX2_at_4 : decode cX2_at 4 = .ok (.iload_n 1, 1) := by decide +kernel
theorem dX2_at_5 : decode cX2_at 5 = .ok (.aload_n 0, 1) := by decide +kernel
theorem dX2_at_6 : decode cX2_at 6 = .ok (.getfield 15, 3) := by decide +kernel
theorem dX2_at_9 : decode cX2_at 9 = .ok (.if_icmp .ge 21, 3) := by decide +kernel
theorem dX2_at_12 : decode cX2_at 12 = .ok (.iload_n 1, 1) := by decide +kernel
theorem dX2_at_13 : decode cX2_at 13 = .ok (.aload_n 0, 1) := by decide +kernel
theorem dX2_at_14 : decode cX2_at 14 = .ok (.getfield 9, 3) := by decide +kernel
theorem dX2_at_17 : decode cX2_at 17 = .ok (.arraylength, 1) := by decide +kernel
theorem dX2_at_18 : decode cX2_at 18 = .ok (.if_icmp .ge 12, 3) := by decide +kernel
theorem dX2_at_21 : decode cX2_at 21 = .ok (.aload_n 0, 1) := by decide +kernel
theorem dX2_at_22 : decode cX2_at 22 = .ok (.getfield 9, 3) := by decide +kernel
theorem dX2_at_25 : decode cX2_at 25 = .ok (.iload_n 1, 1) := by decide +kernel
theorem dX2_at_26 : decode cX2_at 26 = .ok (.iaload, 1) := by decide +kernel
theorem dX2_at_27 : decode cX2_at 27 = .ok (.goto 4, 3) := by decide +kernel
theorem dX2_at_30 : decode cX2_at 30 = .ok (.iconst (-1), 1) := by decide +kernel
theorem dX2_at_31 : decode cX2_at 31 = .ok (.ireturn, 1) := by decide +kernel
theorem dX2_two_0 : decode cX2_two 0 = .ok (.iload_n 1, 1) := by decide +kernel
theorem dX2_two_1 : decode cX2_two 1 = .ok (.ifCond .lt 24, 3) := by decide +kernel
theorem dX2_two_4 : decode cX2_two 4 = .ok (.iload_n 1, 1) := by decide +kernel
theorem dX2_two_5 : decode cX2_two 5 = .ok (.aload_n 0, 1) := by decide +kernel
theorem dX2_two_6 : decode cX2_two 6 = .ok (.getfield 15, 3) := by decide +kernel
theorem dX2_two_9 : decode cX2_two 9 = .ok (.iconst 1, 1) := by decide +kernel
theorem dX2_two_10 : decode cX2_two 10 = .ok (.isub, 1) := by decide +kernel
theorem dX2_two_11 : decode cX2_two 11 = .ok (.if_icmp .ge 14, 3) := by decide +kernel
theorem dX2_two_14 : decode cX2_two 14 = .ok (.iload_n 1, 1) := by decide +kernel
theorem dX2_two_15 : decode cX2_two 15 = .ok (.aload_n 0, 1) := by decide +kernel
theorem dX2_two_16 : decode cX2_two 16 = .ok (.getfield 9, 3) := by decide +kernel
theorem dX2_two_19 : decode cX2_two 19 = .ok (.arraylength, 1) := by decide +kernel
theorem dX2_two_20 : decode cX2_two 20 = .ok (.iconst 1, 1) := by decide +kernel
theorem dX2_two_21 : decode cX2_two 21 = .ok (.isub, 1) := by decide +kernel
theorem dX2_two_22 : decode cX2_two 22 = .ok (.if_icmp .lt 5, 3) := by decide +kernel
theorem dX2_two_25 : decode cX2_two 25 = .ok (.iconst (-1), 1) := by decide +kernel
theorem dX2_two_26 : decode cX2_two 26 = .ok (.ireturn, 1) := by decide +kernel
theorem dX2_two_27 : decode cX2_two 27 = .ok (.aload_n 0, 1) := by decide +kernel
theorem dX2_two_28 : decode cX2_two 28 = .ok (.getfield 9, 3) := by decide +kernel
theorem dX2_two_31 : decode cX2_two 31 = .ok (.iload_n 1, 1) := by decide +kernel
theorem dX2_two_32 : decode cX2_two 32 = .ok (.iaload, 1) := by decide +kernel
theorem dX2_two_33 : decode cX2_two 33 = .ok (.sipush 256, 3) := by decide +kernel
theorem dX2_two_36 : decode cX2_two 36 = .ok (.imul, 1) := by decide +kernel
theorem dX2_two_37 : decode cX2_two 37 = .ok (.aload_n 0, 1) := by decide +kernel
theorem dX2_two_38 : decode cX2_two 38 = .ok (.getfield 9, 3) := by decide +kernel
theorem dX2_two_41 : decode cX2_two 41 = .ok (.iload_n 1, 1) := by decide +kernel
theorem dX2_two_42 : decode cX2_two 42 = .ok (.iconst 1, 1) := by decide +kernel
theorem dX2_two_43 : decode cX2_two 43 = .ok (.iadd, 1) := by decide +kernel
theorem dX2_two_44 : decode cX2_two 44 = .ok (.iaload, 1) := by decide +kernel
theorem dX2_two_45 : decode cX2_two 45 = .ok (.iadd, 1) := by decide +kernel
theorem dX2_two_46 : decode cX2_two 46 = .ok (.ireturn, 1) := by decide +kernel
set_option maxRecDepth 20000 in
theorem ggX2_put_X2_has : GoodIn wsX2_put wsX2_has := goodIn_r _ [6, 7, 1, 8, 9] (by decide +kernel) (by decide +kernel)
set_option maxRecDepth 20000 in
theorem gX2_put_X2_has : GoodIn wsX2_put (wsV RX2 19 RX2 yX2_has wsX2_has) := goodIn_app (goodIn_of _ (by decide +kernel)) ggX2_put_X2_has
theorem dX2_put_0 : decode cX2_put 0 = .ok (.aload_n 0, 1) := by decide +kernel
theorem dX2_put_1 : decode cX2_put 1 = .ok (.iload_n 1, 1) := by decide +kernel
theorem dX2_put_2 : decode cX2_put 2 = .ok (.invokevirtual 19, 3) := by decide +kernel
theorem dX2_put_5 : decode cX2_put 5 = .ok (.ifCond .eq 14, 3) := by decide +kernel
theorem dX2_put_8 : decode cX2_put 8 = .ok (.aload_n 0, 1) := by decide +kernel
theorem dX2_put_9 : decode cX2_put 9 = .ok (.getfield 9, 3) := by decide +kernel
theorem dX2_put_12 : decode cX2_put 12 = .ok (.iload_n 1, 1) := by decide +kernel
theorem dX2_put_13 : decode cX2_put 13 = .ok (.iload_n 2, 1) := by decide +kernel
theorem dX2_put_14 : decode cX2_put 14 = .ok (.sipush 255, 3) := by decide +kernel
theorem dX2_put_17 : decode cX2_put 17 = .ok (.iand, 1) := by decide +kernel
theorem dX2_put_18 : decode cX2_put 18 = .ok (.iastore, 1) := by decide +kernel
theorem dX2_put_19 : decode cX2_put 19 = .ok (.return_, 1) := by decide +kernel
set_option maxRecDepth 20000 in
theorem ggX2_putTwo_X2_put : GoodIn wsX2_putTwo wsX2_put := goodIn_ca (goodIn_r _ [5, 6, 7, 8, 9, 4, 10, 11, 12, 13] (by decide +kernel) (by decide +kernel)) (goodIn_sub (fun _ h => List.mem_cons_of_mem _ (List.mem_append_right _ h)) (by decide +kernel))
set_option maxRecDepth 20000 in
theorem gX2_putTwo_X2_put : GoodIn wsX2_putTwo (wsV RX2 23 RX2 yX2_put wsX2_put) := goodIn_app (goodIn_of _ (by decide +kernel)) ggX2_putTwo_X2_put
theorem dX2_putTwo_0 : decode cX2_putTwo 0 = .ok (.aload_n 0, 1) := by decide +kernel
theorem dX2_putTwo_1 : decode cX2_putTwo 1 = .ok (.iload_n 1, 1) := by decide +kernel
theorem dX2_putTwo_2 : decode cX2_putTwo 2 = .ok (.iload_n 2, 1) := by decide +kernel
theorem dX2_putTwo_3 : decode cX2_putTwo 3 = .ok (.bipush 8, 2) := by decide +kernel
theorem dX2_putTwo_5 : decode cX2_putTwo 5 = .ok (.ishr, 1) := by decide +kernel
theorem dX2_putTwo_6 : decode cX2_putTwo 6 = .ok (.invokevirtual 23, 3) := by decide +kernel
theorem dX2_putTwo_9 : decode cX2_putTwo 9 = .ok (.aload_n 0, 1) := by decide +kernel
theorem dX2_putTwo_10 : decode cX2_putTwo 10 = .ok (.iload_n 1, 1) := by decide +kernel
theorem dX2_putTwo_11 : decode cX2_putTwo 11 = .ok (.iconst 1, 1) := by decide +kernel
theorem dX2_putTwo_12 : decode cX2_putTwo 12 = .ok (.iadd, 1) := by decide +kernel
theorem dX2_putTwo_13 : decode cX2_putTwo 13 = .ok (.iload_n 2, 1) := by decide +kernel
theorem dX2_putTwo_14 : decode cX2_putTwo 14 = .ok (.invokevirtual 23, 3) := by decide +kernel
theorem dX2_putTwo_17 : decode cX2_putTwo 17 = .ok (.return_, 1) := by decide +kernel
theorem dX2_add_0 : decode cX2_add 0 = .ok (.aload_n 0, 1) := by decide +kernel
theorem dX2_add_1 : decode cX2_add 1 = .ok (.getfield 15, 3) := by decide +kernel
theorem dX2_add_4 : decode cX2_add 4 = .ok (.ifCond .lt 35, 3) := by decide +kernel
theorem dX2_add_7 : decode cX2_add 7 = .ok (.aload_n 0, 1) := by decide +kernel
theorem dX2_add_8 : decode cX2_add 8 = .ok (.getfield 15, 3) := by decide +kernel
theorem dX2_add_11 : decode cX2_add 11 = .ok (.aload_n 0, 1) := by decide +kernel
theorem dX2_add_12 : decode cX2_add 12 = .ok (.getfield 9, 3) := by decide +kernel
theorem dX2_add_15 : decode cX2_add 15 = .ok (.arraylength, 1) := by decide +kernel
theorem dX2_add_16 : decode cX2_add 16 = .ok (.if_icmp .ge 23, 3) := by decide +kernel
theorem dX2_add_19 : decode cX2_add 19 = .ok (.aload_n 0, 1) := by decide +kernel
theorem dX2_add_20 : decode cX2_add 20 = .ok (.getfield 9, 3) := by decide +kernel
theorem dX2_add_23 : decode cX2_add 23 = .ok (.aload_n 0, 1) := by decide +kernel
theorem dX2_add_24 : decode cX2_add 24 = .ok (.getfield 15, 3) := by decide +kernel
theorem dX2_add_27 : decode cX2_add 27 = .ok (.iload_n 1, 1) := by decide +kernel
theorem dX2_add_28 : decode cX2_add 28 = .ok (.iastore, 1) := by decide +kernel
theorem dX2_add_29 : decode cX2_add 29 = .ok (.aload_n 0, 1) := by decide +kernel
theorem dX2_add_30 : decode cX2_add 30 = .ok (.dup, 1) := by decide +kernel
theorem dX2_add_31 : decode cX2_add 31 = .ok (.getfield 15, 3) := by decide +kernel
theorem dX2_add_34 : decode cX2_add 34 = .ok (.iconst 1, 1) := by decide +kernel
theorem dX2_add_35 : decode cX2_add 35 = .ok (.iadd, 1) := by decide +kernel
theorem dX2_add_36 : decode cX2_add 36 = .ok (.putfield 15, 3) := by decide +kernel
theorem dX2_add_39 : decode cX2_add 39 = .ok (.return_, 1) := by decide +kernel
theorem dX2_empty_0 : decode cX2_empty 0 = .ok (.aload_n 0, 1) := by decide +kernel
theorem dX2_empty_1 : decode cX2_empty 1 = .ok (.iconst 0, 1) := by decide +kernel
theorem dX2_empty_2 : decode cX2_empty 2 = .ok (.putfield 15, 3) := by decide +kernel
theorem dX2_empty_5 : decode cX2_empty 5 = .ok (.return_, 1) := by decide +kernel
theorem dX2_copy_0 : decode cX2_copy 0 = .ok (.aload_n 1, 1) := by decide +kernel
theorem dX2_copy_1 : decode cX2_copy 1 = .ok (.ifnull 27, 3) := by decide +kernel
theorem dX2_copy_4 : decode cX2_copy 4 = .ok (.aload_n 1, 1) := by decide +kernel
theorem dX2_copy_5 : decode cX2_copy 5 = .ok (.getfield 9, 3) := by decide +kernel
theorem dX2_copy_8 : decode cX2_copy 8 = .ok (.iconst 0, 1) := by decide +kernel
theorem dX2_copy_9 : decode cX2_copy 9 = .ok (.aload_n 0, 1) := by decide +kernel
theorem dX2_copy_10 : decode cX2_copy 10 = .ok (.getfield 9, 3) := by decide +kernel
theorem dX2_copy_13 : decode cX2_copy 13 = .ok (.iconst 0, 1) := by decide +kernel
theorem dX2_copy_14 : decode cX2_copy 14 = .ok (.sipush 600, 3) := by decide +kernel
theorem dX2_copy_17 : decode cX2_copy 17 = .ok (.invokestatic 27, 3) := by decide +kernel
theorem dX2_copy_20 : decode cX2_copy 20 = .ok (.aload_n 0, 1) := by decide +kernel
theorem dX2_copy_21 : decode cX2_copy 21 = .ok (.aload_n 1, 1) := by decide +kernel
theorem dX2_copy_22 : decode cX2_copy 22 = .ok (.getfield 15, 3) := by decide +kernel
theorem dX2_copy_25 : decode cX2_copy 25 = .ok (.putfield 15, 3) := by decide +kernel
theorem dX2_copy_28 : decode cX2_copy 28 = .ok (.return_, 1) := by decide +kernel
end
section
set_option maxRecDepth 20000 in
theorem ggX3_init_X2_init : GoodIn wsX3_init wsX2_init := goodIn_r _ [16, 17, 2, 3, 18, 19, 20, 26, 27] (by decide +kernel) (by decide +kernel)
set_option maxRecDepth 20000 in
theorem gX3_init_X2_init_n9 : GoodIn wsX3_init (wsX2_init) := ggX3_init_X2_init
set_option maxRecDepth 20000 in
theorem ggX3_init_X0_init : GoodIn wsX3_init wsX0_init := goodIn_r _ [23, 24, 2, 3, 25, 33] (by decide +kernel) (by decide +kernel)
set_option maxRecDepth 20000 in
theorem gX3_init_X0_init : GoodIn wsX3_init (wsX0_init) := ggX3_init_X0_init
theorem dX3_init_0 : decode cX3_init 0 = .ok (.aload_n 0, 1) := by decide +kernel
theorem dX3_init_1 : decode cX3_init 1 = .ok (.invokespecial 1, 3) := by decide +kernel
theorem dX3_init_4 : decode cX3_init 4 = .ok (.aload_n 0, 1) := by decide +kernel
theorem dX3_init_5 : decode cX3_init 5 = .ok (.new 7, 3) := by decide +kernel
theorem dX3_init_8 : decode cX3_init 8 = .ok (.dup, 1) := by decide +kernel
theorem dX3_init_9 : decode cX3_init 9 = .ok (.invokespecial 9, 3) := by decide +kernel
theorem dX3_init_12 : decode cX3_init 12 = .ok (.putfield 10, 3) := by decide +kernel
theorem dX3_init_15 : decode cX3_init 15 = .ok (.aload_n 0, 1) := by decide +kernel
theorem dX3_init_16 : decode cX3_init 16 = .ok (.new 7, 3) := by decide +kernel
theorem dX3_init_19 : decode cX3_init 19 = .ok (.dup, 1) := by decide +kernel
theorem dX3_init_20 : decode cX3_init 20 = .ok (.invokespecial 9, 3) := by decide +kernel
theorem dX3_init_23 : decode cX3_init 23 = .ok (.putfield 16, 3) := by decide +kernel
theorem dX3_init_26 : decode cX3_init 26 = .ok (.aload_n 0, 1) := by decide +kernel
theorem dX3_init_27 : decode cX3_init 27 = .ok (.new 19, 3) := by decide +kernel
theorem dX3_init_30 : decode cX3_init 30 = .ok (.dup, 1) := by decide +kernel
theorem dX3_init_31 : decode cX3_init 31 = .ok (.aload_n 0, 1) := by decide +kernel
theorem dX3_init_32 : decode cX3_init 32 = .ok (.getfield 10, 3) := by decide +kernel
theorem dX3_init_35 : decode cX3_init 35 = .ok (.invokespecial 21, 3) := by decide +kernel
theorem dX3_init_38 : decode cX3_init 38 = .ok (.putfield 24, 3) := by decide +kernel
theorem dX3_init_41 : decode cX3_init 41 = .ok (.aload_n 0, 1) := by decide +kernel
theorem dX3_init_42 : decode cX3_init 42 = .ok (.iconst 0, 1) := by decide +kernel
theorem dX3_init_43 : decode cX3_init 43 = .ok (.putfield 28, 3) := by decide +kernel
theorem dX3_init_46 : decode cX3_init 46 = .ok (.aload_n 0, 1) := by decide +kernel
theorem dX3_init_47 : decode cX3_init 47 = .ok (.iconst 0, 1) := by decide +kernel
theorem dX3_init_48 : decode cX3_init 48 = .ok (.putfield 32, 3) := by decide +kernel
theorem dX3_init_51 : decode cX3_init 51 = .ok (.return_, 1) := by decide +kernel
set_option maxRecDepth 20000 in
theorem ggX3_octet_X3_isByte : GoodIn wsX3_octet wsX3_isByte := goodIn_r _ [4] (by decide +kernel) (by decide +kernel)
set_option maxRecDepth 20000 in
theorem gX3_octet_X3_isByte : GoodIn wsX3_octet (va_wsS RX3 36 yX3_isByte wsX3_isByte) := goodIn_app (goodIn_of _ (by decide +kernel)) ggX3_octet_X3_isByte
set_option maxRecDepth 20000 in
theorem ggX3_octet_X3_append : GoodIn wsX3_octet wsX3_append := goodIn_ca (goodIn_r _ [8, 9, 10, 11, 12, 13, 14, 15, 16, 17, 18, 19, 20, 21, 22, 23, 24, 25, 26, 27, 28, 29, 30, 31, 32] (by decide +kernel) (by decide +kernel)) (goodIn_sub (fun _ h => List.mem_cons_of_mem _ (List.mem_append_right _ h)) (by decide +kernel))
set_option maxRecDepth 20000 in
theorem gX3_octet_X3_append : GoodIn wsX3_octet (wsV RX3 40 RX3 yX3_append wsX3_append) := goodIn_app (goodIn_of _ (by decide +kernel)) ggX3_octet_X3_append
theorem dX3_octet_0 : decode cX3_octet 0 = .ok (.iload_n 1, 1) := by decide +kernel
theorem dX3_octet_1 : decode cX3_octet 1 = .ok (.invokestatic 36, 3) := by decide +kernel
theorem dX3_octet_4 : decode cX3_octet 4 = .ok (.ifCond .eq 12, 3) := by decide +kernel
theorem dX3_octet_7 : decode cX3_octet 7 = .ok (.aload_n 0, 1) := by decide +kernel
theorem dX3_octet_8 : decode cX3_octet 8 = .ok (.iconst 1, 1) := by decide +kernel
theorem dX3_octet_9 : decode cX3_octet 9 = .ok (.iload_n 1, 1) := by decide +kernel
theorem dX3_octet_10 : decode cX3_octet 10 = .ok (.invokevirtual 40, 3) := by decide +kernel
theorem dX3_octet_13 : decode cX3_octet 13 = .ok (.goto 5, 3) := by decide +kernel
theorem dX3_octet_16 : decode cX3_octet 16 = .ok (.bipush (-12), 2) := by decide +kernel
theorem dX3_octet_18 : decode cX3_octet 18 = .ok (.ireturn, 1) := by decide +kernel
set_option maxRecDepth 20000 in
theorem ggX3_feed_X2_room : GoodIn wsX3_feed wsX2_room := goodIn_r _ [8, 9, 24, 25] (by decide +kernel) (by decide +kernel)
set_option maxRecDepth 20000 in
theorem gX3_feed_X2_room : GoodIn wsX3_feed (wsV RX3 44 RX2 yX2_room wsX2_room) := goodIn_app (goodIn_of _ (by decide +kernel)) ggX3_feed_X2_room
set_option maxRecDepth 20000 in
theorem ggX3_feed_X2_add : GoodIn wsX3_feed wsX2_add := goodIn_ca (goodIn_r _ [13, 9, 14, 24, 25] (by decide +kernel) (by decide +kernel)) (goodIn_sub (fun _ h => List.mem_cons_of_mem _ (List.mem_append_right _ h)) (by decide +kernel))
set_option maxRecDepth 20000 in
theorem gX3_feed_X2_add : GoodIn wsX3_feed (wsV RX3 50 RX2 yX2_add wsX2_add) := goodIn_app (goodIn_of _ (by decide +kernel)) ggX3_feed_X2_add
set_option maxRecDepth 20000 in
theorem ggX3_feed_X2_count : GoodIn wsX3_feed wsX2_count := goodIn_r _ [18, 9, 24, 25] (by decide +kernel) (by decide +kernel)
set_option maxRecDepth 20000 in
theorem gX3_feed_X2_count : GoodIn wsX3_feed (wsV RX3 54 RX2 yX2_count wsX2_count) := goodIn_app (goodIn_of _ (by decide +kernel)) ggX3_feed_X2_count
theorem dX3_feed_0 : decode cX3_feed 0 = .ok (.iload_n 3, 1) := by decide +kernel
theorem dX3_feed_1 : decode cX3_feed 1 = .ok (.iconst 1, 1) := by decide +kernel
theorem dX3_feed_2 : decode cX3_feed 2 = .ok (.if_icmp .lt 9, 3) := by decide +kernel
theorem dX3_feed_5 : decode cX3_feed 5 = .ok (.iload_n 3, 1) := by decide +kernel
theorem dX3_feed_6 : decode cX3_feed 6 = .ok (.bipush 8, 2) := by decide +kernel
theorem dX3_feed_8 : decode cX3_feed 8 = .ok (.if_icmp .le 6, 3) := by decide +kernel
theorem dX3_feed_11 : decode cX3_feed 11 = .ok (.bipush (-12), 2) := by decide +kernel
theorem dX3_feed_13 : decode cX3_feed 13 = .ok (.ireturn, 1) := by decide +kernel
theorem dX3_feed_14 : decode cX3_feed 14 = .ok (.iload_n 3, 1) := by decide +kernel
theorem dX3_feed_15 : decode cX3_feed 15 = .ok (.aload_n 0, 1) := by decide +kernel
theorem dX3_feed_16 : decode cX3_feed 16 = .ok (.getfield 10, 3) := by decide +kernel
theorem dX3_feed_19 : decode cX3_feed 19 = .ok (.invokevirtual 44, 3) := by decide +kernel
theorem dX3_feed_22 : decode cX3_feed 22 = .ok (.if_icmp .le 6, 3) := by decide +kernel
theorem dX3_feed_25 : decode cX3_feed 25 = .ok (.bipush (-14), 2) := by decide +kernel
theorem dX3_feed_27 : decode cX3_feed 27 = .ok (.ireturn, 1) := by decide +kernel
theorem dX3_feed_28 : decode cX3_feed 28 = .ok (.iload_n 3, 1) := by decide +kernel
theorem dX3_feed_29 : decode cX3_feed 29 = .ok (.iconst 1, 1) := by decide +kernel
theorem dX3_feed_30 : decode cX3_feed 30 = .ok (.isub, 1) := by decide +kernel
theorem dX3_feed_31 : decode cX3_feed 31 = .ok (.istore 4, 2) := by decide +kernel
theorem dX3_feed_33 : decode cX3_feed 33 = .ok (.iload 4, 2) := by decide +kernel
theorem dX3_feed_35 : decode cX3_feed 35 = .ok (.ifCond .lt 28, 3) := by decide +kernel
theorem dX3_feed_38 : decode cX3_feed 38 = .ok (.aload_n 0, 1) := by decide +kernel
theorem dX3_feed_39 : decode cX3_feed 39 = .ok (.getfield 10, 3) := by decide +kernel
theorem dX3_feed_42 : decode cX3_feed 42 = .ok (.lload_n 1, 1) := by decide +kernel
theorem dX3_feed_43 : decode cX3_feed 43 = .ok (.bipush 8, 2) := by decide +kernel
theorem dX3_feed_45 : decode cX3_feed 45 = .ok (.iload 4, 2) := by decide +kernel
theorem dX3_feed_47 : decode cX3_feed 47 = .ok (.imul, 1) := by decide +kernel
theorem dX3_feed_48 : decode cX3_feed 48 = .ok (.lushr, 1) := by decide +kernel
theorem dX3_feed_49 : decode cX3_feed 49 = .ok (.ldc2_w 48, 3) := by decide +kernel
theorem dX3_feed_52 : decode cX3_feed 52 = .ok (.land, 1) := by decide +kernel
theorem dX3_feed_53 : decode cX3_feed 53 = .ok (.l2i, 1) := by decide +kernel
theorem dX3_feed_54 : decode cX3_feed 54 = .ok (.invokevirtual 50, 3) := by decide +kernel
theorem dX3_feed_57 : decode cX3_feed 57 = .ok (.iinc 4 (-1), 3) := by decide +kernel
theorem dX3_feed_60 : decode cX3_feed 60 = .ok (.goto (-27), 3) := by decide +kernel
theorem dX3_feed_63 : decode cX3_feed 63 = .ok (.aload_n 0, 1) := by decide +kernel
theorem dX3_feed_64 : decode cX3_feed 64 = .ok (.iconst 0, 1) := by decide +kernel
theorem dX3_feed_65 : decode cX3_feed 65 = .ok (.putfield 28, 3) := by decide +kernel
theorem dX3_feed_68 : decode cX3_feed 68 = .ok (.aload_n 0, 1) := by decide +kernel
theorem dX3_feed_69 : decode cX3_feed 69 = .ok (.getfield 10, 3) := by decide +kernel
theorem dX3_feed_72 : decode cX3_feed 72 = .ok (.invokevirtual 54, 3) := by decide +kernel
theorem dX3_feed_75 : decode cX3_feed 75 = .ok (.ireturn, 1) := by decide +kernel
set_option maxRecDepth 20000 in
theorem ggX3_fill_X3_isByte : GoodIn wsX3_fill wsX3_isByte := goodIn_r _ [4] (by decide +kernel) (by decide +kernel)
set_option maxRecDepth 20000 in
theorem gX3_fill_X3_isByte : GoodIn wsX3_fill (va_wsS RX3 36 yX3_isByte wsX3_isByte) := goodIn_app (goodIn_of _ (by decide +kernel)) ggX3_fill_X3_isByte
set_option maxRecDepth 20000 in
theorem ggX3_fill_X3_append : GoodIn wsX3_fill wsX3_append := goodIn_ca (goodIn_r _ [8, 9, 10, 11, 12, 13, 14, 15, 16, 17, 18, 19, 20, 21, 22, 23, 24, 25, 26, 27, 28, 29, 30, 31, 32] (by decide +kernel) (by decide +kernel)) (goodIn_sub (fun _ h => List.mem_cons_of_mem _ (List.mem_append_right _ h)) (by decide +kernel))
set_option maxRecDepth 20000 in
theorem gX3_fill_X3_append : GoodIn wsX3_fill (wsV RX3 40 RX3 yX3_append wsX3_append) := goodIn_app (goodIn_of _ (by decide +kernel)) ggX3_fill_X3_append
theorem dX3_fill_0 : decode cX3_fill 0 = .ok (.iload_n 1, 1) := by decide +kernel
theorem dX3_fill_1 : decode cX3_fill 1 = .ok (.iconst 1, 1) := by decide +kernel
theorem dX3_fill_2 : decode cX3_fill 2 = .ok (.if_icmp .lt 26, 3) := by decide +kernel
theorem dX3_fill_5 : decode cX3_fill 5 = .ok (.iload_n 1, 1) := by decide +kernel
theorem dX3_fill_6 : decode cX3_fill 6 = .ok (.sipush 600, 3) := by decide +kernel
theorem dX3_fill_9 : decode cX3_fill 9 = .ok (.if_icmp .gt 19, 3) := by decide +kernel
theorem dX3_fill_12 : decode cX3_fill 12 = .ok (.iload_n 2, 1) := by decide +kernel
theorem dX3_fill_13 : decode cX3_fill 13 = .ok (.invokestatic 36, 3) := by decide +kernel
theorem dX3_fill_16 : decode cX3_fill 16 = .ok (.ifCond .eq 12, 3) := by decide +kernel
theorem dX3_fill_19 : decode cX3_fill 19 = .ok (.aload_n 0, 1) := by decide +kernel
theorem dX3_fill_20 : decode cX3_fill 20 = .ok (.iload_n 1, 1) := by decide +kernel
theorem dX3_fill_21 : decode cX3_fill 21 = .ok (.iload_n 2, 1) := by decide +kernel
theorem dX3_fill_22 : decode cX3_fill 22 = .ok (.invokevirtual 40, 3) := by decide +kernel
theorem dX3_fill_25 : decode cX3_fill 25 = .ok (.goto 5, 3) := by decide +kernel
theorem dX3_fill_28 : decode cX3_fill 28 = .ok (.bipush (-12), 2) := by decide +kernel
theorem dX3_fill_30 : decode cX3_fill 30 = .ok (.ireturn, 1) := by decide +kernel
set_option maxRecDepth 20000 in
theorem ggX3_poke_X2_has : GoodIn wsX3_poke wsX2_has := goodIn_r _ [7, 8, 9, 28, 29] (by decide +kernel) (by decide +kernel)
set_option maxRecDepth 20000 in
theorem gX3_poke_X2_has : GoodIn wsX3_poke (wsV RX3 57 RX2 yX2_has wsX2_has) := goodIn_app (goodIn_of _ (by decide +kernel)) ggX3_poke_X2_has
set_option maxRecDepth 20000 in
theorem ggX3_poke_X3_isByte : GoodIn wsX3_poke wsX3_isByte := goodIn_r _ [13] (by decide +kernel) (by decide +kernel)
set_option maxRecDepth 20000 in
theorem gX3_poke_X3_isByte : GoodIn wsX3_poke (va_wsS RX3 36 yX3_isByte wsX3_isByte) := goodIn_app (goodIn_of _ (by decide +kernel)) ggX3_poke_X3_isByte
set_option maxRecDepth 20000 in
theorem ggX3_poke_X2_at : GoodIn wsX3_poke wsX2_at := goodIn_ca (goodIn_r _ [17, 8, 9, 28, 29] (by decide +kernel) (by decide +kernel)) (goodIn_sub (fun _ h => List.mem_cons_of_mem _ (List.mem_append_right _ h)) (by decide +kernel))
set_option maxRecDepth 20000 in
theorem gX3_poke_X2_at : GoodIn wsX3_poke (wsV RX3 60 RX2 yX2_at wsX2_at) := goodIn_app (goodIn_of _ (by decide +kernel)) ggX3_poke_X2_at
set_option maxRecDepth 20000 in
theorem ggX3_poke_X2_put : GoodIn wsX3_poke wsX2_put := goodIn_ca (goodIn_r _ [21, 9, 22, 4, 5, 6, 7, 8, 28, 29] (by decide +kernel) (by decide +kernel)) (goodIn_sub (fun _ h => List.mem_cons_of_mem _ (List.mem_append_right _ h)) (by decide +kernel))
set_option maxRecDepth 20000 in
theorem gX3_poke_X2_put : GoodIn wsX3_poke (wsV RX3 64 RX2 yX2_put wsX2_put) := goodIn_app (goodIn_of _ (by decide +kernel)) ggX3_poke_X2_put
theorem dX3_poke_0 : decode cX3_poke 0 = .ok (.aload_n 0, 1) := by decide +kernel
theorem dX3_poke_1 : decode cX3_poke 1 = .ok (.getfield 10, 3) := by decide +kernel
theorem dX3_poke_4 : decode cX3_poke 4 = .ok (.iload_n 1, 1) := by decide +kernel
theorem dX3_poke_5 : decode cX3_poke 5 = .ok (.invokevirtual 57, 3) := by decide +kernel
theorem dX3_poke_8 : decode cX3_poke 8 = .ok (.ifCond .eq 10, 3) := by decide +kernel
theorem dX3_poke_11 : decode cX3_poke 11 = .ok (.iload_n 2, 1) := by decide +kernel
theorem dX3_poke_12 : decode cX3_poke 12 = .ok (.invokestatic 36, 3) := by decide +kernel
theorem dX3_poke_15 : decode cX3_poke 15 = .ok (.ifCond .ne 6, 3) := by decide +kernel
theorem dX3_poke_18 : decode cX3_poke 18 = .ok (.bipush (-12), 2) := by decide +kernel
theorem dX3_poke_20 : decode cX3_poke 20 = .ok (.ireturn, 1) := by decide +kernel
theorem dX3_poke_21 : decode cX3_poke 21 = .ok (.aload_n 0, 1) := by decide +kernel
theorem dX3_poke_22 : decode cX3_poke 22 = .ok (.getfield 10, 3) := by decide +kernel
theorem dX3_poke_25 : decode cX3_poke 25 = .ok (.iload_n 1, 1) := by decide +kernel
theorem dX3_poke_26 : decode cX3_poke 26 = .ok (.invokevirtual 60, 3) := by decide +kernel
theorem dX3_poke_29 : decode cX3_poke 29 = .ok (.istore_n 3, 1) := by decide +kernel
theorem dX3_poke_30 : decode cX3_poke 30 = .ok (.aload_n 0, 1) := by decide +kernel
theorem dX3_poke_31 : decode cX3_poke 31 = .ok (.getfield 10, 3) := by decide +kernel
theorem dX3_poke_34 : decode cX3_poke 34 = .ok (.iload_n 1, 1) := by decide +kernel
theorem dX3_poke_35 : decode cX3_poke 35 = .ok (.iload_n 2, 1) := by decide +kernel
theorem dX3_poke_36 : decode cX3_poke 36 = .ok (.invokevirtual 64, 3) := by decide +kernel
theorem dX3_poke_39 : decode cX3_poke 39 = .ok (.aload_n 0, 1) := by decide +kernel
theorem dX3_poke_40 : decode cX3_poke 40 = .ok (.iconst 0, 1) := by decide +kernel
theorem dX3_poke_41 : decode cX3_poke 41 = .ok (.putfield 28, 3) := by decide +kernel
theorem dX3_poke_44 : decode cX3_poke 44 = .ok (.iload_n 3, 1) := by decide +kernel
theorem dX3_poke_45 : decode cX3_poke 45 = .ok (.ireturn, 1) := by decide +kernel
set_option maxRecDepth 20000 in
theorem ggX3_clear_X2_count : GoodIn wsX3_clear wsX2_count := goodIn_r _ [8, 9, 19, 20] (by decide +kernel) (by decide +kernel)
set_option maxRecDepth 20000 in
theorem gX3_clear_X2_count : GoodIn wsX3_clear (wsV RX3 54 RX2 yX2_count wsX2_count) := goodIn_app (goodIn_of _ (by decide +kernel)) ggX3_clear_X2_count
set_option maxRecDepth 20000 in
theorem ggX3_clear_X2_empty : GoodIn wsX3_clear wsX2_empty := goodIn_r _ [13, 9, 19, 20] (by decide +kernel) (by decide +kernel)
set_option maxRecDepth 20000 in
theorem gX3_clear_X2_empty : GoodIn wsX3_clear (wsV RX3 68 RX2 yX2_empty wsX2_empty) := goodIn_app (goodIn_of _ (by decide +kernel)) ggX3_clear_X2_empty
theorem dX3_clear_0 : decode cX3_clear 0 = .ok (.aload_n 0, 1) := by decide +kernel
theorem dX3_clear_1 : decode cX3_clear 1 = .ok (.getfield 10, 3) := by decide +kernel
theorem dX3_clear_4 : decode cX3_clear 4 = .ok (.invokevirtual 54, 3) := by decide +kernel
theorem dX3_clear_7 : decode cX3_clear 7 = .ok (.istore_n 1, 1) := by decide +kernel
theorem dX3_clear_8 : decode cX3_clear 8 = .ok (.aload_n 0, 1) := by decide +kernel
theorem dX3_clear_9 : decode cX3_clear 9 = .ok (.getfield 10, 3) := by decide +kernel
theorem dX3_clear_12 : decode cX3_clear 12 = .ok (.invokevirtual 68, 3) := by decide +kernel
theorem dX3_clear_15 : decode cX3_clear 15 = .ok (.aload_n 0, 1) := by decide +kernel
theorem dX3_clear_16 : decode cX3_clear 16 = .ok (.iconst 0, 1) := by decide +kernel
theorem dX3_clear_17 : decode cX3_clear 17 = .ok (.putfield 28, 3) := by decide +kernel
theorem dX3_clear_20 : decode cX3_clear 20 = .ok (.aload_n 0, 1) := by decide +kernel
theorem dX3_clear_21 : decode cX3_clear 21 = .ok (.iconst 0, 1) := by decide +kernel
theorem dX3_clear_22 : decode cX3_clear 22 = .ok (.putfield 32, 3) := by decide +kernel
theorem dX3_clear_25 : decode cX3_clear 25 = .ok (.iload_n 1, 1) := by decide +kernel
theorem dX3_clear_26 : decode cX3_clear 26 = .ok (.ireturn, 1) := by decide +kernel
set_option maxRecDepth 20000 in
theorem ggX3_read_X0_holds : GoodIn wsX3_read wsX0_holds := goodIn_ca (goodIn_r _ [10, 11, 12, 13, 14, 15, 16, 17, 18, 19, 20, 21, 9, 22, 23, 24, 25, 26, 27, 28, 29, 30, 31, 32, 33, 34, 35, 36, 37, 38, 39, 40, 41, 42, 43, 44, 45, 46, 47, 48, 49, 50, 51, 52, 53, 54, 55, 56, 57, 58, 59, 60, 61, 62, 63, 64, 65, 66, 67, 68, 69, 70, 71, 72, 73, 74, 75, 76, 77, 78, 79, 80, 81, 82, 83, 84, 85, 86, 87, 88, 89, 90, 91, 92, 93, 94, 95, 96, 97, 98, 99, 100, 101, 102, 103, 104, 105, 106, 107, 108, 109, 110, 111, 112, 113, 114, 115, 116, 135, 136, 137] (by decide +kernel) (by decide +kernel)) (goodIn_sub (fun _ h => List.mem_cons_of_mem _ (List.mem_append_right _ h)) (by decide +kernel))
set_option maxRecDepth 20000 in
theorem gX3_read_X0_holds : GoodIn wsX3_read (wsV RX3 71 RX0 yX0_holds wsX0_holds) := goodIn_app (goodIn_of _ (by decide +kernel)) ggX3_read_X0_holds
set_option maxRecDepth 20000 in
theorem ggX3_read_X0_placeOf : GoodIn wsX3_read wsX0_placeOf := goodIn_ca (goodIn_r _ [120, 11, 30, 31, 32, 15, 33, 17, 97, 98, 99, 9, 100, 19, 20, 21, 22, 23, 24, 25, 26, 18, 38, 39, 40, 41, 135, 136, 137] (by decide +kernel) (by decide +kernel)) (goodIn_sub (fun _ h => List.mem_cons_of_mem _ (List.mem_append_right _ h)) (by decide +kernel))
set_option maxRecDepth 20000 in
theorem gX3_read_X0_placeOf : GoodIn wsX3_read (wsV RX3 74 RX0 yX0_placeOf wsX0_placeOf) := goodIn_app (goodIn_of _ (by decide +kernel)) ggX3_read_X0_placeOf
set_option maxRecDepth 20000 in
theorem ggX3_read_X2_copy : GoodIn wsX3_read wsX2_copy := goodIn_r _ [124, 18, 125, 126, 127, 128, 17, 136, 137] (by decide +kernel) (by decide +kernel)
set_option maxRecDepth 20000 in
theorem gX3_read_X2_copy : GoodIn wsX3_read (wsV RX3 77 RX2 yX2_copy wsX2_copy) := goodIn_app (goodIn_of _ (by decide +kernel)) ggX3_read_X2_copy
set_option maxRecDepth 20000 in
theorem ggX3_read_X0_version : GoodIn wsX3_read wsX0_version := goodIn_ca (goodIn_r _ [22, 11, 23, 24, 25, 15, 26, 17, 18, 135, 136, 137] (by decide +kernel) (by decide +kernel)) (goodIn_sub (fun _ h => List.mem_cons_of_mem _ (List.mem_append_right _ h)) (by decide +kernel))
set_option maxRecDepth 20000 in
theorem gX3_read_X0_version : GoodIn wsX3_read (wsV RX3 80 RX0 yX0_version wsX0_version) := goodIn_app (goodIn_of _ (by decide +kernel)) ggX3_read_X0_version
theorem dX3_read_0 : decode cX3_read 0 = .ok (.aload_n 0, 1) := by decide +kernel
theorem dX3_read_1 : decode cX3_read 1 = .ok (.iconst 0, 1) := by decide +kernel
theorem dX3_read_2 : decode cX3_read 2 = .ok (.putfield 32, 3) := by decide +kernel
theorem dX3_read_5 : decode cX3_read 5 = .ok (.iconst 1, 1) := by decide +kernel
theorem dX3_read_6 : decode cX3_read 6 = .ok (.istore_n 1, 1) := by decide +kernel
theorem dX3_read_7 : decode cX3_read 7 = .ok (.iload_n 1, 1) := by decide +kernel
theorem dX3_read_8 : decode cX3_read 8 = .ok (.bipush 15, 2) := by decide +kernel
theorem dX3_read_10 : decode cX3_read 10 = .ok (.if_icmp .gt 32, 3) := by decide +kernel
theorem dX3_read_13 : decode cX3_read 13 = .ok (.aload_n 0, 1) := by decide +kernel
theorem dX3_read_14 : decode cX3_read 14 = .ok (.getfield 32, 3) := by decide +kernel
theorem dX3_read_17 : decode cX3_read 17 = .ok (.ifCond .ne 25, 3) := by decide +kernel
theorem dX3_read_20 : decode cX3_read 20 = .ok (.aload_n 0, 1) := by decide +kernel
theorem dX3_read_21 : decode cX3_read 21 = .ok (.getfield 24, 3) := by decide +kernel
theorem dX3_read_24 : decode cX3_read 24 = .ok (.iload_n 1, 1) := by decide +kernel
theorem dX3_read_25 : decode cX3_read 25 = .ok (.invokevirtual 71, 3) := by decide +kernel
theorem dX3_read_28 : decode cX3_read 28 = .ok (.ifCond .ne 8, 3) := by decide +kernel
theorem dX3_read_31 : decode cX3_read 31 = .ok (.aload_n 0, 1) := by decide +kernel
theorem dX3_read_32 : decode cX3_read 32 = .ok (.iload_n 1, 1) := by decide +kernel
theorem dX3_read_33 : decode cX3_read 33 = .ok (.putfield 32, 3) := by decide +kernel
theorem dX3_read_36 : decode cX3_read 36 = .ok (.iinc 1 1, 3) := by decide +kernel
theorem dX3_read_39 : decode cX3_read 39 = .ok (.goto (-32), 3) := by decide +kernel
theorem dX3_read_42 : decode cX3_read 42 = .ok (.aload_n 0, 1) := by decide +kernel
theorem dX3_read_43 : decode cX3_read 43 = .ok (.aload_n 0, 1) := by decide +kernel
theorem dX3_read_44 : decode cX3_read 44 = .ok (.getfield 32, 3) := by decide +kernel
theorem dX3_read_47 : decode cX3_read 47 = .ok (.ifCond .ne 7, 3) := by decide +kernel
theorem dX3_read_50 : decode cX3_read 50 = .ok (.iconst 1, 1) := by decide +kernel
theorem dX3_read_51 : decode cX3_read 51 = .ok (.goto 4, 3) := by decide +kernel
theorem dX3_read_54 : decode cX3_read 54 = .ok (.iconst 0, 1) := by decide +kernel
theorem dX3_read_55 : decode cX3_read 55 = .ok (.putfield 28, 3) := by decide +kernel
theorem dX3_read_58 : decode cX3_read 58 = .ok (.aload_n 0, 1) := by decide +kernel
theorem dX3_read_59 : decode cX3_read 59 = .ok (.getfield 28, 3) := by decide +kernel
theorem dX3_read_62 : decode cX3_read 62 = .ok (.ifCond .ne 18, 3) := by decide +kernel
theorem dX3_read_65 : decode cX3_read 65 = .ok (.bipush (-20), 2) := by decide +kernel
theorem dX3_read_67 : decode cX3_read 67 = .ok (.aload_n 0, 1) := by decide +kernel
theorem dX3_read_68 : decode cX3_read 68 = .ok (.getfield 24, 3) := by decide +kernel
theorem dX3_read_71 : decode cX3_read 71 = .ok (.aload_n 0, 1) := by decide +kernel
theorem dX3_read_72 : decode cX3_read 72 = .ok (.getfield 32, 3) := by decide +kernel
theorem dX3_read_75 : decode cX3_read 75 = .ok (.invokevirtual 74, 3) := by decide +kernel
theorem dX3_read_78 : decode cX3_read 78 = .ok (.isub, 1) := by decide +kernel
theorem dX3_read_79 : decode cX3_read 79 = .ok (.ireturn, 1) := by decide +kernel
theorem dX3_read_80 : decode cX3_read 80 = .ok (.aload_n 0, 1) := by decide +kernel
theorem dX3_read_81 : decode cX3_read 81 = .ok (.getfield 16, 3) := by decide +kernel
theorem dX3_read_84 : decode cX3_read 84 = .ok (.aload_n 0, 1) := by decide +kernel
theorem dX3_read_85 : decode cX3_read 85 = .ok (.getfield 10, 3) := by decide +kernel
theorem dX3_read_88 : decode cX3_read 88 = .ok (.invokevirtual 77, 3) := by decide +kernel
theorem dX3_read_91 : decode cX3_read 91 = .ok (.aload_n 0, 1) := by decide +kernel
theorem dX3_read_92 : decode cX3_read 92 = .ok (.getfield 24, 3) := by decide +kernel
theorem dX3_read_95 : decode cX3_read 95 = .ok (.invokevirtual 80, 3) := by decide +kernel
theorem dX3_read_98 : decode cX3_read 98 = .ok (.ireturn, 1) := by decide +kernel
theorem dX3_rule_0 : decode cX3_rule 0 = .ok (.aload_n 0, 1) := by decide +kernel
theorem dX3_rule_1 : decode cX3_rule 1 = .ok (.getfield 32, 3) := by decide +kernel
theorem dX3_rule_4 : decode cX3_rule 4 = .ok (.ireturn, 1) := by decide +kernel
set_option maxRecDepth 20000 in
theorem ggX3_field_X0_term : GoodIn wsX3_field wsX0_term := goodIn_ca (goodIn_r _ [7, 8, 9, 10, 11, 6, 12, 13, 14, 15, 16, 17, 18, 19, 20, 21, 22, 23, 24, 25, 26, 27, 28, 29, 30, 31, 32, 33, 34, 35, 36, 37, 38, 39, 40, 41, 42, 43, 44, 45, 46, 47, 48, 49, 50, 51, 52, 53, 54, 55, 56, 57, 58, 59, 60, 61, 62, 63, 64, 65, 66, 67, 68, 69, 70, 71, 72, 73, 74, 75, 76, 77, 78, 79, 80, 81, 82, 83, 84, 85, 86, 87, 88, 89, 90, 91, 92, 93, 94, 95, 101, 102, 103] (by decide +kernel) (by decide +kernel)) (goodIn_sub (fun _ h => List.mem_cons_of_mem _ (List.mem_append_right _ h)) (by decide +kernel))
set_option maxRecDepth 20000 in
theorem gX3_field_X0_term : GoodIn wsX3_field (wsV RX3 83 RX0 yX0_term wsX0_term) := goodIn_app (goodIn_of _ (by decide +kernel)) ggX3_field_X0_term
theorem dX3_field_0 : decode cX3_field 0 = .ok (.aload_n 0, 1) := by decide +kernel
theorem dX3_field_1 : decode cX3_field 1 = .ok (.getfield 28, 3) := by decide +kernel
theorem dX3_field_4 : decode cX3_field 4 = .ok (.ifCond .ne 6, 3) := by decide +kernel
theorem dX3_field_7 : decode cX3_field 7 = .ok (.bipush (-11), 2) := by decide +kernel
theorem dX3_field_9 : decode cX3_field 9 = .ok (.ireturn, 1) := by decide +kernel
theorem dX3_field_10 : decode cX3_field 10 = .ok (.iload_n 1, 1) := by decide +kernel
theorem dX3_field_11 : decode cX3_field 11 = .ok (.ifCond .lt 9, 3) := by decide +kernel
theorem dX3_field_14 : decode cX3_field 14 = .ok (.iload_n 1, 1) := by decide +kernel
theorem dX3_field_15 : decode cX3_field 15 = .ok (.bipush 18, 2) := by decide +kernel
theorem dX3_field_17 : decode cX3_field 17 = .ok (.if_icmp .lt 8, 3) := by decide +kernel
theorem dX3_field_20 : decode cX3_field 20 = .ok (.bipush (-12), 2) := by decide +kernel
theorem dX3_field_22 : decode cX3_field 22 = .ok (.goto 11, 3) := by decide +kernel
theorem dX3_field_25 : decode cX3_field 25 = .ok (.aload_n 0, 1) := by decide +kernel
theorem dX3_field_26 : decode cX3_field 26 = .ok (.getfield 24, 3) := by decide +kernel
theorem dX3_field_29 : decode cX3_field 29 = .ok (.iload_n 1, 1) := by decide +kernel
theorem dX3_field_30 : decode cX3_field 30 = .ok (.invokevirtual 83, 3) := by decide +kernel
theorem dX3_field_33 : decode cX3_field 33 = .ok (.ireturn, 1) := by decide +kernel
set_option maxRecDepth 20000 in
theorem ggX3_serial_X2_at : GoodIn wsX3_serial wsX2_at := goodIn_ca (goodIn_r _ [10, 11, 12, 24, 25] (by decide +kernel) (by decide +kernel)) (goodIn_sub (fun _ h => List.mem_cons_of_mem _ (List.mem_append_right _ h)) (by decide +kernel))
set_option maxRecDepth 20000 in
theorem gX3_serial_X2_at : GoodIn wsX3_serial (wsV RX3 60 RX2 yX2_at wsX2_at) := goodIn_app (goodIn_of _ (by decide +kernel)) ggX3_serial_X2_at
theorem dX3_serial_0 : decode cX3_serial 0 = .ok (.aload_n 0, 1) := by decide +kernel
theorem dX3_serial_1 : decode cX3_serial 1 = .ok (.getfield 28, 3) := by decide +kernel
theorem dX3_serial_4 : decode cX3_serial 4 = .ok (.ifCond .ne 6, 3) := by decide +kernel
theorem dX3_serial_7 : decode cX3_serial 7 = .ok (.bipush (-11), 2) := by decide +kernel
theorem dX3_serial_9 : decode cX3_serial 9 = .ok (.ireturn, 1) := by decide +kernel
theorem dX3_serial_10 : decode cX3_serial 10 = .ok (.iload_n 1, 1) := by decide +kernel
theorem dX3_serial_11 : decode cX3_serial 11 = .ok (.ifCond .lt 9, 3) := by decide +kernel
theorem dX3_serial_14 : decode cX3_serial 14 = .ok (.iload_n 1, 1) := by decide +kernel
theorem dX3_serial_15 : decode cX3_serial 15 = .ok (.bipush 6, 2) := by decide +kernel
theorem dX3_serial_17 : decode cX3_serial 17 = .ok (.if_icmp .lt 13, 3) := by decide +kernel
theorem dX3_serial_20 : decode cX3_serial 20 = .ok (.new 86, 3) := by decide +kernel
theorem dX3_serial_23 : decode cX3_serial 23 = .ok (.dup, 1) := by decide +kernel
theorem dX3_serial_24 : decode cX3_serial 24 = .ok (.ldc 88, 2) := by decide +kernel
theorem dX3_serial_26 : decode cX3_serial 26 = .ok (.invokespecial 90, 3) := by decide +kernel
theorem dX3_serial_29 : decode cX3_serial 29 = .ok (.athrow, 1) := by decide +kernel
theorem dX3_serial_30 : decode cX3_serial 30 = .ok (.aload_n 0, 1) := by decide +kernel
theorem dX3_serial_31 : decode cX3_serial 31 = .ok (.getfield 16, 3) := by decide +kernel
theorem dX3_serial_34 : decode cX3_serial 34 = .ok (.bipush 18, 2) := by decide +kernel
theorem dX3_serial_36 : decode cX3_serial 36 = .ok (.iload_n 1, 1) := by decide +kernel
theorem dX3_serial_37 : decode cX3_serial 37 = .ok (.iadd, 1) := by decide +kernel
theorem dX3_serial_38 : decode cX3_serial 38 = .ok (.invokevirtual 60, 3) := by decide +kernel
theorem dX3_serial_41 : decode cX3_serial 41 = .ok (.ireturn, 1) := by decide +kernel
set_option maxRecDepth 20000 in
theorem ggX3_global_X0_globals : GoodIn wsX3_global wsX0_globals := goodIn_ca (goodIn_r _ [11, 12, 13, 14, 15, 16, 17, 18, 19, 32, 33, 34] (by decide +kernel) (by decide +kernel)) (goodIn_sub (fun _ h => List.mem_cons_of_mem _ (List.mem_append_right _ h)) (by decide +kernel))
set_option maxRecDepth 20000 in
theorem gX3_global_X0_globals : GoodIn wsX3_global (wsV RX3 95 RX0 yX0_globals wsX0_globals) := goodIn_app (goodIn_of _ (by decide +kernel)) ggX3_global_X0_globals
set_option maxRecDepth 20000 in
theorem ggX3_global_X2_two : GoodIn wsX3_global wsX2_two := goodIn_ca (goodIn_r _ [17, 18, 19, 33, 34] (by decide +kernel) (by decide +kernel)) (goodIn_sub (fun _ h => List.mem_cons_of_mem _ (List.mem_append_right _ h)) (by decide +kernel))
set_option maxRecDepth 20000 in
theorem gX3_global_X2_two : GoodIn wsX3_global (wsV RX3 98 RX2 yX2_two wsX2_two) := goodIn_app (goodIn_of _ (by decide +kernel)) ggX3_global_X2_two
theorem dX3_global_0 : decode cX3_global 0 = .ok (.aload_n 0, 1) := by decide +kernel
theorem dX3_global_1 : decode cX3_global 1 = .ok (.getfield 28, 3) := by decide +kernel
theorem dX3_global_4 : decode cX3_global 4 = .ok (.ifCond .ne 6, 3) := by decide +kernel
theorem dX3_global_7 : decode cX3_global 7 = .ok (.bipush (-11), 2) := by decide +kernel
theorem dX3_global_9 : decode cX3_global 9 = .ok (.ireturn, 1) := by decide +kernel
theorem dX3_global_10 : decode cX3_global 10 = .ok (.iload_n 1, 1) := by decide +kernel
theorem dX3_global_11 : decode cX3_global 11 = .ok (.ifCond .lt 10, 3) := by decide +kernel
theorem dX3_global_14 : decode cX3_global 14 = .ok (.iload_n 1, 1) := by decide +kernel
theorem dX3_global_15 : decode cX3_global 15 = .ok (.sipush 240, 3) := by decide +kernel
theorem dX3_global_18 : decode cX3_global 18 = .ok (.if_icmp .lt 13, 3) := by decide +kernel
theorem dX3_global_21 : decode cX3_global 21 = .ok (.new 86, 3) := by decide +kernel
theorem dX3_global_24 : decode cX3_global 24 = .ok (.dup, 1) := by decide +kernel
theorem dX3_global_25 : decode cX3_global 25 = .ok (.ldc 93, 2) := by decide +kernel
theorem dX3_global_27 : decode cX3_global 27 = .ok (.invokespecial 90, 3) := by decide +kernel
theorem dX3_global_30 : decode cX3_global 30 = .ok (.athrow, 1) := by decide +kernel
theorem dX3_global_31 : decode cX3_global 31 = .ok (.aload_n 0, 1) := by decide +kernel
theorem dX3_global_32 : decode cX3_global 32 = .ok (.getfield 16, 3) := by decide +kernel
theorem dX3_global_35 : decode cX3_global 35 = .ok (.aload_n 0, 1) := by decide +kernel
theorem dX3_global_36 : decode cX3_global 36 = .ok (.getfield 24, 3) := by decide +kernel
theorem dX3_global_39 : decode cX3_global 39 = .ok (.invokevirtual 95, 3) := by decide +kernel
theorem dX3_global_42 : decode cX3_global 42 = .ok (.iconst 2, 1) := by decide +kernel
theorem dX3_global_43 : decode cX3_global 43 = .ok (.iload_n 1, 1) := by decide +kernel
theorem dX3_global_44 : decode cX3_global 44 = .ok (.imul, 1) := by decide +kernel
theorem dX3_global_45 : decode cX3_global 45 = .ok (.iadd, 1) := by decide +kernel
theorem dX3_global_46 : decode cX3_global 46 = .ok (.invokevirtual 98, 3) := by decide +kernel
theorem dX3_global_49 : decode cX3_global 49 = .ok (.i2s, 1) := by decide +kernel
theorem dX3_global_50 : decode cX3_global 50 = .ok (.ireturn, 1) := by decide +kernel
set_option maxRecDepth 20000 in
theorem ggX3_load_X2_has : GoodIn wsX3_load wsX2_has := goodIn_r _ [10, 11, 12, 28, 29] (by decide +kernel) (by decide +kernel)
set_option maxRecDepth 20000 in
theorem gX3_load_X2_has : GoodIn wsX3_load (wsV RX3 57 RX2 yX2_has wsX2_has) := goodIn_app (goodIn_of _ (by decide +kernel)) ggX3_load_X2_has
set_option maxRecDepth 20000 in
theorem ggX3_load_X2_at : GoodIn wsX3_load wsX2_at := goodIn_ca (goodIn_r _ [16, 11, 12, 28, 29] (by decide +kernel) (by decide +kernel)) (goodIn_sub (fun _ h => List.mem_cons_of_mem _ (List.mem_append_right _ h)) (by decide +kernel))
set_option maxRecDepth 20000 in
theorem gX3_load_X2_at : GoodIn wsX3_load (wsV RX3 60 RX2 yX2_at wsX2_at) := goodIn_app (goodIn_of _ (by decide +kernel)) ggX3_load_X2_at
theorem dX3_load_0 : decode cX3_load 0 = .ok (.aload_n 0, 1) := by decide +kernel
theorem dX3_load_1 : decode cX3_load 1 = .ok (.getfield 28, 3) := by decide +kernel
theorem dX3_load_4 : decode cX3_load 4 = .ok (.ifCond .ne 6, 3) := by decide +kernel
theorem dX3_load_7 : decode cX3_load 7 = .ok (.bipush (-11), 2) := by decide +kernel
theorem dX3_load_9 : decode cX3_load 9 = .ok (.ireturn, 1) := by decide +kernel
theorem dX3_load_10 : decode cX3_load 10 = .ok (.aload_n 0, 1) := by decide +kernel
theorem dX3_load_11 : decode cX3_load 11 = .ok (.getfield 16, 3) := by decide +kernel
theorem dX3_load_14 : decode cX3_load 14 = .ok (.iload_n 1, 1) := by decide +kernel
theorem dX3_load_15 : decode cX3_load 15 = .ok (.invokevirtual 57, 3) := by decide +kernel
theorem dX3_load_18 : decode cX3_load 18 = .ok (.ifCond .ne 13, 3) := by decide +kernel
theorem dX3_load_21 : decode cX3_load 21 = .ok (.new 86, 3) := by decide +kernel
theorem dX3_load_24 : decode cX3_load 24 = .ok (.dup, 1) := by decide +kernel
theorem dX3_load_25 : decode cX3_load 25 = .ok (.ldc 101, 2) := by decide +kernel
theorem dX3_load_27 : decode cX3_load 27 = .ok (.invokespecial 90, 3) := by decide +kernel
theorem dX3_load_30 : decode cX3_load 30 = .ok (.athrow, 1) := by decide +kernel
theorem dX3_load_31 : decode cX3_load 31 = .ok (.aload_n 0, 1) := by decide +kernel
theorem dX3_load_32 : decode cX3_load 32 = .ok (.getfield 16, 3) := by decide +kernel
theorem dX3_load_35 : decode cX3_load 35 = .ok (.iload_n 1, 1) := by decide +kernel
theorem dX3_load_36 : decode cX3_load 36 = .ok (.invokevirtual 60, 3) := by decide +kernel
theorem dX3_load_39 : decode cX3_load 39 = .ok (.ireturn, 1) := by decide +kernel
set_option maxRecDepth 20000 in
theorem ggX3_store_X0_staticFrom : GoodIn wsX3_store wsX0_staticFrom := goodIn_ca (goodIn_r _ [8, 9, 10, 11, 12, 13, 14, 15, 16, 34, 35, 36] (by decide +kernel) (by decide +kernel)) (goodIn_sub (fun _ h => List.mem_cons_of_mem _ (List.mem_append_right _ h)) (by decide +kernel))
set_option maxRecDepth 20000 in
theorem gX3_store_X0_staticFrom : GoodIn wsX3_store (wsV RX3 103 RX0 yX0_staticFrom wsX0_staticFrom) := goodIn_app (goodIn_of _ (by decide +kernel)) ggX3_store_X0_staticFrom
set_option maxRecDepth 20000 in
theorem ggX3_store_X2_at : GoodIn wsX3_store wsX2_at := goodIn_ca (goodIn_r _ [20, 15, 16, 35, 36] (by decide +kernel) (by decide +kernel)) (goodIn_sub (fun _ h => List.mem_cons_of_mem _ (List.mem_append_right _ h)) (by decide +kernel))
set_option maxRecDepth 20000 in
theorem gX3_store_X2_at : GoodIn wsX3_store (wsV RX3 60 RX2 yX2_at wsX2_at) := goodIn_app (goodIn_of _ (by decide +kernel)) ggX3_store_X2_at
set_option maxRecDepth 20000 in
theorem ggX3_store_X2_put : GoodIn wsX3_store wsX2_put := goodIn_ca (goodIn_r _ [24, 16, 25, 26, 27, 13, 28, 15, 35, 36] (by decide +kernel) (by decide +kernel)) (goodIn_sub (fun _ h => List.mem_cons_of_mem _ (List.mem_append_right _ h)) (by decide +kernel))
set_option maxRecDepth 20000 in
theorem gX3_store_X2_put : GoodIn wsX3_store (wsV RX3 64 RX2 yX2_put wsX2_put) := goodIn_app (goodIn_of _ (by decide +kernel)) ggX3_store_X2_put
theorem dX3_store_0 : decode cX3_store 0 = .ok (.aload_n 0, 1) := by decide +kernel
theorem dX3_store_1 : decode cX3_store 1 = .ok (.getfield 28, 3) := by decide +kernel
theorem dX3_store_4 : decode cX3_store 4 = .ok (.ifCond .ne 6, 3) := by decide +kernel
theorem dX3_store_7 : decode cX3_store 7 = .ok (.bipush (-11), 2) := by decide +kernel
theorem dX3_store_9 : decode cX3_store 9 = .ok (.ireturn, 1) := by decide +kernel
theorem dX3_store_10 : decode cX3_store 10 = .ok (.iload_n 1, 1) := by decide +kernel
theorem dX3_store_11 : decode cX3_store 11 = .ok (.bipush 64, 2) := by decide +kernel
theorem dX3_store_13 : decode cX3_store 13 = .ok (.if_icmp .lt 14, 3) := by decide +kernel
theorem dX3_store_16 : decode cX3_store 16 = .ok (.iload_n 1, 1) := by decide +kernel
theorem dX3_store_17 : decode cX3_store 17 = .ok (.aload_n 0, 1) := by decide +kernel
theorem dX3_store_18 : decode cX3_store 18 = .ok (.getfield 24, 3) := by decide +kernel
theorem dX3_store_21 : decode cX3_store 21 = .ok (.invokevirtual 103, 3) := by decide +kernel
theorem dX3_store_24 : decode cX3_store 24 = .ok (.if_icmp .lt 6, 3) := by decide +kernel
theorem dX3_store_27 : decode cX3_store 27 = .ok (.bipush (-13), 2) := by decide +kernel
theorem dX3_store_29 : decode cX3_store 29 = .ok (.ireturn, 1) := by decide +kernel
theorem dX3_store_30 : decode cX3_store 30 = .ok (.aload_n 0, 1) := by decide +kernel
theorem dX3_store_31 : decode cX3_store 31 = .ok (.getfield 16, 3) := by decide +kernel
theorem dX3_store_34 : decode cX3_store 34 = .ok (.iload_n 1, 1) := by decide +kernel
theorem dX3_store_35 : decode cX3_store 35 = .ok (.invokevirtual 60, 3) := by decide +kernel
theorem dX3_store_38 : decode cX3_store 38 = .ok (.istore_n 3, 1) := by decide +kernel
theorem dX3_store_39 : decode cX3_store 39 = .ok (.aload_n 0, 1) := by decide +kernel
theorem dX3_store_40 : decode cX3_store 40 = .ok (.getfield 16, 3) := by decide +kernel
theorem dX3_store_43 : decode cX3_store 43 = .ok (.iload_n 1, 1) := by decide +kernel
theorem dX3_store_44 : decode cX3_store 44 = .ok (.iload_n 2, 1) := by decide +kernel
theorem dX3_store_45 : decode cX3_store 45 = .ok (.invokevirtual 64, 3) := by decide +kernel
theorem dX3_store_48 : decode cX3_store 48 = .ok (.iload_n 3, 1) := by decide +kernel
theorem dX3_store_49 : decode cX3_store 49 = .ok (.ireturn, 1) := by decide +kernel
set_option maxRecDepth 20000 in
theorem ggX3_packed_X3_isTwo : GoodIn wsX3_packed wsX3_isTwo := goodIn_r _ [6, 7] (by decide +kernel) (by decide +kernel)
set_option maxRecDepth 20000 in
theorem gX3_packed_X3_isTwo : GoodIn wsX3_packed (va_wsS RX3 106 yX3_isTwo wsX3_isTwo) := goodIn_app (goodIn_of _ (by decide +kernel)) ggX3_packed_X3_isTwo
set_option maxRecDepth 20000 in
theorem ggX3_packed_X0_unpacked : GoodIn wsX3_packed wsX0_unpacked := goodIn_ca (goodIn_r _ [12, 13, 14, 15, 16, 11, 17, 18, 19, 20, 21, 22, 23, 24, 25, 26, 27, 28, 34, 35, 36] (by decide +kernel) (by decide +kernel)) (goodIn_sub (fun _ h => List.mem_cons_of_mem _ (List.mem_append_right _ h)) (by decide +kernel))
set_option maxRecDepth 20000 in
theorem gX3_packed_X0_unpacked : GoodIn wsX3_packed (wsV RX3 109 RX0 yX0_unpacked wsX0_unpacked) := goodIn_app (goodIn_of _ (by decide +kernel)) ggX3_packed_X0_unpacked
theorem dX3_packed_0 : decode cX3_packed 0 = .ok (.aload_n 0, 1) := by decide +kernel
theorem dX3_packed_1 : decode cX3_packed 1 = .ok (.getfield 28, 3) := by decide +kernel
theorem dX3_packed_4 : decode cX3_packed 4 = .ok (.ifCond .ne 6, 3) := by decide +kernel
theorem dX3_packed_7 : decode cX3_packed 7 = .ok (.bipush (-11), 2) := by decide +kernel
theorem dX3_packed_9 : decode cX3_packed 9 = .ok (.ireturn, 1) := by decide +kernel
theorem dX3_packed_10 : decode cX3_packed 10 = .ok (.iload_n 1, 1) := by decide +kernel
theorem dX3_packed_11 : decode cX3_packed 11 = .ok (.invokestatic 106, 3) := by decide +kernel
theorem dX3_packed_14 : decode cX3_packed 14 = .ok (.ifCond .eq 15, 3) := by decide +kernel
theorem dX3_packed_17 : decode cX3_packed 17 = .ok (.aload_n 0, 1) := by decide +kernel
theorem dX3_packed_18 : decode cX3_packed 18 = .ok (.getfield 24, 3) := by decide +kernel
theorem dX3_packed_21 : decode cX3_packed 21 = .ok (.iload_n 1, 1) := by decide +kernel
theorem dX3_packed_22 : decode cX3_packed 22 = .ok (.iload_n 2, 1) := by decide +kernel
theorem dX3_packed_23 : decode cX3_packed 23 = .ok (.invokevirtual 109, 3) := by decide +kernel
theorem dX3_packed_26 : decode cX3_packed 26 = .ok (.goto 5, 3) := by decide +kernel
theorem dX3_packed_29 : decode cX3_packed 29 = .ok (.bipush (-12), 2) := by decide +kernel
theorem dX3_packed_31 : decode cX3_packed 31 = .ok (.ireturn, 1) := by decide +kernel
set_option maxRecDepth 20000 in
theorem ggX3_first_X3_isTwo : GoodIn wsX3_first wsX3_isTwo := goodIn_r _ [10, 11] (by decide +kernel) (by decide +kernel)
set_option maxRecDepth 20000 in
theorem gX3_first_X3_isTwo : GoodIn wsX3_first (va_wsS RX3 106 yX3_isTwo wsX3_isTwo) := goodIn_app (goodIn_of _ (by decide +kernel)) ggX3_first_X3_isTwo
set_option maxRecDepth 20000 in
theorem ggX3_first_X0_unpacked : GoodIn wsX3_first wsX0_unpacked := goodIn_ca (goodIn_r _ [16, 17, 18, 19, 20, 15, 21, 22, 23, 24, 25, 26, 27, 28, 29, 30, 31, 32, 49, 50, 51] (by decide +kernel) (by decide +kernel)) (goodIn_sub (fun _ h => List.mem_cons_of_mem _ (List.mem_append_right _ h)) (by decide +kernel))
set_option maxRecDepth 20000 in
theorem gX3_first_X0_unpacked : GoodIn wsX3_first (wsV RX3 109 RX0 yX0_unpacked wsX0_unpacked) := goodIn_app (goodIn_of _ (by decide +kernel)) ggX3_first_X0_unpacked
set_option maxRecDepth 20000 in
theorem ggX3_first_X2_has : GoodIn wsX3_first wsX2_has := goodIn_r _ [36, 27, 28, 50, 51] (by decide +kernel) (by decide +kernel)
set_option maxRecDepth 20000 in
theorem gX3_first_X2_has : GoodIn wsX3_first (wsV RX3 57 RX2 yX2_has wsX2_has) := goodIn_app (goodIn_of _ (by decide +kernel)) ggX3_first_X2_has
set_option maxRecDepth 20000 in
theorem ggX3_first_X2_at : GoodIn wsX3_first wsX2_at := goodIn_ca (goodIn_r _ [26, 27, 28, 50, 51] (by decide +kernel) (by decide +kernel)) (goodIn_sub (fun _ h => List.mem_cons_of_mem _ (List.mem_append_right _ h)) (by decide +kernel))
set_option maxRecDepth 20000 in
theorem gX3_first_X2_at : GoodIn wsX3_first (wsV RX3 60 RX2 yX2_at wsX2_at) := goodIn_app (goodIn_of _ (by decide +kernel)) ggX3_first_X2_at
theorem dX3_first_0 : decode cX3_first 0 = .ok (.aload_n 0, 1) := by decide +kernel
theorem dX3_first_1 : decode cX3_first 1 = .ok (.getfield 28, 3) := by decide +kernel
theorem dX3_first_4 : decode cX3_first 4 = .ok (.ifCond .ne 6, 3) := by decide +kernel
theorem dX3_first_7 : decode cX3_first 7 = .ok (.bipush (-11), 2) := by decide +kernel
theorem dX3_first_9 : decode cX3_first 9 = .ok (.ireturn, 1) := by decide +kernel
theorem dX3_first_10 : decode cX3_first 10 = .ok (.iload_n 1, 1) := by decide +kernel
theorem dX3_first_11 : decode cX3_first 11 = .ok (.invokestatic 106, 3) := by decide +kernel
theorem dX3_first_14 : decode cX3_first 14 = .ok (.ifCond .ne 6, 3) := by decide +kernel
theorem dX3_first_17 : decode cX3_first 17 = .ok (.bipush (-12), 2) := by decide +kernel
theorem dX3_first_19 : decode cX3_first 19 = .ok (.ireturn, 1) := by decide +kernel
theorem dX3_first_20 : decode cX3_first 20 = .ok (.aload_n 0, 1) := by decide +kernel
theorem dX3_first_21 : decode cX3_first 21 = .ok (.getfield 24, 3) := by decide +kernel
theorem dX3_first_24 : decode cX3_first 24 = .ok (.iload_n 1, 1) := by decide +kernel
theorem dX3_first_25 : decode cX3_first 25 = .ok (.iload_n 2, 1) := by decide +kernel
theorem dX3_first_26 : decode cX3_first 26 = .ok (.invokevirtual 109, 3) := by decide +kernel
theorem dX3_first_29 : decode cX3_first 29 = .ok (.istore_n 3, 1) := by decide +kernel
theorem dX3_first_30 : decode cX3_first 30 = .ok (.aload_n 0, 1) := by decide +kernel
theorem dX3_first_31 : decode cX3_first 31 = .ok (.getfield 16, 3) := by decide +kernel
theorem dX3_first_34 : decode cX3_first 34 = .ok (.iload_n 3, 1) := by decide +kernel
theorem dX3_first_35 : decode cX3_first 35 = .ok (.invokevirtual 57, 3) := by decide +kernel
theorem dX3_first_38 : decode cX3_first 38 = .ok (.ifCond .ne 13, 3) := by decide +kernel
theorem dX3_first_41 : decode cX3_first 41 = .ok (.new 86, 3) := by decide +kernel
theorem dX3_first_44 : decode cX3_first 44 = .ok (.dup, 1) := by decide +kernel
theorem dX3_first_45 : decode cX3_first 45 = .ok (.ldc 113, 2) := by decide +kernel
theorem dX3_first_47 : decode cX3_first 47 = .ok (.invokespecial 90, 3) := by decide +kernel
theorem dX3_first_50 : decode cX3_first 50 = .ok (.athrow, 1) := by decide +kernel
theorem dX3_first_51 : decode cX3_first 51 = .ok (.aload_n 0, 1) := by decide +kernel
theorem dX3_first_52 : decode cX3_first 52 = .ok (.getfield 16, 3) := by decide +kernel
theorem dX3_first_55 : decode cX3_first 55 = .ok (.iload_n 3, 1) := by decide +kernel
theorem dX3_first_56 : decode cX3_first 56 = .ok (.invokevirtual 60, 3) := by decide +kernel
theorem dX3_first_59 : decode cX3_first 59 = .ok (.ireturn, 1) := by decide +kernel
set_option maxRecDepth 20000 in
theorem ggX3_sum_X3_sumAsRead : GoodIn wsX3_sum wsX3_sumAsRead := goodIn_ca (goodIn_r _ [6, 7, 8, 9, 10, 11, 12, 13, 14, 15, 16, 17, 18, 19, 20, 21, 22, 23, 24, 25, 26, 27, 28, 29, 30, 31, 32, 33, 34, 35, 36, 37, 38, 39, 40, 41, 42, 43, 44, 45, 46, 47] (by decide +kernel) (by decide +kernel)) (goodIn_sub (fun _ h => List.mem_cons_of_mem _ (List.mem_append_right _ h)) (by decide +kernel))
set_option maxRecDepth 20000 in
theorem gX3_sum_X3_sumAsRead : GoodIn wsX3_sum (wsV RX3 115 RX3 yX3_sumAsRead wsX3_sumAsRead) := goodIn_app (goodIn_of _ (by decide +kernel)) ggX3_sum_X3_sumAsRead
theorem dX3_sum_0 : decode cX3_sum 0 = .ok (.aload_n 0, 1) := by decide +kernel
theorem dX3_sum_1 : decode cX3_sum 1 = .ok (.getfield 28, 3) := by decide +kernel
theorem dX3_sum_4 : decode cX3_sum 4 = .ok (.ifCond .eq 10, 3) := by decide +kernel
theorem dX3_sum_7 : decode cX3_sum 7 = .ok (.aload_n 0, 1) := by decide +kernel
theorem dX3_sum_8 : decode cX3_sum 8 = .ok (.invokevirtual 115, 3) := by decide +kernel
theorem dX3_sum_11 : decode cX3_sum 11 = .ok (.goto 5, 3) := by decide +kernel
theorem dX3_sum_14 : decode cX3_sum 14 = .ok (.bipush (-11), 2) := by decide +kernel
theorem dX3_sum_16 : decode cX3_sum 16 = .ok (.ireturn, 1) := by decide +kernel
set_option maxRecDepth 20000 in
theorem ggX3_agrees_X3_sumAsRead : GoodIn wsX3_agrees wsX3_sumAsRead := goodIn_ca (goodIn_r _ [7, 8, 2, 9, 10, 11, 12, 13, 14, 15, 16, 17, 18, 19, 20, 21, 22, 23, 24, 25, 26, 27, 28, 29, 30, 31, 32, 33, 34, 35, 36, 37, 38, 39, 41, 42, 43, 44, 45, 46, 47, 48] (by decide +kernel) (by decide +kernel)) (goodIn_sub (fun _ h => List.mem_cons_of_mem _ (List.mem_append_right _ h)) (by decide +kernel))
set_option maxRecDepth 20000 in
theorem gX3_agrees_X3_sumAsRead : GoodIn wsX3_agrees (wsV RX3 115 RX3 yX3_sumAsRead wsX3_sumAsRead) := goodIn_app (goodIn_of _ (by decide +kernel)) ggX3_agrees_X3_sumAsRead
set_option maxRecDepth 20000 in
theorem ggX3_agrees_X2_two : GoodIn wsX3_agrees wsX2_two := goodIn_ca (goodIn_r _ [20, 21, 22, 47, 48] (by decide +kernel) (by decide +kernel)) (goodIn_sub (fun _ h => List.mem_cons_of_mem _ (List.mem_append_right _ h)) (by decide +kernel))
set_option maxRecDepth 20000 in
theorem gX3_agrees_X2_two : GoodIn wsX3_agrees (wsV RX3 98 RX2 yX2_two wsX2_two) := goodIn_app (goodIn_of _ (by decide +kernel)) ggX3_agrees_X2_two
theorem dX3_agrees_0 : decode cX3_agrees 0 = .ok (.aload_n 0, 1) := by decide +kernel
theorem dX3_agrees_1 : decode cX3_agrees 1 = .ok (.getfield 28, 3) := by decide +kernel
theorem dX3_agrees_4 : decode cX3_agrees 4 = .ok (.ifCond .ne 6, 3) := by decide +kernel
theorem dX3_agrees_7 : decode cX3_agrees 7 = .ok (.bipush (-11), 2) := by decide +kernel
theorem dX3_agrees_9 : decode cX3_agrees 9 = .ok (.ireturn, 1) := by decide +kernel
theorem dX3_agrees_10 : decode cX3_agrees 10 = .ok (.aload_n 0, 1) := by decide +kernel
theorem dX3_agrees_11 : decode cX3_agrees 11 = .ok (.invokevirtual 115, 3) := by decide +kernel
theorem dX3_agrees_14 : decode cX3_agrees 14 = .ok (.aload_n 0, 1) := by decide +kernel
theorem dX3_agrees_15 : decode cX3_agrees 15 = .ok (.getfield 10, 3) := by decide +kernel
theorem dX3_agrees_18 : decode cX3_agrees 18 = .ok (.bipush 28, 2) := by decide +kernel
theorem dX3_agrees_20 : decode cX3_agrees 20 = .ok (.invokevirtual 98, 3) := by decide +kernel
theorem dX3_agrees_23 : decode cX3_agrees 23 = .ok (.if_icmp .ne 7, 3) := by decide +kernel
theorem dX3_agrees_26 : decode cX3_agrees 26 = .ok (.iconst 1, 1) := by decide +kernel
theorem dX3_agrees_27 : decode cX3_agrees 27 = .ok (.goto 4, 3) := by decide +kernel
theorem dX3_agrees_30 : decode cX3_agrees 30 = .ok (.iconst 0, 1) := by decide +kernel
theorem dX3_agrees_31 : decode cX3_agrees 31 = .ok (.ireturn, 1) := by decide +kernel
set_option maxRecDepth 20000 in
theorem ggX3_flag_X1_isFlag : GoodIn wsX3_flag wsX1_isFlag := goodIn_r _ [6] (by decide +kernel) (by decide +kernel)
set_option maxRecDepth 20000 in
theorem gX3_flag_X1_isFlag : GoodIn wsX3_flag (va_wsS RX3 118 yX1_isFlag wsX1_isFlag) := goodIn_app (goodIn_of _ (by decide +kernel)) ggX3_flag_X1_isFlag
set_option maxRecDepth 20000 in
theorem ggX3_flag_X0_version : GoodIn wsX3_flag wsX0_version := goodIn_ca (goodIn_r _ [11, 12, 13, 14, 15, 16, 17, 18, 19, 62, 63, 64] (by decide +kernel) (by decide +kernel)) (goodIn_sub (fun _ h => List.mem_cons_of_mem _ (List.mem_append_right _ h)) (by decide +kernel))
set_option maxRecDepth 20000 in
theorem gX3_flag_X0_version : GoodIn wsX3_flag (wsV RX3 80 RX0 yX0_version wsX0_version) := goodIn_app (goodIn_of _ (by decide +kernel)) ggX3_flag_X0_version
set_option maxRecDepth 20000 in
theorem ggX3_flag_X1_maySwitchFirst : GoodIn wsX3_flag wsX1_maySwitchFirst := goodIn_r _ [22, 23, 24, 5, 25] (by decide +kernel) (by decide +kernel)
set_option maxRecDepth 20000 in
theorem gX3_flag_X1_maySwitchFirst : GoodIn wsX3_flag (va_wsS RX3 124 yX1_maySwitchFirst wsX1_maySwitchFirst) := goodIn_app (goodIn_of _ (by decide +kernel)) ggX3_flag_X1_maySwitchFirst
set_option maxRecDepth 20000 in
theorem ggX3_flag_X1_maySwitchSecond : GoodIn wsX3_flag wsX1_maySwitchSecond := goodIn_r _ [28] (by decide +kernel) (by decide +kernel)
set_option maxRecDepth 20000 in
theorem gX3_flag_X1_maySwitchSecond : GoodIn wsX3_flag (va_wsS RX3 128 yX1_maySwitchSecond wsX1_maySwitchSecond) := goodIn_app (goodIn_of _ (by decide +kernel)) ggX3_flag_X1_maySwitchSecond
set_option maxRecDepth 20000 in
theorem ggX3_flag_X3_flagBit : GoodIn wsX3_flag wsX3_flagBit := goodIn_ca (goodIn_r _ [33, 34, 35, 14, 15, 16, 17, 18, 19, 36, 37, 38, 39, 57, 58, 59, 60, 61, 63, 64] (by decide +kernel) (by decide +kernel)) (goodIn_sub (fun _ h => List.mem_cons_of_mem _ (List.mem_append_right _ h)) (by decide +kernel))
set_option maxRecDepth 20000 in
theorem gX3_flag_X3_flagBit : GoodIn wsX3_flag (wsV RX3 132 RX3 yX3_flagBit wsX3_flagBit) := goodIn_app (goodIn_of _ (by decide +kernel)) ggX3_flag_X3_flagBit
set_option maxRecDepth 20000 in
theorem ggX3_flag_X3_switchFlag : GoodIn wsX3_flag wsX3_switchFlag := goodIn_ca (goodIn_r _ [43, 34, 35, 14, 15, 16, 17, 18, 19, 36, 37, 38, 39, 44, 45, 46, 47, 48, 49, 50, 51, 52, 53, 54, 55, 56, 57, 58, 59, 60, 61, 63, 64] (by decide +kernel) (by decide +kernel)) (goodIn_sub (fun _ h => List.mem_cons_of_mem _ (List.mem_append_right _ h)) (by decide +kernel))
set_option maxRecDepth 20000 in
theorem gX3_flag_X3_switchFlag : GoodIn wsX3_flag (wsV RX3 135 RX3 yX3_switchFlag wsX3_switchFlag) := goodIn_app (goodIn_of _ (by decide +kernel)) ggX3_flag_X3_switchFlag
theorem dX3_flag_0 : decode cX3_flag 0 = .ok (.aload_n 0, 1) := by decide +kernel
theorem dX3_flag_1 : decode cX3_flag 1 = .ok (.getfield 28, 3) := by decide +kernel
theorem dX3_flag_4 : decode cX3_flag 4 = .ok (.ifCond .ne 6, 3) := by decide +kernel
theorem dX3_flag_7 : decode cX3_flag 7 = .ok (.bipush (-11), 2) := by decide +kernel
theorem dX3_flag_9 : decode cX3_flag 9 = .ok (.ireturn, 1) := by decide +kernel
theorem dX3_flag_10 : decode cX3_flag 10 = .ok (.iload_n 1, 1) := by decide +kernel
theorem dX3_flag_11 : decode cX3_flag 11 = .ok (.iload_n 2, 1) := by decide +kernel
theorem dX3_flag_12 : decode cX3_flag 12 = .ok (.invokestatic 118, 3) := by decide +kernel
theorem dX3_flag_15 : decode cX3_flag 15 = .ok (.ifCond .ne 6, 3) := by decide +kernel
theorem dX3_flag_18 : decode cX3_flag 18 = .ok (.bipush (-12), 2) := by decide +kernel
theorem dX3_flag_20 : decode cX3_flag 20 = .ok (.ireturn, 1) := by decide +kernel
theorem dX3_flag_21 : decode cX3_flag 21 = .ok (.aload_n 0, 1) := by decide +kernel
theorem dX3_flag_22 : decode cX3_flag 22 = .ok (.getfield 24, 3) := by decide +kernel
theorem dX3_flag_25 : decode cX3_flag 25 = .ok (.invokevirtual 80, 3) := by decide +kernel
theorem dX3_flag_28 : decode cX3_flag 28 = .ok (.istore 5, 2) := by decide +kernel
theorem dX3_flag_30 : decode cX3_flag 30 = .ok (.iload_n 1, 1) := by decide +kernel
theorem dX3_flag_31 : decode cX3_flag 31 = .ok (.iconst 1, 1) := by decide +kernel
theorem dX3_flag_32 : decode cX3_flag 32 = .ok (.if_icmp .ne 17, 3) := by decide +kernel
theorem dX3_flag_35 : decode cX3_flag 35 = .ok (.iload 5, 2) := by decide +kernel
theorem dX3_flag_37 : decode cX3_flag 37 = .ok (.iload_n 2, 1) := by decide +kernel
theorem dX3_flag_38 : decode cX3_flag 38 = .ok (.iload 4, 2) := by decide +kernel
theorem dX3_flag_40 : decode cX3_flag 40 = .ok (.invokestatic 124, 3) := by decide +kernel
theorem dX3_flag_43 : decode cX3_flag 43 = .ok (.ifCond .ne 6, 3) := by decide +kernel
theorem dX3_flag_46 : decode cX3_flag 46 = .ok (.bipush (-13), 2) := by decide +kernel
theorem dX3_flag_48 : decode cX3_flag 48 = .ok (.ireturn, 1) := by decide +kernel
theorem dX3_flag_49 : decode cX3_flag 49 = .ok (.iload_n 1, 1) := by decide +kernel
theorem dX3_flag_50 : decode cX3_flag 50 = .ok (.iconst 2, 1) := by decide +kernel
theorem dX3_flag_51 : decode cX3_flag 51 = .ok (.if_icmp .ne 18, 3) := by decide +kernel
theorem dX3_flag_54 : decode cX3_flag 54 = .ok (.iload 5, 2) := by decide +kernel
theorem dX3_flag_56 : decode cX3_flag 56 = .ok (.iload_n 2, 1) := by decide +kernel
theorem dX3_flag_57 : decode cX3_flag 57 = .ok (.iload_n 3, 1) := by decide +kernel
theorem dX3_flag_58 : decode cX3_flag 58 = .ok (.iload 4, 2) := by decide +kernel
theorem dX3_flag_60 : decode cX3_flag 60 = .ok (.invokestatic 128, 3) := by decide +kernel
theorem dX3_flag_63 : decode cX3_flag 63 = .ok (.ifCond .ne 6, 3) := by decide +kernel
theorem dX3_flag_66 : decode cX3_flag 66 = .ok (.bipush (-13), 2) := by decide +kernel
theorem dX3_flag_68 : decode cX3_flag 68 = .ok (.ireturn, 1) := by decide +kernel
theorem dX3_flag_69 : decode cX3_flag 69 = .ok (.aload_n 0, 1) := by decide +kernel
theorem dX3_flag_70 : decode cX3_flag 70 = .ok (.iload_n 1, 1) := by decide +kernel
theorem dX3_flag_71 : decode cX3_flag 71 = .ok (.iload_n 2, 1) := by decide +kernel
theorem dX3_flag_72 : decode cX3_flag 72 = .ok (.invokevirtual 132, 3) := by decide +kernel
theorem dX3_flag_75 : decode cX3_flag 75 = .ok (.istore 6, 2) := by decide +kernel
theorem dX3_flag_77 : decode cX3_flag 77 = .ok (.aload_n 0, 1) := by decide +kernel
theorem dX3_flag_78 : decode cX3_flag 78 = .ok (.iload_n 1, 1) := by decide +kernel
theorem dX3_flag_79 : decode cX3_flag 79 = .ok (.iload_n 2, 1) := by decide +kernel
theorem dX3_flag_80 : decode cX3_flag 80 = .ok (.iload_n 3, 1) := by decide +kernel
theorem dX3_flag_81 : decode cX3_flag 81 = .ok (.invokevirtual 135, 3) := by decide +kernel
theorem dX3_flag_84 : decode cX3_flag 84 = .ok (.iload 6, 2) := by decide +kernel
theorem dX3_flag_86 : decode cX3_flag 86 = .ok (.ireturn, 1) := by decide +kernel
set_option maxRecDepth 20000 in
theorem ggX3_isOn_X1_isFlag : GoodIn wsX3_isOn wsX1_isFlag := goodIn_r _ [5] (by decide +kernel) (by decide +kernel)
set_option maxRecDepth 20000 in
theorem gX3_isOn_X1_isFlag : GoodIn wsX3_isOn (va_wsS RX3 118 yX1_isFlag wsX1_isFlag) := goodIn_app (goodIn_of _ (by decide +kernel)) ggX3_isOn_X1_isFlag
set_option maxRecDepth 20000 in
theorem ggX3_isOn_X3_flagBit : GoodIn wsX3_isOn wsX3_flagBit := goodIn_ca (goodIn_r _ [10, 11, 12, 13, 14, 15, 16, 17, 18, 19, 20, 21, 22, 23, 24, 25, 26, 27, 28, 29] (by decide +kernel) (by decide +kernel)) (goodIn_sub (fun _ h => List.mem_cons_of_mem _ (List.mem_append_right _ h)) (by decide +kernel))
set_option maxRecDepth 20000 in
theorem gX3_isOn_X3_flagBit : GoodIn wsX3_isOn (wsV RX3 132 RX3 yX3_flagBit wsX3_flagBit) := goodIn_app (goodIn_of _ (by decide +kernel)) ggX3_isOn_X3_flagBit
theorem dX3_isOn_0 : decode cX3_isOn 0 = .ok (.aload_n 0, 1) := by decide +kernel
theorem dX3_isOn_1 : decode cX3_isOn 1 = .ok (.getfield 28, 3) := by decide +kernel
theorem dX3_isOn_4 : decode cX3_isOn 4 = .ok (.ifCond .ne 6, 3) := by decide +kernel
theorem dX3_isOn_7 : decode cX3_isOn 7 = .ok (.bipush (-11), 2) := by decide +kernel
theorem dX3_isOn_9 : decode cX3_isOn 9 = .ok (.ireturn, 1) := by decide +kernel
theorem dX3_isOn_10 : decode cX3_isOn 10 = .ok (.iload_n 1, 1) := by decide +kernel
theorem dX3_isOn_11 : decode cX3_isOn 11 = .ok (.iload_n 2, 1) := by decide +kernel
theorem dX3_isOn_12 : decode cX3_isOn 12 = .ok (.invokestatic 118, 3) := by decide +kernel
theorem dX3_isOn_15 : decode cX3_isOn 15 = .ok (.ifCond .eq 12, 3) := by decide +kernel
theorem dX3_isOn_18 : decode cX3_isOn 18 = .ok (.aload_n 0, 1) := by decide +kernel
theorem dX3_isOn_19 : decode cX3_isOn 19 = .ok (.iload_n 1, 1) := by decide +kernel
theorem dX3_isOn_20 : decode cX3_isOn 20 = .ok (.iload_n 2, 1) := by decide +kernel
theorem dX3_isOn_21 : decode cX3_isOn 21 = .ok (.invokevirtual 132, 3) := by decide +kernel
theorem dX3_isOn_24 : decode cX3_isOn 24 = .ok (.goto 5, 3) := by decide +kernel
theorem dX3_isOn_27 : decode cX3_isOn 27 = .ok (.bipush (-12), 2) := by decide +kernel
theorem dX3_isOn_29 : decode cX3_isOn 29 = .ok (.ireturn, 1) := by decide +kernel
set_option maxRecDepth 20000 in
theorem ggX3_set_X1_isWide : GoodIn wsX3_set wsX1_isWide := goodIn_r _ [7] (by decide +kernel) (by decide +kernel)
set_option maxRecDepth 20000 in
theorem gX3_set_X1_isWide : GoodIn wsX3_set (va_wsS RX3 139 yX1_isWide wsX1_isWide) := goodIn_app (goodIn_of _ (by decide +kernel)) ggX3_set_X1_isWide
set_option maxRecDepth 20000 in
theorem ggX3_set_X3_isTwo : GoodIn wsX3_set wsX3_isTwo := goodIn_r _ [11, 12] (by decide +kernel) (by decide +kernel)
set_option maxRecDepth 20000 in
theorem gX3_set_X3_isTwo : GoodIn wsX3_set (va_wsS RX3 106 yX3_isTwo wsX3_isTwo) := goodIn_app (goodIn_of _ (by decide +kernel)) ggX3_set_X3_isTwo
set_option maxRecDepth 20000 in
theorem ggX3_set_X3_isByte : GoodIn wsX3_set wsX3_isByte := goodIn_r _ [15] (by decide +kernel) (by decide +kernel)
set_option maxRecDepth 20000 in
theorem gX3_set_X3_isByte : GoodIn wsX3_set (va_wsS RX3 36 yX3_isByte wsX3_isByte) := goodIn_app (goodIn_of _ (by decide +kernel)) ggX3_set_X3_isByte
set_option maxRecDepth 20000 in
theorem ggX3_set_X0_version : GoodIn wsX3_set wsX0_version := goodIn_ca (goodIn_r _ [20, 21, 22, 23, 24, 25, 26, 27, 28, 58, 59, 60] (by decide +kernel) (by decide +kernel)) (goodIn_sub (fun _ h => List.mem_cons_of_mem _ (List.mem_append_right _ h)) (by decide +kernel))
set_option maxRecDepth 20000 in
theorem gX3_set_X0_version : GoodIn wsX3_set (wsV RX3 80 RX0 yX0_version wsX0_version) := goodIn_app (goodIn_of _ (by decide +kernel)) ggX3_set_X0_version
set_option maxRecDepth 20000 in
theorem ggX3_set_X1_settableFrom : GoodIn wsX3_set wsX1_settableFrom := goodIn_r _ [31] (by decide +kernel) (by decide +kernel)
set_option maxRecDepth 20000 in
theorem gX3_set_X1_settableFrom : GoodIn wsX3_set (va_wsS RX3 142 yX1_settableFrom wsX1_settableFrom) := goodIn_app (goodIn_of _ (by decide +kernel)) ggX3_set_X1_settableFrom
set_option maxRecDepth 20000 in
theorem ggX3_set_X1_settingPlace : GoodIn wsX3_set wsX1_settingPlace := goodIn_r _ [34] (by decide +kernel) (by decide +kernel)
set_option maxRecDepth 20000 in
theorem gX3_set_X1_settingPlace : GoodIn wsX3_set (va_wsS RX3 145 yX1_settingPlace wsX1_settingPlace) := goodIn_app (goodIn_of _ (by decide +kernel)) ggX3_set_X1_settingPlace
set_option maxRecDepth 20000 in
theorem ggX3_set_X2_two : GoodIn wsX3_set wsX2_two := goodIn_ca (goodIn_r _ [38, 27, 28, 59, 60] (by decide +kernel) (by decide +kernel)) (goodIn_sub (fun _ h => List.mem_cons_of_mem _ (List.mem_append_right _ h)) (by decide +kernel))
set_option maxRecDepth 20000 in
theorem gX3_set_X2_two : GoodIn wsX3_set (wsV RX3 98 RX2 yX2_two wsX2_two) := goodIn_app (goodIn_of _ (by decide +kernel)) ggX3_set_X2_two
set_option maxRecDepth 20000 in
theorem ggX3_set_X2_at : GoodIn wsX3_set wsX2_at := goodIn_ca (goodIn_r _ [26, 27, 28, 59, 60] (by decide +kernel) (by decide +kernel)) (goodIn_sub (fun _ h => List.mem_cons_of_mem _ (List.mem_append_right _ h)) (by decide +kernel))
set_option maxRecDepth 20000 in
theorem gX3_set_X2_at : GoodIn wsX3_set (wsV RX3 60 RX2 yX2_at wsX2_at) := goodIn_app (goodIn_of _ (by decide +kernel)) ggX3_set_X2_at
set_option maxRecDepth 20000 in
theorem ggX3_set_X2_putTwo : GoodIn wsX3_set wsX2_putTwo := goodIn_ca (goodIn_r _ [43, 44, 45, 46, 25, 47, 28, 48, 49, 50, 51, 27, 59, 60] (by decide +kernel) (by decide +kernel)) (goodIn_sub (fun _ h => List.mem_cons_of_mem _ (List.mem_append_right _ h)) (by decide +kernel))
set_option maxRecDepth 20000 in
theorem gX3_set_X2_putTwo : GoodIn wsX3_set (wsV RX3 148 RX2 yX2_putTwo wsX2_putTwo) := goodIn_app (goodIn_of _ (by decide +kernel)) ggX3_set_X2_putTwo
set_option maxRecDepth 20000 in
theorem ggX3_set_X2_put : GoodIn wsX3_set wsX2_put := goodIn_ca (goodIn_r _ [47, 28, 48, 49, 50, 25, 51, 27, 59, 60] (by decide +kernel) (by decide +kernel)) (goodIn_sub (fun _ h => List.mem_cons_of_mem _ (List.mem_append_right _ h)) (by decide +kernel))
set_option maxRecDepth 20000 in
theorem gX3_set_X2_put : GoodIn wsX3_set (wsV RX3 64 RX2 yX2_put wsX2_put) := goodIn_app (goodIn_of _ (by decide +kernel)) ggX3_set_X2_put
theorem dX3_set_0 : decode cX3_set 0 = .ok (.aload_n 0, 1) := by decide +kernel
theorem dX3_set_1 : decode cX3_set 1 = .ok (.getfield 28, 3) := by decide +kernel
theorem dX3_set_4 : decode cX3_set 4 = .ok (.ifCond .ne 6, 3) := by decide +kernel
theorem dX3_set_7 : decode cX3_set 7 = .ok (.bipush (-11), 2) := by decide +kernel
theorem dX3_set_9 : decode cX3_set 9 = .ok (.ireturn, 1) := by decide +kernel
theorem dX3_set_10 : decode cX3_set 10 = .ok (.iload_n 1, 1) := by decide +kernel
theorem dX3_set_11 : decode cX3_set 11 = .ok (.ifCond .lt 9, 3) := by decide +kernel
theorem dX3_set_14 : decode cX3_set 14 = .ok (.iload_n 1, 1) := by decide +kernel
theorem dX3_set_15 : decode cX3_set 15 = .ok (.bipush 11, 2) := by decide +kernel
theorem dX3_set_17 : decode cX3_set 17 = .ok (.if_icmp .lt 6, 3) := by decide +kernel
theorem dX3_set_20 : decode cX3_set 20 = .ok (.bipush (-12), 2) := by decide +kernel
theorem dX3_set_22 : decode cX3_set 22 = .ok (.ireturn, 1) := by decide +kernel
theorem dX3_set_23 : decode cX3_set 23 = .ok (.iload_n 1, 1) := by decide +kernel
theorem dX3_set_24 : decode cX3_set 24 = .ok (.invokestatic 139, 3) := by decide +kernel
theorem dX3_set_27 : decode cX3_set 27 = .ok (.istore_n 3, 1) := by decide +kernel
theorem dX3_set_28 : decode cX3_set 28 = .ok (.iload_n 3, 1) := by decide +kernel
theorem dX3_set_29 : decode cX3_set 29 = .ok (.ifCond .eq 13, 3) := by decide +kernel
theorem dX3_set_32 : decode cX3_set 32 = .ok (.iload_n 2, 1) := by decide +kernel
theorem dX3_set_33 : decode cX3_set 33 = .ok (.invokestatic 106, 3) := by decide +kernel
theorem dX3_set_36 : decode cX3_set 36 = .ok (.ifCond .ne 16, 3) := by decide +kernel
theorem dX3_set_39 : decode cX3_set 39 = .ok (.goto 10, 3) := by decide +kernel
theorem dX3_set_42 : decode cX3_set 42 = .ok (.iload_n 2, 1) := by decide +kernel
theorem dX3_set_43 : decode cX3_set 43 = .ok (.invokestatic 36, 3) := by decide +kernel
theorem dX3_set_46 : decode cX3_set 46 = .ok (.ifCond .ne 6, 3) := by decide +kernel
theorem dX3_set_49 : decode cX3_set 49 = .ok (.bipush (-12), 2) := by decide +kernel
theorem dX3_set_51 : decode cX3_set 51 = .ok (.ireturn, 1) := by decide +kernel
theorem dX3_set_52 : decode cX3_set 52 = .ok (.aload_n 0, 1) := by decide +kernel
theorem dX3_set_53 : decode cX3_set 53 = .ok (.getfield 24, 3) := by decide +kernel
theorem dX3_set_56 : decode cX3_set 56 = .ok (.invokevirtual 80, 3) := by decide +kernel
theorem dX3_set_59 : decode cX3_set 59 = .ok (.istore 4, 2) := by decide +kernel
theorem dX3_set_61 : decode cX3_set 61 = .ok (.iload 4, 2) := by decide +kernel
theorem dX3_set_63 : decode cX3_set 63 = .ok (.iload_n 1, 1) := by decide +kernel
theorem dX3_set_64 : decode cX3_set 64 = .ok (.invokestatic 142, 3) := by decide +kernel
theorem dX3_set_67 : decode cX3_set 67 = .ok (.if_icmp .ge 6, 3) := by decide +kernel
theorem dX3_set_70 : decode cX3_set 70 = .ok (.bipush (-13), 2) := by decide +kernel
theorem dX3_set_72 : decode cX3_set 72 = .ok (.ireturn, 1) := by decide +kernel
theorem dX3_set_73 : decode cX3_set 73 = .ok (.iload_n 1, 1) := by decide +kernel
theorem dX3_set_74 : decode cX3_set 74 = .ok (.iload 4, 2) := by decide +kernel
theorem dX3_set_76 : decode cX3_set 76 = .ok (.invokestatic 145, 3) := by decide +kernel
theorem dX3_set_79 : decode cX3_set 79 = .ok (.istore 5, 2) := by decide +kernel
theorem dX3_set_81 : decode cX3_set 81 = .ok (.iload_n 3, 1) := by decide +kernel
theorem dX3_set_82 : decode cX3_set 82 = .ok (.ifCond .eq 15, 3) := by decide +kernel
theorem dX3_set_85 : decode cX3_set 85 = .ok (.aload_n 0, 1) := by decide +kernel
theorem dX3_set_86 : decode cX3_set 86 = .ok (.getfield 16, 3) := by decide +kernel
theorem dX3_set_89 : decode cX3_set 89 = .ok (.iload 5, 2) := by decide +kernel
theorem dX3_set_91 : decode cX3_set 91 = .ok (.invokevirtual 98, 3) := by decide +kernel
theorem dX3_set_94 : decode cX3_set 94 = .ok (.goto 12, 3) := by decide +kernel
theorem dX3_set_97 : decode cX3_set 97 = .ok (.aload_n 0, 1) := by decide +kernel
theorem dX3_set_98 : decode cX3_set 98 = .ok (.getfield 16, 3) := by decide +kernel
theorem dX3_set_101 : decode cX3_set 101 = .ok (.iload 5, 2) := by decide +kernel
theorem dX3_set_103 : decode cX3_set 103 = .ok (.invokevirtual 60, 3) := by decide +kernel
theorem dX3_set_106 : decode cX3_set 106 = .ok (.istore 6, 2) := by decide +kernel
theorem dX3_set_108 : decode cX3_set 108 = .ok (.iload_n 3, 1) := by decide +kernel
theorem dX3_set_109 : decode cX3_set 109 = .ok (.ifCond .eq 16, 3) := by decide +kernel
theorem dX3_set_112 : decode cX3_set 112 = .ok (.aload_n 0, 1) := by decide +kernel
theorem dX3_set_113 : decode cX3_set 113 = .ok (.getfield 16, 3) := by decide +kernel
theorem dX3_set_116 : decode cX3_set 116 = .ok (.iload 5, 2) := by decide +kernel
theorem dX3_set_118 : decode cX3_set 118 = .ok (.iload_n 2, 1) := by decide +kernel
theorem dX3_set_119 : decode cX3_set 119 = .ok (.invokevirtual 148, 3) := by decide +kernel
theorem dX3_set_122 : decode cX3_set 122 = .ok (.goto 13, 3) := by decide +kernel
theorem dX3_set_125 : decode cX3_set 125 = .ok (.aload_n 0, 1) := by decide +kernel
theorem dX3_set_126 : decode cX3_set 126 = .ok (.getfield 16, 3) := by decide +kernel
theorem dX3_set_129 : decode cX3_set 129 = .ok (.iload 5, 2) := by decide +kernel
theorem dX3_set_131 : decode cX3_set 131 = .ok (.iload_n 2, 1) := by decide +kernel
theorem dX3_set_132 : decode cX3_set 132 = .ok (.invokevirtual 64, 3) := by decide +kernel
theorem dX3_set_135 : decode cX3_set 135 = .ok (.iload 6, 2) := by decide +kernel
theorem dX3_set_137 : decode cX3_set 137 = .ok (.ireturn, 1) := by decide +kernel
set_option maxRecDepth 20000 in
theorem ggX3_restart_X0_staticFrom : GoodIn wsX3_restart wsX0_staticFrom := goodIn_ca (goodIn_r _ [9, 10, 11, 12, 13, 14, 15, 16, 17, 35, 36, 37] (by decide +kernel) (by decide +kernel)) (goodIn_sub (fun _ h => List.mem_cons_of_mem _ (List.mem_append_right _ h)) (by decide +kernel))
set_option maxRecDepth 20000 in
theorem gX3_restart_X0_staticFrom : GoodIn wsX3_restart (wsV RX3 103 RX0 yX0_staticFrom wsX0_staticFrom) := goodIn_app (goodIn_of _ (by decide +kernel)) ggX3_restart_X0_staticFrom
set_option maxRecDepth 20000 in
theorem ggX3_restart_X2_at : GoodIn wsX3_restart wsX2_at := goodIn_ca (goodIn_r _ [21, 16, 17, 36, 37] (by decide +kernel) (by decide +kernel)) (goodIn_sub (fun _ h => List.mem_cons_of_mem _ (List.mem_append_right _ h)) (by decide +kernel))
set_option maxRecDepth 20000 in
theorem gX3_restart_X2_at : GoodIn wsX3_restart (wsV RX3 60 RX2 yX2_at wsX2_at) := goodIn_app (goodIn_of _ (by decide +kernel)) ggX3_restart_X2_at
set_option maxRecDepth 20000 in
theorem ggX3_restart_X2_put : GoodIn wsX3_restart wsX2_put := goodIn_ca (goodIn_r _ [25, 17, 26, 27, 28, 14, 29, 16, 36, 37] (by decide +kernel) (by decide +kernel)) (goodIn_sub (fun _ h => List.mem_cons_of_mem _ (List.mem_append_right _ h)) (by decide +kernel))
set_option maxRecDepth 20000 in
theorem gX3_restart_X2_put : GoodIn wsX3_restart (wsV RX3 64 RX2 yX2_put wsX2_put) := goodIn_app (goodIn_of _ (by decide +kernel)) ggX3_restart_X2_put
theorem dX3_restart_0 : decode cX3_restart 0 = .ok (.aload_n 0, 1) := by decide +kernel
theorem dX3_restart_1 : decode cX3_restart 1 = .ok (.getfield 28, 3) := by decide +kernel
theorem dX3_restart_4 : decode cX3_restart 4 = .ok (.ifCond .ne 6, 3) := by decide +kernel
theorem dX3_restart_7 : decode cX3_restart 7 = .ok (.bipush (-11), 2) := by decide +kernel
theorem dX3_restart_9 : decode cX3_restart 9 = .ok (.ireturn, 1) := by decide +kernel
theorem dX3_restart_10 : decode cX3_restart 10 = .ok (.iconst 0, 1) := by decide +kernel
theorem dX3_restart_11 : decode cX3_restart 11 = .ok (.istore_n 1, 1) := by decide +kernel
theorem dX3_restart_12 : decode cX3_restart 12 = .ok (.aload_n 0, 1) := by decide +kernel
theorem dX3_restart_13 : decode cX3_restart 13 = .ok (.getfield 24, 3) := by decide +kernel
theorem dX3_restart_16 : decode cX3_restart 16 = .ok (.invokevirtual 103, 3) := by decide +kernel
theorem dX3_restart_19 : decode cX3_restart 19 = .ok (.istore_n 2, 1) := by decide +kernel
theorem dX3_restart_20 : decode cX3_restart 20 = .ok (.bipush 64, 2) := by decide +kernel
theorem dX3_restart_22 : decode cX3_restart 22 = .ok (.istore_n 3, 1) := by decide +kernel
theorem dX3_restart_23 : decode cX3_restart 23 = .ok (.iload_n 3, 1) := by decide +kernel
theorem dX3_restart_24 : decode cX3_restart 24 = .ok (.iload_n 2, 1) := by decide +kernel
theorem dX3_restart_25 : decode cX3_restart 25 = .ok (.if_icmp .ge 47, 3) := by decide +kernel
theorem dX3_restart_28 : decode cX3_restart 28 = .ok (.aload_n 0, 1) := by decide +kernel
theorem dX3_restart_29 : decode cX3_restart 29 = .ok (.getfield 16, 3) := by decide +kernel
theorem dX3_restart_32 : decode cX3_restart 32 = .ok (.iload_n 3, 1) := by decide +kernel
theorem dX3_restart_33 : decode cX3_restart 33 = .ok (.invokevirtual 60, 3) := by decide +kernel
theorem dX3_restart_36 : decode cX3_restart 36 = .ok (.aload_n 0, 1) := by decide +kernel
theorem dX3_restart_37 : decode cX3_restart 37 = .ok (.getfield 10, 3) := by decide +kernel
theorem dX3_restart_40 : decode cX3_restart 40 = .ok (.iload_n 3, 1) := by decide +kernel
theorem dX3_restart_41 : decode cX3_restart 41 = .ok (.invokevirtual 60, 3) := by decide +kernel
theorem dX3_restart_44 : decode cX3_restart 44 = .ok (.if_icmp .eq 22, 3) := by decide +kernel
theorem dX3_restart_47 : decode cX3_restart 47 = .ok (.iinc 1 1, 3) := by decide +kernel
theorem dX3_restart_50 : decode cX3_restart 50 = .ok (.aload_n 0, 1) := by decide +kernel
theorem dX3_restart_51 : decode cX3_restart 51 = .ok (.getfield 16, 3) := by decide +kernel
theorem dX3_restart_54 : decode cX3_restart 54 = .ok (.iload_n 3, 1) := by decide +kernel
theorem dX3_restart_55 : decode cX3_restart 55 = .ok (.aload_n 0, 1) := by decide +kernel
theorem dX3_restart_56 : decode cX3_restart 56 = .ok (.getfield 10, 3) := by decide +kernel
theorem dX3_restart_59 : decode cX3_restart 59 = .ok (.iload_n 3, 1) := by decide +kernel
theorem dX3_restart_60 : decode cX3_restart 60 = .ok (.invokevirtual 60, 3) := by decide +kernel
theorem dX3_restart_63 : decode cX3_restart 63 = .ok (.invokevirtual 64, 3) := by decide +kernel
theorem dX3_restart_66 : decode cX3_restart 66 = .ok (.iinc 3 1, 3) := by decide +kernel
theorem dX3_restart_69 : decode cX3_restart 69 = .ok (.goto (-46), 3) := by decide +kernel
theorem dX3_restart_72 : decode cX3_restart 72 = .ok (.iload_n 1, 1) := by decide +kernel
theorem dX3_restart_73 : decode cX3_restart 73 = .ok (.ireturn, 1) := by decide +kernel
set_option maxRecDepth 20000 in
theorem ggX3_sign_X0_signs : GoodIn wsX3_sign wsX0_signs := goodIn_ca (goodIn_r _ [11, 12, 13, 14, 15, 10, 16, 17, 18, 19, 20, 21, 22, 23, 24, 25, 26, 27, 41, 42, 43] (by decide +kernel) (by decide +kernel)) (goodIn_sub (fun _ h => List.mem_cons_of_mem _ (List.mem_append_right _ h)) (by decide +kernel))
set_option maxRecDepth 20000 in
theorem gX3_sign_X0_signs : GoodIn wsX3_sign (wsV RX3 151 RX0 yX0_signs wsX0_signs) := goodIn_app (goodIn_of _ (by decide +kernel)) ggX3_sign_X0_signs
set_option maxRecDepth 20000 in
theorem ggX3_sign_X0_words : GoodIn wsX3_sign wsX0_words := goodIn_ca (goodIn_r _ [16, 12, 17, 18, 19, 20, 21, 22, 23, 41, 42, 43] (by decide +kernel) (by decide +kernel)) (goodIn_sub (fun _ h => List.mem_cons_of_mem _ (List.mem_append_right _ h)) (by decide +kernel))
set_option maxRecDepth 20000 in
theorem gX3_sign_X0_words : GoodIn wsX3_sign (wsV RX3 156 RX0 yX0_words wsX0_words) := goodIn_app (goodIn_of _ (by decide +kernel)) ggX3_sign_X0_words
set_option maxRecDepth 20000 in
theorem ggX3_sign_X2_at : GoodIn wsX3_sign wsX2_at := goodIn_ca (goodIn_r _ [27, 22, 23, 42, 43] (by decide +kernel) (by decide +kernel)) (goodIn_sub (fun _ h => List.mem_cons_of_mem _ (List.mem_append_right _ h)) (by decide +kernel))
set_option maxRecDepth 20000 in
theorem gX3_sign_X2_at : GoodIn wsX3_sign (wsV RX3 60 RX2 yX2_at wsX2_at) := goodIn_app (goodIn_of _ (by decide +kernel)) ggX3_sign_X2_at
theorem dX3_sign_0 : decode cX3_sign 0 = .ok (.aload_n 0, 1) := by decide +kernel
theorem dX3_sign_1 : decode cX3_sign 1 = .ok (.getfield 28, 3) := by decide +kernel
theorem dX3_sign_4 : decode cX3_sign 4 = .ok (.ifCond .ne 6, 3) := by decide +kernel
theorem dX3_sign_7 : decode cX3_sign 7 = .ok (.bipush (-11), 2) := by decide +kernel
theorem dX3_sign_9 : decode cX3_sign 9 = .ok (.ireturn, 1) := by decide +kernel
theorem dX3_sign_10 : decode cX3_sign 10 = .ok (.iload_n 1, 1) := by decide +kernel
theorem dX3_sign_11 : decode cX3_sign 11 = .ok (.ifCond .lt 14, 3) := by decide +kernel
theorem dX3_sign_14 : decode cX3_sign 14 = .ok (.iload_n 1, 1) := by decide +kernel
theorem dX3_sign_15 : decode cX3_sign 15 = .ok (.aload_n 0, 1) := by decide +kernel
theorem dX3_sign_16 : decode cX3_sign 16 = .ok (.getfield 24, 3) := by decide +kernel
theorem dX3_sign_19 : decode cX3_sign 19 = .ok (.invokevirtual 151, 3) := by decide +kernel
theorem dX3_sign_22 : decode cX3_sign 22 = .ok (.if_icmp .lt 13, 3) := by decide +kernel
theorem dX3_sign_25 : decode cX3_sign 25 = .ok (.new 86, 3) := by decide +kernel
theorem dX3_sign_28 : decode cX3_sign 28 = .ok (.dup, 1) := by decide +kernel
theorem dX3_sign_29 : decode cX3_sign 29 = .ok (.ldc 154, 2) := by decide +kernel
theorem dX3_sign_31 : decode cX3_sign 31 = .ok (.invokespecial 90, 3) := by decide +kernel
theorem dX3_sign_34 : decode cX3_sign 34 = .ok (.athrow, 1) := by decide +kernel
theorem dX3_sign_35 : decode cX3_sign 35 = .ok (.aload_n 0, 1) := by decide +kernel
theorem dX3_sign_36 : decode cX3_sign 36 = .ok (.getfield 10, 3) := by decide +kernel
theorem dX3_sign_39 : decode cX3_sign 39 = .ok (.aload_n 0, 1) := by decide +kernel
theorem dX3_sign_40 : decode cX3_sign 40 = .ok (.getfield 24, 3) := by decide +kernel
theorem dX3_sign_43 : decode cX3_sign 43 = .ok (.invokevirtual 156, 3) := by decide +kernel
theorem dX3_sign_46 : decode cX3_sign 46 = .ok (.iconst 1, 1) := by decide +kernel
theorem dX3_sign_47 : decode cX3_sign 47 = .ok (.iadd, 1) := by decide +kernel
theorem dX3_sign_48 : decode cX3_sign 48 = .ok (.iload_n 1, 1) := by decide +kernel
theorem dX3_sign_49 : decode cX3_sign 49 = .ok (.iadd, 1) := by decide +kernel
theorem dX3_sign_50 : decode cX3_sign 50 = .ok (.invokevirtual 60, 3) := by decide +kernel
theorem dX3_sign_53 : decode cX3_sign 53 = .ok (.ireturn, 1) := by decide +kernel
set_option maxRecDepth 20000 in
theorem ggX3_ratio_X0_entries : GoodIn wsX3_ratio wsX0_entries := goodIn_ca (goodIn_r _ [9, 10, 11, 12, 13, 8, 14, 15, 16, 17, 18, 19, 20, 21, 22, 23, 24, 25, 26, 27, 28, 29, 55, 56, 57] (by decide +kernel) (by decide +kernel)) (goodIn_sub (fun _ h => List.mem_cons_of_mem _ (List.mem_append_right _ h)) (by decide +kernel))
set_option maxRecDepth 20000 in
theorem gX3_ratio_X0_entries : GoodIn wsX3_ratio (wsV RX3 159 RX0 yX0_entries wsX0_entries) := goodIn_app (goodIn_of _ (by decide +kernel)) ggX3_ratio_X0_entries
set_option maxRecDepth 20000 in
theorem ggX3_ratio_X0_entryBytes : GoodIn wsX3_ratio wsX0_entryBytes := goodIn_ca (goodIn_r _ [33, 10, 11, 12, 13, 8, 14, 15, 16, 17, 18, 19, 20, 21, 22, 23, 24, 25, 26, 27, 28, 29, 55, 56, 57] (by decide +kernel) (by decide +kernel)) (goodIn_sub (fun _ h => List.mem_cons_of_mem _ (List.mem_append_right _ h)) (by decide +kernel))
set_option maxRecDepth 20000 in
theorem gX3_ratio_X0_entryBytes : GoodIn wsX3_ratio (wsV RX3 162 RX0 yX0_entryBytes wsX0_entryBytes) := goodIn_app (goodIn_of _ (by decide +kernel)) ggX3_ratio_X0_entryBytes
set_option maxRecDepth 20000 in
theorem ggX3_ratio_X0_length : GoodIn wsX3_ratio wsX0_length := goodIn_ca (goodIn_r _ [37, 10, 15, 16, 17, 18, 19, 20, 21, 38, 39, 40, 8, 41, 26, 27, 28, 29, 42, 43, 44, 45, 46, 47, 48, 49, 55, 56, 57] (by decide +kernel) (by decide +kernel)) (goodIn_sub (fun _ h => List.mem_cons_of_mem _ (List.mem_append_right _ h)) (by decide +kernel))
set_option maxRecDepth 20000 in
theorem gX3_ratio_X0_length : GoodIn wsX3_ratio (wsV RX3 170 RX0 yX0_length wsX0_length) := goodIn_app (goodIn_of _ (by decide +kernel)) ggX3_ratio_X0_length
theorem dX3_ratio_0 : decode cX3_ratio 0 = .ok (.aload_n 0, 1) := by decide +kernel
theorem dX3_ratio_1 : decode cX3_ratio 1 = .ok (.getfield 28, 3) := by decide +kernel
theorem dX3_ratio_4 : decode cX3_ratio 4 = .ok (.ifCond .ne 6, 3) := by decide +kernel
theorem dX3_ratio_7 : decode cX3_ratio 7 = .ok (.bipush (-11), 2) := by decide +kernel
theorem dX3_ratio_9 : decode cX3_ratio 9 = .ok (.ireturn, 1) := by decide +kernel
theorem dX3_ratio_10 : decode cX3_ratio 10 = .ok (.iload_n 1, 1) := by decide +kernel
theorem dX3_ratio_11 : decode cX3_ratio 11 = .ok (.ifCond .eq 13, 3) := by decide +kernel
theorem dX3_ratio_14 : decode cX3_ratio 14 = .ok (.aload_n 0, 1) := by decide +kernel
theorem dX3_ratio_15 : decode cX3_ratio 15 = .ok (.getfield 24, 3) := by decide +kernel
theorem dX3_ratio_18 : decode cX3_ratio 18 = .ok (.invokevirtual 159, 3) := by decide +kernel
theorem dX3_ratio_21 : decode cX3_ratio 21 = .ok (.goto 10, 3) := by decide +kernel
theorem dX3_ratio_24 : decode cX3_ratio 24 = .ok (.aload_n 0, 1) := by decide +kernel
theorem dX3_ratio_25 : decode cX3_ratio 25 = .ok (.getfield 24, 3) := by decide +kernel
theorem dX3_ratio_28 : decode cX3_ratio 28 = .ok (.invokevirtual 162, 3) := by decide +kernel
theorem dX3_ratio_31 : decode cX3_ratio 31 = .ok (.istore_n 2, 1) := by decide +kernel
theorem dX3_ratio_32 : decode cX3_ratio 32 = .ok (.iload_n 2, 1) := by decide +kernel
theorem dX3_ratio_33 : decode cX3_ratio 33 = .ok (.ifCond .ne 13, 3) := by decide +kernel
theorem dX3_ratio_36 : decode cX3_ratio 36 = .ok (.new 165, 3) := by decide +kernel
theorem dX3_ratio_39 : decode cX3_ratio 39 = .ok (.dup, 1) := by decide +kernel
theorem dX3_ratio_40 : decode cX3_ratio 40 = .ok (.ldc 167, 2) := by decide +kernel
theorem dX3_ratio_42 : decode cX3_ratio 42 = .ok (.invokespecial 169, 3) := by decide +kernel
theorem dX3_ratio_45 : decode cX3_ratio 45 = .ok (.athrow, 1) := by decide +kernel
theorem dX3_ratio_46 : decode cX3_ratio 46 = .ok (.aload_n 0, 1) := by decide +kernel
theorem dX3_ratio_47 : decode cX3_ratio 47 = .ok (.getfield 24, 3) := by decide +kernel
theorem dX3_ratio_50 : decode cX3_ratio 50 = .ok (.invokevirtual 170, 3) := by decide +kernel
theorem dX3_ratio_53 : decode cX3_ratio 53 = .ok (.iload_n 2, 1) := by decide +kernel
theorem dX3_ratio_54 : decode cX3_ratio 54 = .ok (.idiv, 1) := by decide +kernel
theorem dX3_ratio_55 : decode cX3_ratio 55 = .ok (.ireturn, 1) := by decide +kernel
set_option maxRecDepth 20000 in
theorem ggX3_size_X2_count : GoodIn wsX3_size wsX2_count := goodIn_r _ [6, 7, 13, 14] (by decide +kernel) (by decide +kernel)
set_option maxRecDepth 20000 in
theorem gX3_size_X2_count : GoodIn wsX3_size (wsV RX3 54 RX2 yX2_count wsX2_count) := goodIn_app (goodIn_of _ (by decide +kernel)) ggX3_size_X2_count
theorem dX3_size_0 : decode cX3_size 0 = .ok (.aload_n 0, 1) := by decide +kernel
theorem dX3_size_1 : decode cX3_size 1 = .ok (.getfield 10, 3) := by decide +kernel
theorem dX3_size_4 : decode cX3_size 4 = .ok (.invokevirtual 54, 3) := by decide +kernel
theorem dX3_size_7 : decode cX3_size 7 = .ok (.ireturn, 1) := by decide +kernel
theorem dX3_isByte_0 : decode cX3_isByte 0 = .ok (.iload_n 0, 1) := by decide +kernel
theorem dX3_isByte_1 : decode cX3_isByte 1 = .ok (.ifCond .lt 14, 3) := by decide +kernel
theorem dX3_isByte_4 : decode cX3_isByte 4 = .ok (.iload_n 0, 1) := by decide +kernel
theorem dX3_isByte_5 : decode cX3_isByte 5 = .ok (.sipush 255, 3) := by decide +kernel
theorem dX3_isByte_8 : decode cX3_isByte 8 = .ok (.if_icmp .gt 7, 3) := by decide +kernel
theorem dX3_isByte_11 : decode cX3_isByte 11 = .ok (.iconst 1, 1) := by decide +kernel
theorem dX3_isByte_12 : decode cX3_isByte 12 = .ok (.goto 4, 3) := by decide +kernel
theorem dX3_isByte_15 : decode cX3_isByte 15 = .ok (.iconst 0, 1) := by decide +kernel
theorem dX3_isByte_16 : decode cX3_isByte 16 = .ok (.ireturn, 1) := by decide +kernel
theorem dX3_isTwo_0 : decode cX3_isTwo 0 = .ok (.iload_n 0, 1) := by decide +kernel
theorem dX3_isTwo_1 : decode cX3_isTwo 1 = .ok (.ifCond .lt 13, 3) := by decide +kernel
theorem dX3_isTwo_4 : decode cX3_isTwo 4 = .ok (.iload_n 0, 1) := by decide +kernel
theorem dX3_isTwo_5 : decode cX3_isTwo 5 = .ok (.ldc 173, 2) := by decide +kernel
theorem dX3_isTwo_7 : decode cX3_isTwo 7 = .ok (.if_icmp .gt 7, 3) := by decide +kernel
theorem dX3_isTwo_10 : decode cX3_isTwo 10 = .ok (.iconst 1, 1) := by decide +kernel
theorem dX3_isTwo_11 : decode cX3_isTwo 11 = .ok (.goto 4, 3) := by decide +kernel
theorem dX3_isTwo_14 : decode cX3_isTwo 14 = .ok (.iconst 0, 1) := by decide +kernel
theorem dX3_isTwo_15 : decode cX3_isTwo 15 = .ok (.ireturn, 1) := by decide +kernel
set_option maxRecDepth 20000 in
theorem ggX3_append_X2_room : GoodIn wsX3_append wsX2_room := goodIn_r _ [7, 8, 23, 24] (by decide +kernel) (by decide +kernel)
set_option maxRecDepth 20000 in
theorem gX3_append_X2_room : GoodIn wsX3_append (wsV RX3 44 RX2 yX2_room wsX2_room) := goodIn_app (goodIn_of _ (by decide +kernel)) ggX3_append_X2_room
set_option maxRecDepth 20000 in
theorem ggX3_append_X2_add : GoodIn wsX3_append wsX2_add := goodIn_ca (goodIn_r _ [12, 8, 13, 23, 24] (by decide +kernel) (by decide +kernel)) (goodIn_sub (fun _ h => List.mem_cons_of_mem _ (List.mem_append_right _ h)) (by decide +kernel))
set_option maxRecDepth 20000 in
theorem gX3_append_X2_add : GoodIn wsX3_append (wsV RX3 50 RX2 yX2_add wsX2_add) := goodIn_app (goodIn_of _ (by decide +kernel)) ggX3_append_X2_add
set_option maxRecDepth 20000 in
theorem ggX3_append_X2_count : GoodIn wsX3_append wsX2_count := goodIn_r _ [17, 8, 23, 24] (by decide +kernel) (by decide +kernel)
set_option maxRecDepth 20000 in
theorem gX3_append_X2_count : GoodIn wsX3_append (wsV RX3 54 RX2 yX2_count wsX2_count) := goodIn_app (goodIn_of _ (by decide +kernel)) ggX3_append_X2_count
theorem dX3_append_0 : decode cX3_append 0 = .ok (.iload_n 1, 1) := by decide +kernel
theorem dX3_append_1 : decode cX3_append 1 = .ok (.aload_n 0, 1) := by decide +kernel
theorem dX3_append_2 : decode cX3_append 2 = .ok (.getfield 10, 3) := by decide +kernel
theorem dX3_append_5 : decode cX3_append 5 = .ok (.invokevirtual 44, 3) := by decide +kernel
theorem dX3_append_8 : decode cX3_append 8 = .ok (.if_icmp .le 6, 3) := by decide +kernel
theorem dX3_append_11 : decode cX3_append 11 = .ok (.bipush (-14), 2) := by decide +kernel
theorem dX3_append_13 : decode cX3_append 13 = .ok (.ireturn, 1) := by decide +kernel
theorem dX3_append_14 : decode cX3_append 14 = .ok (.iconst 0, 1) := by decide +kernel
theorem dX3_append_15 : decode cX3_append 15 = .ok (.istore_n 3, 1) := by decide +kernel
theorem dX3_append_16 : decode cX3_append 16 = .ok (.iload_n 3, 1) := by decide +kernel
theorem dX3_append_17 : decode cX3_append 17 = .ok (.iload_n 1, 1) := by decide +kernel
theorem dX3_append_18 : decode cX3_append 18 = .ok (.if_icmp .ge 17, 3) := by decide +kernel
theorem dX3_append_21 : decode cX3_append 21 = .ok (.aload_n 0, 1) := by decide +kernel
theorem dX3_append_22 : decode cX3_append 22 = .ok (.getfield 10, 3) := by decide +kernel
theorem dX3_append_25 : decode cX3_append 25 = .ok (.iload_n 2, 1) := by decide +kernel
theorem dX3_append_26 : decode cX3_append 26 = .ok (.invokevirtual 50, 3) := by decide +kernel
theorem dX3_append_29 : decode cX3_append 29 = .ok (.iinc 3 1, 3) := by decide +kernel
theorem dX3_append_32 : decode cX3_append 32 = .ok (.goto (-16), 3) := by decide +kernel
theorem dX3_append_35 : decode cX3_append 35 = .ok (.aload_n 0, 1) := by decide +kernel
theorem dX3_append_36 : decode cX3_append 36 = .ok (.iconst 0, 1) := by decide +kernel
theorem dX3_append_37 : decode cX3_append 37 = .ok (.putfield 28, 3) := by decide +kernel
theorem dX3_append_40 : decode cX3_append 40 = .ok (.aload_n 0, 1) := by decide +kernel
theorem dX3_append_41 : decode cX3_append 41 = .ok (.getfield 10, 3) := by decide +kernel
theorem dX3_append_44 : decode cX3_append 44 = .ok (.invokevirtual 54, 3) := by decide +kernel
theorem dX3_append_47 : decode cX3_append 47 = .ok (.ireturn, 1) := by decide +kernel
set_option maxRecDepth 20000 in
theorem ggX3_sumAsRead_X0_length : GoodIn wsX3_sumAsRead wsX0_length := goodIn_ca (goodIn_r _ [8, 9, 10, 11, 12, 13, 14, 15, 16, 17, 18, 19, 7, 20, 21, 22, 23, 24, 25, 26, 27, 28, 29, 30, 31, 32, 39, 40, 41] (by decide +kernel) (by decide +kernel)) (goodIn_sub (fun _ h => List.mem_cons_of_mem _ (List.mem_append_right _ h)) (by decide +kernel))
set_option maxRecDepth 20000 in
theorem gX3_sumAsRead_X0_length : GoodIn wsX3_sumAsRead (wsV RX3 170 RX0 yX0_length wsX0_length) := goodIn_app (goodIn_of _ (by decide +kernel)) ggX3_sumAsRead_X0_length
set_option maxRecDepth 20000 in
theorem ggX3_sumAsRead_X2_at : GoodIn wsX3_sumAsRead wsX2_at := goodIn_ca (goodIn_r _ [24, 15, 16, 40, 41] (by decide +kernel) (by decide +kernel)) (goodIn_sub (fun _ h => List.mem_cons_of_mem _ (List.mem_append_right _ h)) (by decide +kernel))
set_option maxRecDepth 20000 in
theorem gX3_sumAsRead_X2_at : GoodIn wsX3_sumAsRead (wsV RX3 60 RX2 yX2_at wsX2_at) := goodIn_app (goodIn_of _ (by decide +kernel)) ggX3_sumAsRead_X2_at
theorem dX3_sumAsRead_0 : decode cX3_sumAsRead 0 = .ok (.iconst 0, 1) := by decide +kernel
theorem dX3_sumAsRead_1 : decode cX3_sumAsRead 1 = .ok (.istore_n 1, 1) := by decide +kernel
theorem dX3_sumAsRead_2 : decode cX3_sumAsRead 2 = .ok (.aload_n 0, 1) := by decide +kernel
theorem dX3_sumAsRead_3 : decode cX3_sumAsRead 3 = .ok (.getfield 24, 3) := by decide +kernel
theorem dX3_sumAsRead_6 : decode cX3_sumAsRead 6 = .ok (.invokevirtual 170, 3) := by decide +kernel
theorem dX3_sumAsRead_9 : decode cX3_sumAsRead 9 = .ok (.istore_n 2, 1) := by decide +kernel
theorem dX3_sumAsRead_10 : decode cX3_sumAsRead 10 = .ok (.bipush 64, 2) := by decide +kernel
theorem dX3_sumAsRead_12 : decode cX3_sumAsRead 12 = .ok (.istore_n 3, 1) := by decide +kernel
theorem dX3_sumAsRead_13 : decode cX3_sumAsRead 13 = .ok (.iload_n 3, 1) := by decide +kernel
theorem dX3_sumAsRead_14 : decode cX3_sumAsRead 14 = .ok (.iload_n 2, 1) := by decide +kernel
theorem dX3_sumAsRead_15 : decode cX3_sumAsRead 15 = .ok (.if_icmp .ge 20, 3) := by decide +kernel
theorem dX3_sumAsRead_18 : decode cX3_sumAsRead 18 = .ok (.iload_n 1, 1) := by decide +kernel
theorem dX3_sumAsRead_19 : decode cX3_sumAsRead 19 = .ok (.aload_n 0, 1) := by decide +kernel
theorem dX3_sumAsRead_20 : decode cX3_sumAsRead 20 = .ok (.getfield 10, 3) := by decide +kernel
theorem dX3_sumAsRead_23 : decode cX3_sumAsRead 23 = .ok (.iload_n 3, 1) := by decide +kernel
theorem dX3_sumAsRead_24 : decode cX3_sumAsRead 24 = .ok (.invokevirtual 60, 3) := by decide +kernel
theorem dX3_sumAsRead_27 : decode cX3_sumAsRead 27 = .ok (.iadd, 1) := by decide +kernel
theorem dX3_sumAsRead_28 : decode cX3_sumAsRead 28 = .ok (.istore_n 1, 1) := by decide +kernel
theorem dX3_sumAsRead_29 : decode cX3_sumAsRead 29 = .ok (.iinc 3 1, 3) := by decide +kernel
theorem dX3_sumAsRead_32 : decode cX3_sumAsRead 32 = .ok (.goto (-19), 3) := by decide +kernel
theorem dX3_sumAsRead_35 : decode cX3_sumAsRead 35 = .ok (.iload_n 1, 1) := by decide +kernel
theorem dX3_sumAsRead_36 : decode cX3_sumAsRead 36 = .ok (.ldc 173, 2) := by decide +kernel
theorem dX3_sumAsRead_38 : decode cX3_sumAsRead 38 = .ok (.iand, 1) := by decide +kernel
theorem dX3_sumAsRead_39 : decode cX3_sumAsRead 39 = .ok (.ireturn, 1) := by decide +kernel
set_option maxRecDepth 20000 in
theorem ggX3_flagBit_X2_at : GoodIn wsX3_flagBit wsX2_at := goodIn_ca (goodIn_r _ [6, 7, 8, 18, 19] (by decide +kernel) (by decide +kernel)) (goodIn_sub (fun _ h => List.mem_cons_of_mem _ (List.mem_append_right _ h)) (by decide +kernel))
set_option maxRecDepth 20000 in
theorem gX3_flagBit_X2_at : GoodIn wsX3_flagBit (wsV RX3 60 RX2 yX2_at wsX2_at) := goodIn_app (goodIn_of _ (by decide +kernel)) ggX3_flagBit_X2_at
set_option maxRecDepth 20000 in
theorem ggX3_flagBit_X2_two : GoodIn wsX3_flagBit wsX2_two := goodIn_ca (goodIn_r _ [12, 7, 8, 18, 19] (by decide +kernel) (by decide +kernel)) (goodIn_sub (fun _ h => List.mem_cons_of_mem _ (List.mem_append_right _ h)) (by decide +kernel))
set_option maxRecDepth 20000 in
theorem gX3_flagBit_X2_two : GoodIn wsX3_flagBit (wsV RX3 98 RX2 yX2_two wsX2_two) := goodIn_app (goodIn_of _ (by decide +kernel)) ggX3_flagBit_X2_two
theorem dX3_flagBit_0 : decode cX3_flagBit 0 = .ok (.iload_n 1, 1) := by decide +kernel
theorem dX3_flagBit_1 : decode cX3_flagBit 1 = .ok (.iconst 1, 1) := by decide +kernel
theorem dX3_flagBit_2 : decode cX3_flagBit 2 = .ok (.if_icmp .ne 14, 3) := by decide +kernel
theorem dX3_flagBit_5 : decode cX3_flagBit 5 = .ok (.aload_n 0, 1) := by decide +kernel
theorem dX3_flagBit_6 : decode cX3_flagBit 6 = .ok (.getfield 16, 3) := by decide +kernel
theorem dX3_flagBit_9 : decode cX3_flagBit 9 = .ok (.iconst 1, 1) := by decide +kernel
theorem dX3_flagBit_10 : decode cX3_flagBit 10 = .ok (.invokevirtual 60, 3) := by decide +kernel
theorem dX3_flagBit_13 : decode cX3_flagBit 13 = .ok (.goto 12, 3) := by decide +kernel
theorem dX3_flagBit_16 : decode cX3_flagBit 16 = .ok (.aload_n 0, 1) := by decide +kernel
theorem dX3_flagBit_17 : decode cX3_flagBit 17 = .ok (.getfield 16, 3) := by decide +kernel
theorem dX3_flagBit_20 : decode cX3_flagBit 20 = .ok (.bipush 16, 2) := by decide +kernel
theorem dX3_flagBit_22 : decode cX3_flagBit 22 = .ok (.invokevirtual 98, 3) := by decide +kernel
theorem dX3_flagBit_25 : decode cX3_flagBit 25 = .ok (.istore_n 3, 1) := by decide +kernel
theorem dX3_flagBit_26 : decode cX3_flagBit 26 = .ok (.iload_n 3, 1) := by decide +kernel
theorem dX3_flagBit_27 : decode cX3_flagBit 27 = .ok (.iload_n 2, 1) := by decide +kernel
theorem dX3_flagBit_28 : decode cX3_flagBit 28 = .ok (.ishr, 1) := by decide +kernel
theorem dX3_flagBit_29 : decode cX3_flagBit 29 = .ok (.iconst 1, 1) := by decide +kernel
theorem dX3_flagBit_30 : decode cX3_flagBit 30 = .ok (.iand, 1) := by decide +kernel
theorem dX3_flagBit_31 : decode cX3_flagBit 31 = .ok (.ireturn, 1) := by decide +kernel
set_option maxRecDepth 20000 in
theorem ggX3_switchFlag_X2_at : GoodIn wsX3_switchFlag wsX2_at := goodIn_ca (goodIn_r _ [6, 7, 8, 31, 32] (by decide +kernel) (by decide +kernel)) (goodIn_sub (fun _ h => List.mem_cons_of_mem _ (List.mem_append_right _ h)) (by decide +kernel))
set_option maxRecDepth 20000 in
theorem gX3_switchFlag_X2_at : GoodIn wsX3_switchFlag (wsV RX3 60 RX2 yX2_at wsX2_at) := goodIn_app (goodIn_of _ (by decide +kernel)) ggX3_switchFlag_X2_at
set_option maxRecDepth 20000 in
theorem ggX3_switchFlag_X2_two : GoodIn wsX3_switchFlag wsX2_two := goodIn_ca (goodIn_r _ [12, 7, 8, 31, 32] (by decide +kernel) (by decide +kernel)) (goodIn_sub (fun _ h => List.mem_cons_of_mem _ (List.mem_append_right _ h)) (by decide +kernel))
set_option maxRecDepth 20000 in
theorem gX3_switchFlag_X2_two : GoodIn wsX3_switchFlag (wsV RX3 98 RX2 yX2_two wsX2_two) := goodIn_app (goodIn_of _ (by decide +kernel)) ggX3_switchFlag_X2_two
set_option maxRecDepth 20000 in
theorem ggX3_switchFlag_X2_put : GoodIn wsX3_switchFlag wsX2_put := goodIn_ca (goodIn_r _ [16, 8, 17, 18, 19, 5, 20, 7, 31, 32] (by decide +kernel) (by decide +kernel)) (goodIn_sub (fun _ h => List.mem_cons_of_mem _ (List.mem_append_right _ h)) (by decide +kernel))
set_option maxRecDepth 20000 in
theorem gX3_switchFlag_X2_put : GoodIn wsX3_switchFlag (wsV RX3 64 RX2 yX2_put wsX2_put) := goodIn_app (goodIn_of _ (by decide +kernel)) ggX3_switchFlag_X2_put
set_option maxRecDepth 20000 in
theorem ggX3_switchFlag_X2_putTwo : GoodIn wsX3_switchFlag wsX2_putTwo := goodIn_ca (goodIn_r _ [24, 25, 14, 15, 5, 16, 8, 17, 18, 19, 20, 7, 31, 32] (by decide +kernel) (by decide +kernel)) (goodIn_sub (fun _ h => List.mem_cons_of_mem _ (List.mem_append_right _ h)) (by decide +kernel))
set_option maxRecDepth 20000 in
theorem gX3_switchFlag_X2_putTwo : GoodIn wsX3_switchFlag (wsV RX3 148 RX2 yX2_putTwo wsX2_putTwo) := goodIn_app (goodIn_of _ (by decide +kernel)) ggX3_switchFlag_X2_putTwo
theorem dX3_switchFlag_0 : decode cX3_switchFlag 0 = .ok (.iload_n 1, 1) := by decide +kernel
theorem dX3_switchFlag_1 : decode cX3_switchFlag 1 = .ok (.iconst 1, 1) := by decide +kernel
theorem dX3_switchFlag_2 : decode cX3_switchFlag 2 = .ok (.if_icmp .ne 14, 3) := by decide +kernel
theorem dX3_switchFlag_5 : decode cX3_switchFlag 5 = .ok (.aload_n 0, 1) := by decide +kernel
theorem dX3_switchFlag_6 : decode cX3_switchFlag 6 = .ok (.getfield 16, 3) := by decide +kernel
theorem dX3_switchFlag_9 : decode cX3_switchFlag 9 = .ok (.iconst 1, 1) := by decide +kernel
theorem dX3_switchFlag_10 : decode cX3_switchFlag 10 = .ok (.invokevirtual 60, 3) := by decide +kernel
theorem dX3_switchFlag_13 : decode cX3_switchFlag 13 = .ok (.goto 12, 3) := by decide +kernel
theorem dX3_switchFlag_16 : decode cX3_switchFlag 16 = .ok (.aload_n 0, 1) := by decide +kernel
theorem dX3_switchFlag_17 : decode cX3_switchFlag 17 = .ok (.getfield 16, 3) := by decide +kernel
theorem dX3_switchFlag_20 : decode cX3_switchFlag 20 = .ok (.bipush 16, 2) := by decide +kernel
theorem dX3_switchFlag_22 : decode cX3_switchFlag 22 = .ok (.invokevirtual 98, 3) := by decide +kernel
theorem dX3_switchFlag_25 : decode cX3_switchFlag 25 = .ok (.istore 4, 2) := by decide +kernel
theorem dX3_switchFlag_27 : decode cX3_switchFlag 27 = .ok (.iload_n 3, 1) := by decide +kernel
theorem dX3_switchFlag_28 : decode cX3_switchFlag 28 = .ok (.ifCond .eq 12, 3) := by decide +kernel
theorem dX3_switchFlag_31 : decode cX3_switchFlag 31 = .ok (.iload 4, 2) := by decide +kernel
theorem dX3_switchFlag_33 : decode cX3_switchFlag 33 = .ok (.iconst 1, 1) := by decide +kernel
theorem dX3_switchFlag_34 : decode cX3_switchFlag 34 = .ok (.iload_n 2, 1) := by decide +kernel
theorem dX3_switchFlag_35 : decode cX3_switchFlag 35 = .ok (.ishl, 1) := by decide +kernel
theorem dX3_switchFlag_36 : decode cX3_switchFlag 36 = .ok (.ior, 1) := by decide +kernel
theorem dX3_switchFlag_37 : decode cX3_switchFlag 37 = .ok (.goto 11, 3) := by decide +kernel
theorem dX3_switchFlag_40 : decode cX3_switchFlag 40 = .ok (.iload 4, 2) := by decide +kernel
theorem dX3_switchFlag_42 : decode cX3_switchFlag 42 = .ok (.iconst 1, 1) := by decide +kernel
theorem dX3_switchFlag_43 : decode cX3_switchFlag 43 = .ok (.iload_n 2, 1) := by decide +kernel
theorem dX3_switchFlag_44 : decode cX3_switchFlag 44 = .ok (.ishl, 1) := by decide +kernel
theorem dX3_switchFlag_45 : decode cX3_switchFlag 45 = .ok (.iconst (-1), 1) := by decide +kernel
theorem dX3_switchFlag_46 : decode cX3_switchFlag 46 = .ok (.ixor, 1) := by decide +kernel
theorem dX3_switchFlag_47 : decode cX3_switchFlag 47 = .ok (.iand, 1) := by decide +kernel
theorem dX3_switchFlag_48 : decode cX3_switchFlag 48 = .ok (.istore 5, 2) := by decide +kernel
theorem dX3_switchFlag_50 : decode cX3_switchFlag 50 = .ok (.iload_n 1, 1) := by decide +kernel
theorem dX3_switchFlag_51 : decode cX3_switchFlag 51 = .ok (.iconst 1, 1) := by decide +kernel
theorem dX3_switchFlag_52 : decode cX3_switchFlag 52 = .ok (.if_icmp .ne 16, 3) := by decide +kernel
theorem dX3_switchFlag_55 : decode cX3_switchFlag 55 = .ok (.aload_n 0, 1) := by decide +kernel
theorem dX3_switchFlag_56 : decode cX3_switchFlag 56 = .ok (.getfield 16, 3) := by decide +kernel
theorem dX3_switchFlag_59 : decode cX3_switchFlag 59 = .ok (.iconst 1, 1) := by decide +kernel
theorem dX3_switchFlag_60 : decode cX3_switchFlag 60 = .ok (.iload 5, 2) := by decide +kernel
theorem dX3_switchFlag_62 : decode cX3_switchFlag 62 = .ok (.invokevirtual 64, 3) := by decide +kernel
theorem dX3_switchFlag_65 : decode cX3_switchFlag 65 = .ok (.goto 14, 3) := by decide +kernel
theorem dX3_switchFlag_68 : decode cX3_switchFlag 68 = .ok (.aload_n 0, 1) := by decide +kernel
theorem dX3_switchFlag_69 : decode cX3_switchFlag 69 = .ok (.getfield 16, 3) := by decide +kernel
theorem dX3_switchFlag_72 : decode cX3_switchFlag 72 = .ok (.bipush 16, 2) := by decide +kernel
theorem dX3_switchFlag_74 : decode cX3_switchFlag 74 = .ok (.iload 5, 2) := by decide +kernel
theorem dX3_switchFlag_76 : decode cX3_switchFlag 76 = .ok (.invokevirtual 148, 3) := by decide +kernel
theorem dX3_switchFlag_79 : decode cX3_switchFlag 79 = .ok (.return_, 1) := by decide +kernel
end
section
theorem dX4_init_0 : decode cX4_init 0 = .ok (.aload_n 0, 1) := by decide +kernel
theorem dX4_init_1 : decode cX4_init 1 = .ok (.invokespecial 1, 3) := by decide +kernel
theorem dX4_init_4 : decode cX4_init 4 = .ok (.aload_n 0, 1) := by decide +kernel
theorem dX4_init_5 : decode cX4_init 5 = .ok (.sipush 600, 3) := by decide +kernel
theorem dX4_init_8 : decode cX4_init 8 = .ok (.newarray .int, 2) := by decide +kernel
theorem dX4_init_10 : decode cX4_init 10 = .ok (.putfield 7, 3) := by decide +kernel
theorem dX4_init_13 : decode cX4_init 13 = .ok (.aload_n 0, 1) := by decide +kernel
theorem dX4_init_14 : decode cX4_init 14 = .ok (.sipush 600, 3) := by decide +kernel
theorem dX4_init_17 : decode cX4_init 17 = .ok (.newarray .int, 2) := by decide +kernel
theorem dX4_init_19 : decode cX4_init 19 = .ok (.putfield 13, 3) := by decide +kernel
theorem dX4_init_22 : decode cX4_init 22 = .ok (.aload_n 0, 1) := by decide +kernel
theorem dX4_init_23 : decode cX4_init 23 = .ok (.sipush 600, 3) := by decide +kernel
theorem dX4_init_26 : decode cX4_init 26 = .ok (.newarray .int, 2) := by decide +kernel
theorem dX4_init_28 : decode cX4_init 28 = .ok (.putfield 16, 3) := by decide +kernel
theorem dX4_init_31 : decode cX4_init 31 = .ok (.return_, 1) := by decide +kernel
theorem dX4_thrown_0 : decode cX4_thrown 0 = .ok (.aload_n 0, 1) := by decide +kernel
theorem dX4_thrown_1 : decode cX4_thrown 1 = .ok (.getfield 19, 3) := by decide +kernel
theorem dX4_thrown_4 : decode cX4_thrown 4 = .ok (.ireturn, 1) := by decide +kernel
theorem dX4_in_0 : decode cX4_in 0 = .ok (.iload_n 0, 1) := by decide +kernel
theorem dX4_in_1 : decode cX4_in 1 = .ok (.iload_n 1, 1) := by decide +kernel
theorem dX4_in_2 : decode cX4_in 2 = .ok (.if_icmp .lt 12, 3) := by decide +kernel
theorem dX4_in_5 : decode cX4_in 5 = .ok (.iload_n 0, 1) := by decide +kernel
theorem dX4_in_6 : decode cX4_in 6 = .ok (.iload_n 2, 1) := by decide +kernel
theorem dX4_in_7 : decode cX4_in 7 = .ok (.if_icmp .gt 7, 3) := by decide +kernel
theorem dX4_in_10 : decode cX4_in 10 = .ok (.iconst 1, 1) := by decide +kernel
theorem dX4_in_11 : decode cX4_in 11 = .ok (.goto 4, 3) := by decide +kernel
theorem dX4_in_14 : decode cX4_in 14 = .ok (.iconst 0, 1) := by decide +kernel
theorem dX4_in_15 : decode cX4_in 15 = .ok (.ireturn, 1) := by decide +kernel
set_option maxRecDepth 20000 in
theorem ggX4_octet_X4_fill : GoodIn wsX4_octet wsX4_fill := goodIn_ca (goodIn_r _ [5, 6, 7, 8, 9, 10, 11, 4, 12, 13, 14, 15, 16, 17, 18, 19, 20, 21] (by decide +kernel) (by decide +kernel)) (goodIn_sub (fun _ h => List.mem_cons_of_mem _ (List.mem_append_right _ h)) (by decide +kernel))
set_option maxRecDepth 20000 in
theorem gX4_octet_X4_fill : GoodIn wsX4_octet (wsV RX4 23 RX4 yX4_fill wsX4_fill) := goodIn_app (goodIn_of _ (by decide +kernel)) ggX4_octet_X4_fill
theorem dX4_octet_0 : decode cX4_octet 0 = .ok (.aload_n 0, 1) := by decide +kernel
theorem dX4_octet_1 : decode cX4_octet 1 = .ok (.iconst 1, 1) := by decide +kernel
theorem dX4_octet_2 : decode cX4_octet 2 = .ok (.iload_n 1, 1) := by decide +kernel
theorem dX4_octet_3 : decode cX4_octet 3 = .ok (.invokevirtual 23, 3) := by decide +kernel
theorem dX4_octet_6 : decode cX4_octet 6 = .ok (.ireturn, 1) := by decide +kernel
set_option maxRecDepth 20000 in
theorem ggX4_feed_X4_in : GoodIn wsX4_feed wsX4_in := goodIn_r _ [9] (by decide +kernel) (by decide +kernel)
set_option maxRecDepth 20000 in
theorem gX4_feed_X4_in : GoodIn wsX4_feed (va_wsS RX4 27 yX4_in wsX4_in) := goodIn_app (goodIn_of _ (by decide +kernel)) ggX4_feed_X4_in
theorem dX4_feed_0 : decode cX4_feed 0 = .ok (.aload_n 0, 1) := by decide +kernel
theorem dX4_feed_1 : decode cX4_feed 1 = .ok (.iconst 0, 1) := by decide +kernel
theorem dX4_feed_2 : decode cX4_feed 2 = .ok (.putfield 19, 3) := by decide +kernel
theorem dX4_feed_5 : decode cX4_feed 5 = .ok (.iload_n 3, 1) := by decide +kernel
theorem dX4_feed_6 : decode cX4_feed 6 = .ok (.iconst 1, 1) := by decide +kernel
theorem dX4_feed_7 : decode cX4_feed 7 = .ok (.bipush 8, 2) := by decide +kernel
theorem dX4_feed_9 : decode cX4_feed 9 = .ok (.invokestatic 27, 3) := by decide +kernel
theorem dX4_feed_12 : decode cX4_feed 12 = .ok (.ifCond .ne 6, 3) := by decide +kernel
theorem dX4_feed_15 : decode cX4_feed 15 = .ok (.bipush (-12), 2) := by decide +kernel
theorem dX4_feed_17 : decode cX4_feed 17 = .ok (.ireturn, 1) := by decide +kernel
theorem dX4_feed_18 : decode cX4_feed 18 = .ok (.aload_n 0, 1) := by decide +kernel
theorem dX4_feed_19 : decode cX4_feed 19 = .ok (.getfield 31, 3) := by decide +kernel
theorem dX4_feed_22 : decode cX4_feed 22 = .ok (.iload_n 3, 1) := by decide +kernel
theorem dX4_feed_23 : decode cX4_feed 23 = .ok (.iadd, 1) := by decide +kernel
theorem dX4_feed_24 : decode cX4_feed 24 = .ok (.sipush 600, 3) := by decide +kernel
theorem dX4_feed_27 : decode cX4_feed 27 = .ok (.if_icmp .le 6, 3) := by decide +kernel
theorem dX4_feed_30 : decode cX4_feed 30 = .ok (.bipush (-14), 2) := by decide +kernel
theorem dX4_feed_32 : decode cX4_feed 32 = .ok (.ireturn, 1) := by decide +kernel
theorem dX4_feed_33 : decode cX4_feed 33 = .ok (.iload_n 3, 1) := by decide +kernel
theorem dX4_feed_34 : decode cX4_feed 34 = .ok (.iconst 1, 1) := by decide +kernel
theorem dX4_feed_35 : decode cX4_feed 35 = .ok (.isub, 1) := by decide +kernel
theorem dX4_feed_36 : decode cX4_feed 36 = .ok (.istore 4, 2) := by decide +kernel
theorem dX4_feed_38 : decode cX4_feed 38 = .ok (.iload 4, 2) := by decide +kernel
theorem dX4_feed_40 : decode cX4_feed 40 = .ok (.ifCond .lt 40, 3) := by decide +kernel
theorem dX4_feed_43 : decode cX4_feed 43 = .ok (.aload_n 0, 1) := by decide +kernel
theorem dX4_feed_44 : decode cX4_feed 44 = .ok (.getfield 7, 3) := by decide +kernel
theorem dX4_feed_47 : decode cX4_feed 47 = .ok (.aload_n 0, 1) := by decide +kernel
theorem dX4_feed_48 : decode cX4_feed 48 = .ok (.getfield 31, 3) := by decide +kernel
theorem dX4_feed_51 : decode cX4_feed 51 = .ok (.lload_n 1, 1) := by decide +kernel
theorem dX4_feed_52 : decode cX4_feed 52 = .ok (.bipush 8, 2) := by decide +kernel
theorem dX4_feed_54 : decode cX4_feed 54 = .ok (.iload 4, 2) := by decide +kernel
theorem dX4_feed_56 : decode cX4_feed 56 = .ok (.imul, 1) := by decide +kernel
theorem dX4_feed_57 : decode cX4_feed 57 = .ok (.lshr, 1) := by decide +kernel
theorem dX4_feed_58 : decode cX4_feed 58 = .ok (.ldc2_w 34, 3) := by decide +kernel
theorem dX4_feed_61 : decode cX4_feed 61 = .ok (.land, 1) := by decide +kernel
theorem dX4_feed_62 : decode cX4_feed 62 = .ok (.l2i, 1) := by decide +kernel
theorem dX4_feed_63 : decode cX4_feed 63 = .ok (.iastore, 1) := by decide +kernel
theorem dX4_feed_64 : decode cX4_feed 64 = .ok (.aload_n 0, 1) := by decide +kernel
theorem dX4_feed_65 : decode cX4_feed 65 = .ok (.dup, 1) := by decide +kernel
theorem dX4_feed_66 : decode cX4_feed 66 = .ok (.getfield 31, 3) := by decide +kernel
theorem dX4_feed_69 : decode cX4_feed 69 = .ok (.iconst 1, 1) := by decide +kernel
theorem dX4_feed_70 : decode cX4_feed 70 = .ok (.iadd, 1) := by decide +kernel
theorem dX4_feed_71 : decode cX4_feed 71 = .ok (.putfield 31, 3) := by decide +kernel
theorem dX4_feed_74 : decode cX4_feed 74 = .ok (.iinc 4 (-1), 3) := by decide +kernel
theorem dX4_feed_77 : decode cX4_feed 77 = .ok (.goto (-39), 3) := by decide +kernel
theorem dX4_feed_80 : decode cX4_feed 80 = .ok (.aload_n 0, 1) := by decide +kernel
theorem dX4_feed_81 : decode cX4_feed 81 = .ok (.iconst 0, 1) := by decide +kernel
theorem dX4_feed_82 : decode cX4_feed 82 = .ok (.putfield 36, 3) := by decide +kernel
theorem dX4_feed_85 : decode cX4_feed 85 = .ok (.aload_n 0, 1) := by decide +kernel
theorem dX4_feed_86 : decode cX4_feed 86 = .ok (.getfield 31, 3) := by decide +kernel
theorem dX4_feed_89 : decode cX4_feed 89 = .ok (.ireturn, 1) := by decide +kernel
set_option maxRecDepth 20000 in
theorem ggX4_fill_X4_in : GoodIn wsX4_fill wsX4_in := goodIn_r _ [8] (by decide +kernel) (by decide +kernel)
set_option maxRecDepth 20000 in
theorem gX4_fill_X4_in : GoodIn wsX4_fill (va_wsS RX4 27 yX4_in wsX4_in) := goodIn_app (goodIn_of _ (by decide +kernel)) ggX4_fill_X4_in
theorem dX4_fill_0 : decode cX4_fill 0 = .ok (.aload_n 0, 1) := by decide +kernel
theorem dX4_fill_1 : decode cX4_fill 1 = .ok (.iconst 0, 1) := by decide +kernel
theorem dX4_fill_2 : decode cX4_fill 2 = .ok (.putfield 19, 3) := by decide +kernel
theorem dX4_fill_5 : decode cX4_fill 5 = .ok (.iload_n 1, 1) := by decide +kernel
theorem dX4_fill_6 : decode cX4_fill 6 = .ok (.iconst 1, 1) := by decide +kernel
theorem dX4_fill_7 : decode cX4_fill 7 = .ok (.sipush 600, 3) := by decide +kernel
theorem dX4_fill_10 : decode cX4_fill 10 = .ok (.invokestatic 27, 3) := by decide +kernel
theorem dX4_fill_13 : decode cX4_fill 13 = .ok (.ifCond .eq 14, 3) := by decide +kernel
theorem dX4_fill_16 : decode cX4_fill 16 = .ok (.iload_n 2, 1) := by decide +kernel
theorem dX4_fill_17 : decode cX4_fill 17 = .ok (.iconst 0, 1) := by decide +kernel
theorem dX4_fill_18 : decode cX4_fill 18 = .ok (.sipush 255, 3) := by decide +kernel
theorem dX4_fill_21 : decode cX4_fill 21 = .ok (.invokestatic 27, 3) := by decide +kernel
theorem dX4_fill_24 : decode cX4_fill 24 = .ok (.ifCond .ne 6, 3) := by decide +kernel
theorem dX4_fill_27 : decode cX4_fill 27 = .ok (.bipush (-12), 2) := by decide +kernel
theorem dX4_fill_29 : decode cX4_fill 29 = .ok (.ireturn, 1) := by decide +kernel
theorem dX4_fill_30 : decode cX4_fill 30 = .ok (.aload_n 0, 1) := by decide +kernel
theorem dX4_fill_31 : decode cX4_fill 31 = .ok (.getfield 31, 3) := by decide +kernel
theorem dX4_fill_34 : decode cX4_fill 34 = .ok (.iload_n 1, 1) := by decide +kernel
theorem dX4_fill_35 : decode cX4_fill 35 = .ok (.iadd, 1) := by decide +kernel
theorem dX4_fill_36 : decode cX4_fill 36 = .ok (.sipush 600, 3) := by decide +kernel
theorem dX4_fill_39 : decode cX4_fill 39 = .ok (.if_icmp .le 6, 3) := by decide +kernel
theorem dX4_fill_42 : decode cX4_fill 42 = .ok (.bipush (-14), 2) := by decide +kernel
theorem dX4_fill_44 : decode cX4_fill 44 = .ok (.ireturn, 1) := by decide +kernel
theorem dX4_fill_45 : decode cX4_fill 45 = .ok (.iconst 0, 1) := by decide +kernel
theorem dX4_fill_46 : decode cX4_fill 46 = .ok (.istore_n 3, 1) := by decide +kernel
theorem dX4_fill_47 : decode cX4_fill 47 = .ok (.iload_n 3, 1) := by decide +kernel
theorem dX4_fill_48 : decode cX4_fill 48 = .ok (.iload_n 1, 1) := by decide +kernel
theorem dX4_fill_49 : decode cX4_fill 49 = .ok (.if_icmp .ge 29, 3) := by decide +kernel
theorem dX4_fill_52 : decode cX4_fill 52 = .ok (.aload_n 0, 1) := by decide +kernel
theorem dX4_fill_53 : decode cX4_fill 53 = .ok (.getfield 7, 3) := by decide +kernel
theorem dX4_fill_56 : decode cX4_fill 56 = .ok (.aload_n 0, 1) := by decide +kernel
theorem dX4_fill_57 : decode cX4_fill 57 = .ok (.getfield 31, 3) := by decide +kernel
theorem dX4_fill_60 : decode cX4_fill 60 = .ok (.iload_n 2, 1) := by decide +kernel
theorem dX4_fill_61 : decode cX4_fill 61 = .ok (.iastore, 1) := by decide +kernel
theorem dX4_fill_62 : decode cX4_fill 62 = .ok (.aload_n 0, 1) := by decide +kernel
theorem dX4_fill_63 : decode cX4_fill 63 = .ok (.dup, 1) := by decide +kernel
theorem dX4_fill_64 : decode cX4_fill 64 = .ok (.getfield 31, 3) := by decide +kernel
theorem dX4_fill_67 : decode cX4_fill 67 = .ok (.iconst 1, 1) := by decide +kernel
theorem dX4_fill_68 : decode cX4_fill 68 = .ok (.iadd, 1) := by decide +kernel
theorem dX4_fill_69 : decode cX4_fill 69 = .ok (.putfield 31, 3) := by decide +kernel
theorem dX4_fill_72 : decode cX4_fill 72 = .ok (.iinc 3 1, 3) := by decide +kernel
theorem dX4_fill_75 : decode cX4_fill 75 = .ok (.goto (-28), 3) := by decide +kernel
theorem dX4_fill_78 : decode cX4_fill 78 = .ok (.aload_n 0, 1) := by decide +kernel
theorem dX4_fill_79 : decode cX4_fill 79 = .ok (.iconst 0, 1) := by decide +kernel
theorem dX4_fill_80 : decode cX4_fill 80 = .ok (.putfield 36, 3) := by decide +kernel
theorem dX4_fill_83 : decode cX4_fill 83 = .ok (.aload_n 0, 1) := by decide +kernel
theorem dX4_fill_84 : decode cX4_fill 84 = .ok (.getfield 31, 3) := by decide +kernel
theorem dX4_fill_87 : decode cX4_fill 87 = .ok (.ireturn, 1) := by decide +kernel
set_option maxRecDepth 20000 in
theorem ggX4_poke_X4_in : GoodIn wsX4_poke wsX4_in := goodIn_r _ [8] (by decide +kernel) (by decide +kernel)
set_option maxRecDepth 20000 in
theorem gX4_poke_X4_in : GoodIn wsX4_poke (va_wsS RX4 27 yX4_in wsX4_in) := goodIn_app (goodIn_of _ (by decide +kernel)) ggX4_poke_X4_in
theorem dX4_poke_0 : decode cX4_poke 0 = .ok (.aload_n 0, 1) := by decide +kernel
theorem dX4_poke_1 : decode cX4_poke 1 = .ok (.iconst 0, 1) := by decide +kernel
theorem dX4_poke_2 : decode cX4_poke 2 = .ok (.putfield 19, 3) := by decide +kernel
theorem dX4_poke_5 : decode cX4_poke 5 = .ok (.iload_n 1, 1) := by decide +kernel
theorem dX4_poke_6 : decode cX4_poke 6 = .ok (.iconst 0, 1) := by decide +kernel
theorem dX4_poke_7 : decode cX4_poke 7 = .ok (.aload_n 0, 1) := by decide +kernel
theorem dX4_poke_8 : decode cX4_poke 8 = .ok (.getfield 31, 3) := by decide +kernel
theorem dX4_poke_11 : decode cX4_poke 11 = .ok (.iconst 1, 1) := by decide +kernel
theorem dX4_poke_12 : decode cX4_poke 12 = .ok (.isub, 1) := by decide +kernel
theorem dX4_poke_13 : decode cX4_poke 13 = .ok (.invokestatic 27, 3) := by decide +kernel
theorem dX4_poke_16 : decode cX4_poke 16 = .ok (.ifCond .eq 14, 3) := by decide +kernel
theorem dX4_poke_19 : decode cX4_poke 19 = .ok (.iload_n 2, 1) := by decide +kernel
theorem dX4_poke_20 : decode cX4_poke 20 = .ok (.iconst 0, 1) := by decide +kernel
theorem dX4_poke_21 : decode cX4_poke 21 = .ok (.sipush 255, 3) := by decide +kernel
theorem dX4_poke_24 : decode cX4_poke 24 = .ok (.invokestatic 27, 3) := by decide +kernel
theorem dX4_poke_27 : decode cX4_poke 27 = .ok (.ifCond .ne 6, 3) := by decide +kernel
theorem dX4_poke_30 : decode cX4_poke 30 = .ok (.bipush (-12), 2) := by decide +kernel
theorem dX4_poke_32 : decode cX4_poke 32 = .ok (.ireturn, 1) := by decide +kernel
theorem dX4_poke_33 : decode cX4_poke 33 = .ok (.aload_n 0, 1) := by decide +kernel
theorem dX4_poke_34 : decode cX4_poke 34 = .ok (.getfield 7, 3) := by decide +kernel
theorem dX4_poke_37 : decode cX4_poke 37 = .ok (.iload_n 1, 1) := by decide +kernel
theorem dX4_poke_38 : decode cX4_poke 38 = .ok (.iaload, 1) := by decide +kernel
theorem dX4_poke_39 : decode cX4_poke 39 = .ok (.istore_n 3, 1) := by decide +kernel
theorem dX4_poke_40 : decode cX4_poke 40 = .ok (.aload_n 0, 1) := by decide +kernel
theorem dX4_poke_41 : decode cX4_poke 41 = .ok (.getfield 7, 3) := by decide +kernel
theorem dX4_poke_44 : decode cX4_poke 44 = .ok (.iload_n 1, 1) := by decide +kernel
theorem dX4_poke_45 : decode cX4_poke 45 = .ok (.iload_n 2, 1) := by decide +kernel
theorem dX4_poke_46 : decode cX4_poke 46 = .ok (.iastore, 1) := by decide +kernel
theorem dX4_poke_47 : decode cX4_poke 47 = .ok (.aload_n 0, 1) := by decide +kernel
theorem dX4_poke_48 : decode cX4_poke 48 = .ok (.iconst 0, 1) := by decide +kernel
theorem dX4_poke_49 : decode cX4_poke 49 = .ok (.putfield 36, 3) := by decide +kernel
theorem dX4_poke_52 : decode cX4_poke 52 = .ok (.iload_n 3, 1) := by decide +kernel
theorem dX4_poke_53 : decode cX4_poke 53 = .ok (.ireturn, 1) := by decide +kernel
theorem dX4_clear_0 : decode cX4_clear 0 = .ok (.aload_n 0, 1) := by decide +kernel
theorem dX4_clear_1 : decode cX4_clear 1 = .ok (.iconst 0, 1) := by decide +kernel
theorem dX4_clear_2 : decode cX4_clear 2 = .ok (.putfield 19, 3) := by decide +kernel
theorem dX4_clear_5 : decode cX4_clear 5 = .ok (.aload_n 0, 1) := by decide +kernel
theorem dX4_clear_6 : decode cX4_clear 6 = .ok (.getfield 31, 3) := by decide +kernel
theorem dX4_clear_9 : decode cX4_clear 9 = .ok (.istore_n 1, 1) := by decide +kernel
theorem dX4_clear_10 : decode cX4_clear 10 = .ok (.aload_n 0, 1) := by decide +kernel
theorem dX4_clear_11 : decode cX4_clear 11 = .ok (.iconst 0, 1) := by decide +kernel
theorem dX4_clear_12 : decode cX4_clear 12 = .ok (.putfield 31, 3) := by decide +kernel
theorem dX4_clear_15 : decode cX4_clear 15 = .ok (.aload_n 0, 1) := by decide +kernel
theorem dX4_clear_16 : decode cX4_clear 16 = .ok (.iconst 0, 1) := by decide +kernel
theorem dX4_clear_17 : decode cX4_clear 17 = .ok (.putfield 36, 3) := by decide +kernel
theorem dX4_clear_20 : decode cX4_clear 20 = .ok (.aload_n 0, 1) := by decide +kernel
theorem dX4_clear_21 : decode cX4_clear 21 = .ok (.iconst 0, 1) := by decide +kernel
theorem dX4_clear_22 : decode cX4_clear 22 = .ok (.putfield 40, 3) := by decide +kernel
theorem dX4_clear_25 : decode cX4_clear 25 = .ok (.iload_n 1, 1) := by decide +kernel
theorem dX4_clear_26 : decode cX4_clear 26 = .ok (.ireturn, 1) := by decide +kernel
theorem dX4_size_0 : decode cX4_size 0 = .ok (.aload_n 0, 1) := by decide +kernel
theorem dX4_size_1 : decode cX4_size 1 = .ok (.iconst 0, 1) := by decide +kernel
theorem dX4_size_2 : decode cX4_size 2 = .ok (.putfield 19, 3) := by decide +kernel
theorem dX4_size_5 : decode cX4_size 5 = .ok (.aload_n 0, 1) := by decide +kernel
theorem dX4_size_6 : decode cX4_size 6 = .ok (.getfield 31, 3) := by decide +kernel
theorem dX4_size_9 : decode cX4_size 9 = .ok (.ireturn, 1) := by decide +kernel
theorem dX4_isThere_0 : decode cX4_isThere 0 = .ok (.iload_n 1, 1) := by decide +kernel
theorem dX4_isThere_1 : decode cX4_isThere 1 = .ok (.aload_n 0, 1) := by decide +kernel
theorem dX4_isThere_2 : decode cX4_isThere 2 = .ok (.getfield 31, 3) := by decide +kernel
theorem dX4_isThere_5 : decode cX4_isThere 5 = .ok (.if_icmp .ge 7, 3) := by decide +kernel
theorem dX4_isThere_8 : decode cX4_isThere 8 = .ok (.iconst 1, 1) := by decide +kernel
theorem dX4_isThere_9 : decode cX4_isThere 9 = .ok (.goto 4, 3) := by decide +kernel
theorem dX4_isThere_12 : decode cX4_isThere 12 = .ok (.iconst 0, 1) := by decide +kernel
theorem dX4_isThere_13 : decode cX4_isThere 13 = .ok (.ireturn, 1) := by decide +kernel
theorem dX4_two_0 : decode cX4_two 0 = .ok (.sipush 256, 3) := by decide +kernel
theorem dX4_two_3 : decode cX4_two 3 = .ok (.aload_n 0, 1) := by decide +kernel
theorem dX4_two_4 : decode cX4_two 4 = .ok (.getfield 7, 3) := by decide +kernel
theorem dX4_two_7 : decode cX4_two 7 = .ok (.iload_n 1, 1) := by decide +kernel
theorem dX4_two_8 : decode cX4_two 8 = .ok (.iaload, 1) := by decide +kernel
theorem dX4_two_9 : decode cX4_two 9 = .ok (.imul, 1) := by decide +kernel
theorem dX4_two_10 : decode cX4_two 10 = .ok (.aload_n 0, 1) := by decide +kernel
theorem dX4_two_11 : decode cX4_two 11 = .ok (.getfield 7, 3) := by decide +kernel
theorem dX4_two_14 : decode cX4_two 14 = .ok (.iload_n 1, 1) := by decide +kernel
theorem dX4_two_15 : decode cX4_two 15 = .ok (.iconst 1, 1) := by decide +kernel
theorem dX4_two_16 : decode cX4_two 16 = .ok (.iadd, 1) := by decide +kernel
theorem dX4_two_17 : decode cX4_two 17 = .ok (.iaload, 1) := by decide +kernel
theorem dX4_two_18 : decode cX4_two 18 = .ok (.iadd, 1) := by decide +kernel
theorem dX4_two_19 : decode cX4_two 19 = .ok (.ireturn, 1) := by decide +kernel
theorem dX4_brokenAt_0 : decode cX4_brokenAt 0 = .ok (.aload_n 0, 1) := by decide +kernel
theorem dX4_brokenAt_1 : decode cX4_brokenAt 1 = .ok (.iload_n 1, 1) := by decide +kernel
theorem dX4_brokenAt_2 : decode cX4_brokenAt 2 = .ok (.putfield 40, 3) := by decide +kernel
theorem dX4_brokenAt_5 : decode cX4_brokenAt 5 = .ok (.bipush (-20), 2) := by decide +kernel
theorem dX4_brokenAt_7 : decode cX4_brokenAt 7 = .ok (.iload_n 2, 1) := by decide +kernel
theorem dX4_brokenAt_8 : decode cX4_brokenAt 8 = .ok (.isub, 1) := by decide +kernel
theorem dX4_brokenAt_9 : decode cX4_brokenAt 9 = .ok (.ireturn, 1) := by decide +kernel
theorem dX4_scaleOf_0 : decode cX4_scaleOf 0 = .ok (.iload_n 0, 1) := by decide +kernel
theorem dX4_scaleOf_1 : decode cX4_scaleOf 1 = .ok (.iconst 4, 1) := by decide +kernel
theorem dX4_scaleOf_2 : decode cX4_scaleOf 2 = .ok (.if_icmp .ge 7, 3) := by decide +kernel
theorem dX4_scaleOf_5 : decode cX4_scaleOf 5 = .ok (.iconst 2, 1) := by decide +kernel
theorem dX4_scaleOf_6 : decode cX4_scaleOf 6 = .ok (.goto 15, 3) := by decide +kernel
theorem dX4_scaleOf_9 : decode cX4_scaleOf 9 = .ok (.iload_n 0, 1) := by decide +kernel
theorem dX4_scaleOf_10 : decode cX4_scaleOf 10 = .ok (.bipush 6, 2) := by decide +kernel
theorem dX4_scaleOf_12 : decode cX4_scaleOf 12 = .ok (.if_icmp .ge 7, 3) := by decide +kernel
theorem dX4_scaleOf_15 : decode cX4_scaleOf 15 = .ok (.iconst 4, 1) := by decide +kernel
theorem dX4_scaleOf_16 : decode cX4_scaleOf 16 = .ok (.goto 5, 3) := by decide +kernel
theorem dX4_scaleOf_19 : decode cX4_scaleOf 19 = .ok (.bipush 8, 2) := by decide +kernel
theorem dX4_scaleOf_21 : decode cX4_scaleOf 21 = .ok (.ireturn, 1) := by decide +kernel
theorem dX4_fits_0 : decode cX4_fits 0 = .ok (.iload_n 0, 1) := by decide +kernel
theorem dX4_fits_1 : decode cX4_fits 1 = .ok (.bipush 64, 2) := by decide +kernel
theorem dX4_fits_3 : decode cX4_fits 3 = .ok (.if_icmp .lt 14, 3) := by decide +kernel
theorem dX4_fits_6 : decode cX4_fits 6 = .ok (.iload_n 0, 1) := by decide +kernel
theorem dX4_fits_7 : decode cX4_fits 7 = .ok (.iload_n 1, 1) := by decide +kernel
theorem dX4_fits_8 : decode cX4_fits 8 = .ok (.iadd, 1) := by decide +kernel
theorem dX4_fits_9 : decode cX4_fits 9 = .ok (.iload_n 2, 1) := by decide +kernel
theorem dX4_fits_10 : decode cX4_fits 10 = .ok (.if_icmp .gt 7, 3) := by decide +kernel
theorem dX4_fits_13 : decode cX4_fits 13 = .ok (.iconst 1, 1) := by decide +kernel
theorem dX4_fits_14 : decode cX4_fits 14 = .ok (.goto 4, 3) := by decide +kernel
theorem dX4_fits_17 : decode cX4_fits 17 = .ok (.iconst 0, 1) := by decide +kernel
theorem dX4_fits_18 : decode cX4_fits 18 = .ok (.ireturn, 1) := by decide +kernel
set_option maxRecDepth 20000 in
theorem ggX4_areWords_X4_isThere : GoodIn wsX4_areWords wsX4_isThere := goodIn_r _ [8, 9, 14, 15, 16, 17, 18, 19, 20, 21, 22] (by decide +kernel) (by decide +kernel)
set_option maxRecDepth 20000 in
theorem gX4_areWords_X4_isThere : GoodIn wsX4_areWords (wsV RX4 43 RX4 yX4_isThere wsX4_isThere) := goodIn_app (goodIn_of _ (by decide +kernel)) ggX4_areWords_X4_isThere
set_option maxRecDepth 20000 in
theorem ggX4_areWords_X4_two : GoodIn wsX4_areWords wsX4_two := goodIn_ca (goodIn_r _ [13, 1, 14, 15, 16, 17, 18, 19, 20, 21, 22] (by decide +kernel) (by decide +kernel)) (goodIn_sub (fun _ h => List.mem_cons_of_mem _ (List.mem_append_right _ h)) (by decide +kernel))
set_option maxRecDepth 20000 in
theorem gX4_areWords_X4_two : GoodIn wsX4_areWords (wsV RX4 47 RX4 yX4_two wsX4_two) := goodIn_app (goodIn_of _ (by decide +kernel)) ggX4_areWords_X4_two
theorem dX4_areWords_0 : decode cX4_areWords 0 = .ok (.iload_n 1, 1) := by decide +kernel
theorem dX4_areWords_1 : decode cX4_areWords 1 = .ok (.bipush 64, 2) := by decide +kernel
theorem dX4_areWords_3 : decode cX4_areWords 3 = .ok (.if_icmp .lt 28, 3) := by decide +kernel
theorem dX4_areWords_6 : decode cX4_areWords 6 = .ok (.aload_n 0, 1) := by decide +kernel
theorem dX4_areWords_7 : decode cX4_areWords 7 = .ok (.iload_n 1, 1) := by decide +kernel
theorem dX4_areWords_8 : decode cX4_areWords 8 = .ok (.invokevirtual 43, 3) := by decide +kernel
theorem dX4_areWords_11 : decode cX4_areWords 11 = .ok (.ifCond .eq 20, 3) := by decide +kernel
theorem dX4_areWords_14 : decode cX4_areWords 14 = .ok (.aload_n 0, 1) := by decide +kernel
theorem dX4_areWords_15 : decode cX4_areWords 15 = .ok (.iload_n 1, 1) := by decide +kernel
theorem dX4_areWords_16 : decode cX4_areWords 16 = .ok (.aload_n 0, 1) := by decide +kernel
theorem dX4_areWords_17 : decode cX4_areWords 17 = .ok (.getfield 7, 3) := by decide +kernel
theorem dX4_areWords_20 : decode cX4_areWords 20 = .ok (.iload_n 1, 1) := by decide +kernel
theorem dX4_areWords_21 : decode cX4_areWords 21 = .ok (.iaload, 1) := by decide +kernel
theorem dX4_areWords_22 : decode cX4_areWords 22 = .ok (.iadd, 1) := by decide +kernel
theorem dX4_areWords_23 : decode cX4_areWords 23 = .ok (.iconst 3, 1) := by decide +kernel
theorem dX4_areWords_24 : decode cX4_areWords 24 = .ok (.iadd, 1) := by decide +kernel
theorem dX4_areWords_25 : decode cX4_areWords 25 = .ok (.invokevirtual 43, 3) := by decide +kernel
theorem dX4_areWords_28 : decode cX4_areWords 28 = .ok (.ifCond .ne 5, 3) := by decide +kernel
theorem dX4_areWords_31 : decode cX4_areWords 31 = .ok (.iconst 0, 1) := by decide +kernel
theorem dX4_areWords_32 : decode cX4_areWords 32 = .ok (.ireturn, 1) := by decide +kernel
theorem dX4_areWords_33 : decode cX4_areWords 33 = .ok (.aload_n 0, 1) := by decide +kernel
theorem dX4_areWords_34 : decode cX4_areWords 34 = .ok (.getfield 7, 3) := by decide +kernel
theorem dX4_areWords_37 : decode cX4_areWords 37 = .ok (.iload_n 1, 1) := by decide +kernel
theorem dX4_areWords_38 : decode cX4_areWords 38 = .ok (.iaload, 1) := by decide +kernel
theorem dX4_areWords_39 : decode cX4_areWords 39 = .ok (.istore_n 2, 1) := by decide +kernel
theorem dX4_areWords_40 : decode cX4_areWords 40 = .ok (.aload_n 0, 1) := by decide +kernel
theorem dX4_areWords_41 : decode cX4_areWords 41 = .ok (.getfield 7, 3) := by decide +kernel
theorem dX4_areWords_44 : decode cX4_areWords 44 = .ok (.iload_n 1, 1) := by decide +kernel
theorem dX4_areWords_45 : decode cX4_areWords 45 = .ok (.iconst 1, 1) := by decide +kernel
theorem dX4_areWords_46 : decode cX4_areWords 46 = .ok (.iadd, 1) := by decide +kernel
theorem dX4_areWords_47 : decode cX4_areWords 47 = .ok (.iload_n 2, 1) := by decide +kernel
theorem dX4_areWords_48 : decode cX4_areWords 48 = .ok (.iadd, 1) := by decide +kernel
theorem dX4_areWords_49 : decode cX4_areWords 49 = .ok (.iaload, 1) := by decide +kernel
theorem dX4_areWords_50 : decode cX4_areWords 50 = .ok (.istore_n 3, 1) := by decide +kernel
theorem dX4_areWords_51 : decode cX4_areWords 51 = .ok (.aload_n 0, 1) := by decide +kernel
theorem dX4_areWords_52 : decode cX4_areWords 52 = .ok (.iload_n 1, 1) := by decide +kernel
theorem dX4_areWords_53 : decode cX4_areWords 53 = .ok (.iconst 2, 1) := by decide +kernel
theorem dX4_areWords_54 : decode cX4_areWords 54 = .ok (.iadd, 1) := by decide +kernel
theorem dX4_areWords_55 : decode cX4_areWords 55 = .ok (.iload_n 2, 1) := by decide +kernel
theorem dX4_areWords_56 : decode cX4_areWords 56 = .ok (.iadd, 1) := by decide +kernel
theorem dX4_areWords_57 : decode cX4_areWords 57 = .ok (.invokevirtual 47, 3) := by decide +kernel
theorem dX4_areWords_60 : decode cX4_areWords 60 = .ok (.i2s, 1) := by decide +kernel
theorem dX4_areWords_61 : decode cX4_areWords 61 = .ok (.istore 4, 2) := by decide +kernel
theorem dX4_areWords_63 : decode cX4_areWords 63 = .ok (.iload 4, 2) := by decide +kernel
theorem dX4_areWords_65 : decode cX4_areWords 65 = .ok (.ifCond .ge 9, 3) := by decide +kernel
theorem dX4_areWords_68 : decode cX4_areWords 68 = .ok (.iload 4, 2) := by decide +kernel
theorem dX4_areWords_70 : decode cX4_areWords 70 = .ok (.ineg, 1) := by decide +kernel
theorem dX4_areWords_71 : decode cX4_areWords 71 = .ok (.goto 5, 3) := by decide +kernel
theorem dX4_areWords_74 : decode cX4_areWords 74 = .ok (.iload 4, 2) := by decide +kernel
theorem dX4_areWords_76 : decode cX4_areWords 76 = .ok (.istore 4, 2) := by decide +kernel
theorem dX4_areWords_78 : decode cX4_areWords 78 = .ok (.iload_n 3, 1) := by decide +kernel
theorem dX4_areWords_79 : decode cX4_areWords 79 = .ok (.aload_n 0, 1) := by decide +kernel
theorem dX4_areWords_80 : decode cX4_areWords 80 = .ok (.getfield 51, 3) := by decide +kernel
theorem dX4_areWords_83 : decode cX4_areWords 83 = .ok (.iconst 4, 1) := by decide +kernel
theorem dX4_areWords_84 : decode cX4_areWords 84 = .ok (.if_icmp .ge 7, 3) := by decide +kernel
theorem dX4_areWords_87 : decode cX4_areWords 87 = .ok (.iconst 4, 1) := by decide +kernel
theorem dX4_areWords_88 : decode cX4_areWords 88 = .ok (.goto 5, 3) := by decide +kernel
theorem dX4_areWords_91 : decode cX4_areWords 91 = .ok (.bipush 6, 2) := by decide +kernel
theorem dX4_areWords_93 : decode cX4_areWords 93 = .ok (.if_icmp .lt 24, 3) := by decide +kernel
theorem dX4_areWords_96 : decode cX4_areWords 96 = .ok (.iload_n 1, 1) := by decide +kernel
theorem dX4_areWords_97 : decode cX4_areWords 97 = .ok (.iconst 4, 1) := by decide +kernel
theorem dX4_areWords_98 : decode cX4_areWords 98 = .ok (.iadd, 1) := by decide +kernel
theorem dX4_areWords_99 : decode cX4_areWords 99 = .ok (.iload_n 2, 1) := by decide +kernel
theorem dX4_areWords_100 : decode cX4_areWords 100 = .ok (.iadd, 1) := by decide +kernel
theorem dX4_areWords_101 : decode cX4_areWords 101 = .ok (.iload_n 3, 1) := by decide +kernel
theorem dX4_areWords_102 : decode cX4_areWords 102 = .ok (.iload 4, 2) := by decide +kernel
theorem dX4_areWords_104 : decode cX4_areWords 104 = .ok (.imul, 1) := by decide +kernel
theorem dX4_areWords_105 : decode cX4_areWords 105 = .ok (.iadd, 1) := by decide +kernel
theorem dX4_areWords_106 : decode cX4_areWords 106 = .ok (.aload_n 0, 1) := by decide +kernel
theorem dX4_areWords_107 : decode cX4_areWords 107 = .ok (.getfield 54, 3) := by decide +kernel
theorem dX4_areWords_110 : decode cX4_areWords 110 = .ok (.if_icmp .gt 7, 3) := by decide +kernel
theorem dX4_areWords_113 : decode cX4_areWords 113 = .ok (.iconst 1, 1) := by decide +kernel
theorem dX4_areWords_114 : decode cX4_areWords 114 = .ok (.goto 4, 3) := by decide +kernel
theorem dX4_areWords_117 : decode cX4_areWords 117 = .ok (.iconst 0, 1) := by decide +kernel
theorem dX4_areWords_118 : decode cX4_areWords 118 = .ok (.ireturn, 1) := by decide +kernel
theorem dX4_areEnds_0 : decode cX4_areEnds 0 = .ok (.iload_n 1, 1) := by decide +kernel
theorem dX4_areEnds_1 : decode cX4_areEnds 1 = .ok (.ifCond .ne 7, 3) := by decide +kernel
theorem dX4_areEnds_4 : decode cX4_areEnds 4 = .ok (.iconst 1, 1) := by decide +kernel
theorem dX4_areEnds_5 : decode cX4_areEnds 5 = .ok (.goto 4, 3) := by decide +kernel
theorem dX4_areEnds_8 : decode cX4_areEnds 8 = .ok (.iconst 0, 1) := by decide +kernel
theorem dX4_areEnds_9 : decode cX4_areEnds 9 = .ok (.istore_n 2, 1) := by decide +kernel
theorem dX4_areEnds_10 : decode cX4_areEnds 10 = .ok (.iload_n 1, 1) := by decide +kernel
theorem dX4_areEnds_11 : decode cX4_areEnds 11 = .ok (.istore_n 3, 1) := by decide +kernel
theorem dX4_areEnds_12 : decode cX4_areEnds 12 = .ok (.iload_n 1, 1) := by decide +kernel
theorem dX4_areEnds_13 : decode cX4_areEnds 13 = .ok (.bipush 64, 2) := by decide +kernel
theorem dX4_areEnds_15 : decode cX4_areEnds 15 = .ok (.if_icmp .lt 36, 3) := by decide +kernel
theorem dX4_areEnds_18 : decode cX4_areEnds 18 = .ok (.iload_n 3, 1) := by decide +kernel
theorem dX4_areEnds_19 : decode cX4_areEnds 19 = .ok (.aload_n 0, 1) := by decide +kernel
theorem dX4_areEnds_20 : decode cX4_areEnds 20 = .ok (.getfield 54, 3) := by decide +kernel
theorem dX4_areEnds_23 : decode cX4_areEnds 23 = .ok (.if_icmp .ge 28, 3) := by decide +kernel
theorem dX4_areEnds_26 : decode cX4_areEnds 26 = .ok (.iload_n 2, 1) := by decide +kernel
theorem dX4_areEnds_27 : decode cX4_areEnds 27 = .ok (.ifCond .ne 12, 3) := by decide +kernel
theorem dX4_areEnds_30 : decode cX4_areEnds 30 = .ok (.aload_n 0, 1) := by decide +kernel
theorem dX4_areEnds_31 : decode cX4_areEnds 31 = .ok (.getfield 7, 3) := by decide +kernel
theorem dX4_areEnds_34 : decode cX4_areEnds 34 = .ok (.iload_n 3, 1) := by decide +kernel
theorem dX4_areEnds_35 : decode cX4_areEnds 35 = .ok (.iaload, 1) := by decide +kernel
theorem dX4_areEnds_36 : decode cX4_areEnds 36 = .ok (.ifCond .ne 7, 3) := by decide +kernel
theorem dX4_areEnds_39 : decode cX4_areEnds 39 = .ok (.iconst 1, 1) := by decide +kernel
theorem dX4_areEnds_40 : decode cX4_areEnds 40 = .ok (.goto 4, 3) := by decide +kernel
theorem dX4_areEnds_43 : decode cX4_areEnds 43 = .ok (.iconst 0, 1) := by decide +kernel
theorem dX4_areEnds_44 : decode cX4_areEnds 44 = .ok (.istore_n 2, 1) := by decide +kernel
theorem dX4_areEnds_45 : decode cX4_areEnds 45 = .ok (.iinc 3 1, 3) := by decide +kernel
theorem dX4_areEnds_48 : decode cX4_areEnds 48 = .ok (.goto (-36), 3) := by decide +kernel
theorem dX4_areEnds_51 : decode cX4_areEnds 51 = .ok (.iload_n 2, 1) := by decide +kernel
theorem dX4_areEnds_52 : decode cX4_areEnds 52 = .ok (.ireturn, 1) := by decide +kernel
set_option maxRecDepth 20000 in
theorem ggX4_isMore_X4_isThere : GoodIn wsX4_isMore wsX4_isThere := goodIn_r _ [6, 7, 13, 14, 15, 16, 17, 18, 19, 20, 21] (by decide +kernel) (by decide +kernel)
set_option maxRecDepth 20000 in
theorem gX4_isMore_X4_isThere : GoodIn wsX4_isMore (wsV RX4 43 RX4 yX4_isThere wsX4_isThere) := goodIn_app (goodIn_of _ (by decide +kernel)) ggX4_isMore_X4_isThere
set_option maxRecDepth 20000 in
theorem ggX4_isMore_X4_two : GoodIn wsX4_isMore wsX4_two := goodIn_ca (goodIn_r _ [11, 12, 13, 14, 15, 16, 17, 18, 19, 20, 21] (by decide +kernel) (by decide +kernel)) (goodIn_sub (fun _ h => List.mem_cons_of_mem _ (List.mem_append_right _ h)) (by decide +kernel))
set_option maxRecDepth 20000 in
theorem gX4_isMore_X4_two : GoodIn wsX4_isMore (wsV RX4 47 RX4 yX4_two wsX4_two) := goodIn_app (goodIn_of _ (by decide +kernel)) ggX4_isMore_X4_two
theorem dX4_isMore_0 : decode cX4_isMore 0 = .ok (.iload_n 1, 1) := by decide +kernel
theorem dX4_isMore_1 : decode cX4_isMore 1 = .ok (.ifCond .eq 37, 3) := by decide +kernel
theorem dX4_isMore_4 : decode cX4_isMore 4 = .ok (.iload_n 1, 1) := by decide +kernel
theorem dX4_isMore_5 : decode cX4_isMore 5 = .ok (.bipush 64, 2) := by decide +kernel
theorem dX4_isMore_7 : decode cX4_isMore 7 = .ok (.if_icmp .lt 35, 3) := by decide +kernel
theorem dX4_isMore_10 : decode cX4_isMore 10 = .ok (.aload_n 0, 1) := by decide +kernel
theorem dX4_isMore_11 : decode cX4_isMore 11 = .ok (.iload_n 1, 1) := by decide +kernel
theorem dX4_isMore_12 : decode cX4_isMore 12 = .ok (.iconst 1, 1) := by decide +kernel
theorem dX4_isMore_13 : decode cX4_isMore 13 = .ok (.iadd, 1) := by decide +kernel
theorem dX4_isMore_14 : decode cX4_isMore 14 = .ok (.invokevirtual 43, 3) := by decide +kernel
theorem dX4_isMore_17 : decode cX4_isMore 17 = .ok (.ifCond .eq 25, 3) := by decide +kernel
theorem dX4_isMore_20 : decode cX4_isMore 20 = .ok (.iload_n 1, 1) := by decide +kernel
theorem dX4_isMore_21 : decode cX4_isMore 21 = .ok (.iconst 2, 1) := by decide +kernel
theorem dX4_isMore_22 : decode cX4_isMore 22 = .ok (.iadd, 1) := by decide +kernel
theorem dX4_isMore_23 : decode cX4_isMore 23 = .ok (.iconst 2, 1) := by decide +kernel
theorem dX4_isMore_24 : decode cX4_isMore 24 = .ok (.aload_n 0, 1) := by decide +kernel
theorem dX4_isMore_25 : decode cX4_isMore 25 = .ok (.iload_n 1, 1) := by decide +kernel
theorem dX4_isMore_26 : decode cX4_isMore 26 = .ok (.invokevirtual 47, 3) := by decide +kernel
theorem dX4_isMore_29 : decode cX4_isMore 29 = .ok (.imul, 1) := by decide +kernel
theorem dX4_isMore_30 : decode cX4_isMore 30 = .ok (.iadd, 1) := by decide +kernel
theorem dX4_isMore_31 : decode cX4_isMore 31 = .ok (.aload_n 0, 1) := by decide +kernel
theorem dX4_isMore_32 : decode cX4_isMore 32 = .ok (.getfield 54, 3) := by decide +kernel
theorem dX4_isMore_35 : decode cX4_isMore 35 = .ok (.if_icmp .gt 7, 3) := by decide +kernel
theorem dX4_isMore_38 : decode cX4_isMore 38 = .ok (.iconst 1, 1) := by decide +kernel
theorem dX4_isMore_39 : decode cX4_isMore 39 = .ok (.goto 4, 3) := by decide +kernel
theorem dX4_isMore_42 : decode cX4_isMore 42 = .ok (.iconst 0, 1) := by decide +kernel
theorem dX4_isMore_43 : decode cX4_isMore 43 = .ok (.ireturn, 1) := by decide +kernel
set_option maxRecDepth 20000 in
theorem ggX4_isThird_X4_two : GoodIn wsX4_isThird wsX4_two := goodIn_ca (goodIn_r _ [7, 1, 13, 14, 15, 16, 17, 18, 19, 20, 21] (by decide +kernel) (by decide +kernel)) (goodIn_sub (fun _ h => List.mem_cons_of_mem _ (List.mem_append_right _ h)) (by decide +kernel))
set_option maxRecDepth 20000 in
theorem gX4_isThird_X4_two : GoodIn wsX4_isThird (wsV RX4 47 RX4 yX4_two wsX4_two) := goodIn_app (goodIn_of _ (by decide +kernel)) ggX4_isThird_X4_two
set_option maxRecDepth 20000 in
theorem ggX4_isThird_X4_isThere : GoodIn wsX4_isThird wsX4_isThere := goodIn_r _ [11, 12, 13, 14, 15, 16, 17, 18, 19, 20, 21] (by decide +kernel) (by decide +kernel)
set_option maxRecDepth 20000 in
theorem gX4_isThird_X4_isThere : GoodIn wsX4_isThird (wsV RX4 43 RX4 yX4_isThere wsX4_isThere) := goodIn_app (goodIn_of _ (by decide +kernel)) ggX4_isThird_X4_isThere
theorem dX4_isThird_0 : decode cX4_isThird 0 = .ok (.aload_n 0, 1) := by decide +kernel
theorem dX4_isThird_1 : decode cX4_isThird 1 = .ok (.iload_n 1, 1) := by decide +kernel
theorem dX4_isThird_2 : decode cX4_isThird 2 = .ok (.bipush 6, 2) := by decide +kernel
theorem dX4_isThird_4 : decode cX4_isThird 4 = .ok (.iadd, 1) := by decide +kernel
theorem dX4_isThird_5 : decode cX4_isThird 5 = .ok (.invokevirtual 47, 3) := by decide +kernel
theorem dX4_isThird_8 : decode cX4_isThird 8 = .ok (.istore_n 2, 1) := by decide +kernel
theorem dX4_isThird_9 : decode cX4_isThird 9 = .ok (.iload_n 2, 1) := by decide +kernel
theorem dX4_isThird_10 : decode cX4_isThird 10 = .ok (.ifCond .eq 36, 3) := by decide +kernel
theorem dX4_isThird_13 : decode cX4_isThird 13 = .ok (.iload_n 2, 1) := by decide +kernel
theorem dX4_isThird_14 : decode cX4_isThird 14 = .ok (.bipush 64, 2) := by decide +kernel
theorem dX4_isThird_16 : decode cX4_isThird 16 = .ok (.if_icmp .lt 34, 3) := by decide +kernel
theorem dX4_isThird_19 : decode cX4_isThird 19 = .ok (.aload_n 0, 1) := by decide +kernel
theorem dX4_isThird_20 : decode cX4_isThird 20 = .ok (.iload_n 2, 1) := by decide +kernel
theorem dX4_isThird_21 : decode cX4_isThird 21 = .ok (.invokevirtual 43, 3) := by decide +kernel
theorem dX4_isThird_24 : decode cX4_isThird 24 = .ok (.ifCond .eq 26, 3) := by decide +kernel
theorem dX4_isThird_27 : decode cX4_isThird 27 = .ok (.iload_n 2, 1) := by decide +kernel
theorem dX4_isThird_28 : decode cX4_isThird 28 = .ok (.iconst 1, 1) := by decide +kernel
theorem dX4_isThird_29 : decode cX4_isThird 29 = .ok (.iadd, 1) := by decide +kernel
theorem dX4_isThird_30 : decode cX4_isThird 30 = .ok (.iconst 2, 1) := by decide +kernel
theorem dX4_isThird_31 : decode cX4_isThird 31 = .ok (.aload_n 0, 1) := by decide +kernel
theorem dX4_isThird_32 : decode cX4_isThird 32 = .ok (.getfield 7, 3) := by decide +kernel
theorem dX4_isThird_35 : decode cX4_isThird 35 = .ok (.iload_n 2, 1) := by decide +kernel
theorem dX4_isThird_36 : decode cX4_isThird 36 = .ok (.iaload, 1) := by decide +kernel
theorem dX4_isThird_37 : decode cX4_isThird 37 = .ok (.imul, 1) := by decide +kernel
theorem dX4_isThird_38 : decode cX4_isThird 38 = .ok (.iadd, 1) := by decide +kernel
theorem dX4_isThird_39 : decode cX4_isThird 39 = .ok (.aload_n 0, 1) := by decide +kernel
theorem dX4_isThird_40 : decode cX4_isThird 40 = .ok (.getfield 54, 3) := by decide +kernel
theorem dX4_isThird_43 : decode cX4_isThird 43 = .ok (.if_icmp .gt 7, 3) := by decide +kernel
theorem dX4_isThird_46 : decode cX4_isThird 46 = .ok (.iconst 1, 1) := by decide +kernel
theorem dX4_isThird_47 : decode cX4_isThird 47 = .ok (.goto 4, 3) := by decide +kernel
theorem dX4_isThird_50 : decode cX4_isThird 50 = .ok (.iconst 0, 1) := by decide +kernel
theorem dX4_isThird_51 : decode cX4_isThird 51 = .ok (.ireturn, 1) := by decide +kernel
set_option maxRecDepth 20000 in
theorem ggX4_startOf_X4_two : GoodIn wsX4_startOf wsX4_two := goodIn_ca (goodIn_r _ [6, 7, 8, 9, 10, 11, 12, 13, 14, 15, 16] (by decide +kernel) (by decide +kernel)) (goodIn_sub (fun _ h => List.mem_cons_of_mem _ (List.mem_append_right _ h)) (by decide +kernel))
set_option maxRecDepth 20000 in
theorem gX4_startOf_X4_two : GoodIn wsX4_startOf (wsV RX4 47 RX4 yX4_two wsX4_two) := goodIn_app (goodIn_of _ (by decide +kernel)) ggX4_startOf_X4_two
theorem dX4_startOf_0 : decode cX4_startOf 0 = .ok (.aload_n 0, 1) := by decide +kernel
theorem dX4_startOf_1 : decode cX4_startOf 1 = .ok (.getfield 51, 3) := by decide +kernel
theorem dX4_startOf_4 : decode cX4_startOf 4 = .ok (.bipush 6, 2) := by decide +kernel
theorem dX4_startOf_6 : decode cX4_startOf 6 = .ok (.if_icmp .ne 24, 3) := by decide +kernel
theorem dX4_startOf_9 : decode cX4_startOf 9 = .ok (.iconst 4, 1) := by decide +kernel
theorem dX4_startOf_10 : decode cX4_startOf 10 = .ok (.aload_n 0, 1) := by decide +kernel
theorem dX4_startOf_11 : decode cX4_startOf 11 = .ok (.bipush 6, 2) := by decide +kernel
theorem dX4_startOf_13 : decode cX4_startOf 13 = .ok (.invokevirtual 47, 3) := by decide +kernel
theorem dX4_startOf_16 : decode cX4_startOf 16 = .ok (.imul, 1) := by decide +kernel
theorem dX4_startOf_17 : decode cX4_startOf 17 = .ok (.bipush 8, 2) := by decide +kernel
theorem dX4_startOf_19 : decode cX4_startOf 19 = .ok (.aload_n 0, 1) := by decide +kernel
theorem dX4_startOf_20 : decode cX4_startOf 20 = .ok (.bipush 40, 2) := by decide +kernel
theorem dX4_startOf_22 : decode cX4_startOf 22 = .ok (.invokevirtual 47, 3) := by decide +kernel
theorem dX4_startOf_25 : decode cX4_startOf 25 = .ok (.imul, 1) := by decide +kernel
theorem dX4_startOf_26 : decode cX4_startOf 26 = .ok (.iadd, 1) := by decide +kernel
theorem dX4_startOf_27 : decode cX4_startOf 27 = .ok (.goto 9, 3) := by decide +kernel
theorem dX4_startOf_30 : decode cX4_startOf 30 = .ok (.aload_n 0, 1) := by decide +kernel
theorem dX4_startOf_31 : decode cX4_startOf 31 = .ok (.bipush 6, 2) := by decide +kernel
theorem dX4_startOf_33 : decode cX4_startOf 33 = .ok (.invokevirtual 47, 3) := by decide +kernel
theorem dX4_startOf_36 : decode cX4_startOf 36 = .ok (.ireturn, 1) := by decide +kernel
set_option maxRecDepth 20000 in
theorem ggX4_judge_X4_brokenAt : GoodIn wsX4_judge wsX4_brokenAt := goodIn_r _ [10, 1, 52, 53, 54, 55, 56, 57, 58, 59, 60] (by decide +kernel) (by decide +kernel)
set_option maxRecDepth 20000 in
theorem gX4_judge_X4_brokenAt : GoodIn wsX4_judge (wsV RX4 57 RX4 yX4_brokenAt wsX4_brokenAt) := goodIn_app (goodIn_of _ (by decide +kernel)) ggX4_judge_X4_brokenAt
set_option maxRecDepth 20000 in
theorem ggX4_judge_X4_in : GoodIn wsX4_judge wsX4_in := goodIn_r _ [13] (by decide +kernel) (by decide +kernel)
set_option maxRecDepth 20000 in
theorem gX4_judge_X4_in : GoodIn wsX4_judge (va_wsS RX4 27 yX4_in wsX4_in) := goodIn_app (goodIn_of _ (by decide +kernel)) ggX4_judge_X4_in
set_option maxRecDepth 20000 in
theorem ggX4_judge_X4_two : GoodIn wsX4_judge wsX4_two := goodIn_ca (goodIn_r _ [17, 3, 52, 53, 54, 55, 56, 57, 58, 59, 60] (by decide +kernel) (by decide +kernel)) (goodIn_sub (fun _ h => List.mem_cons_of_mem _ (List.mem_append_right _ h)) (by decide +kernel))
set_option maxRecDepth 20000 in
theorem gX4_judge_X4_two : GoodIn wsX4_judge (wsV RX4 47 RX4 yX4_two wsX4_two) := goodIn_app (goodIn_of _ (by decide +kernel)) ggX4_judge_X4_two
set_option maxRecDepth 20000 in
theorem ggX4_judge_X4_scaleOf : GoodIn wsX4_judge wsX4_scaleOf := goodIn_r _ [20] (by decide +kernel) (by decide +kernel)
set_option maxRecDepth 20000 in
theorem gX4_judge_X4_scaleOf : GoodIn wsX4_judge (va_wsS RX4 60 yX4_scaleOf wsX4_scaleOf) := goodIn_app (goodIn_of _ (by decide +kernel)) ggX4_judge_X4_scaleOf
set_option maxRecDepth 20000 in
theorem ggX4_judge_X4_fits : GoodIn wsX4_judge wsX4_fits := goodIn_r _ [23] (by decide +kernel) (by decide +kernel)
set_option maxRecDepth 20000 in
theorem gX4_judge_X4_fits : GoodIn wsX4_judge (va_wsS RX4 63 yX4_fits wsX4_fits) := goodIn_app (goodIn_of _ (by decide +kernel)) ggX4_judge_X4_fits
set_option maxRecDepth 20000 in
theorem ggX4_judge_X4_areWords : GoodIn wsX4_judge wsX4_areWords := goodIn_ca (goodIn_r _ [27, 3, 4, 5, 28, 29, 30, 9, 31, 2, 14, 15, 16, 17, 52, 53, 54, 55, 56, 57, 58, 59, 60] (by decide +kernel) (by decide +kernel)) (goodIn_sub (fun _ h => List.mem_cons_of_mem _ (List.mem_append_right _ h)) (by decide +kernel))
set_option maxRecDepth 20000 in
theorem gX4_judge_X4_areWords : GoodIn wsX4_judge (wsV RX4 66 RX4 yX4_areWords wsX4_areWords) := goodIn_app (goodIn_of _ (by decide +kernel)) ggX4_judge_X4_areWords
set_option maxRecDepth 20000 in
theorem ggX4_judge_X4_startOf : GoodIn wsX4_judge wsX4_startOf := goodIn_ca (goodIn_r _ [35, 4, 14, 15, 16, 9, 17, 3, 52, 53, 54, 55, 56, 57, 58, 59, 60] (by decide +kernel) (by decide +kernel)) (goodIn_sub (fun _ h => List.mem_cons_of_mem _ (List.mem_append_right _ h)) (by decide +kernel))
set_option maxRecDepth 20000 in
theorem gX4_judge_X4_startOf : GoodIn wsX4_judge (wsV RX4 69 RX4 yX4_startOf wsX4_startOf) := goodIn_app (goodIn_of _ (by decide +kernel)) ggX4_judge_X4_startOf
set_option maxRecDepth 20000 in
theorem ggX4_judge_X4_judgeMore : GoodIn wsX4_judge wsX4_judgeMore := goodIn_ca (goodIn_r _ [39, 5, 4, 14, 15, 16, 9, 17, 3, 21, 22, 23, 6, 7, 8, 10, 1, 40, 41, 42, 43, 44, 45, 46, 47, 28, 29, 30, 31, 2, 48, 49, 50, 51, 52, 53, 54, 55, 56, 57, 58, 59, 60] (by decide +kernel) (by decide +kernel)) (goodIn_sub (fun _ h => List.mem_cons_of_mem _ (List.mem_append_right _ h)) (by decide +kernel))
set_option maxRecDepth 20000 in
theorem gX4_judge_X4_judgeMore : GoodIn wsX4_judge (wsV RX4 73 RX4 yX4_judgeMore wsX4_judgeMore) := goodIn_app (goodIn_of _ (by decide +kernel)) ggX4_judge_X4_judgeMore
theorem dX4_judge_0 : decode cX4_judge 0 = .ok (.aload_n 0, 1) := by decide +kernel
theorem dX4_judge_1 : decode cX4_judge 1 = .ok (.iconst 0, 1) := by decide +kernel
theorem dX4_judge_2 : decode cX4_judge 2 = .ok (.putfield 40, 3) := by decide +kernel
theorem dX4_judge_5 : decode cX4_judge 5 = .ok (.aload_n 0, 1) := by decide +kernel
theorem dX4_judge_6 : decode cX4_judge 6 = .ok (.getfield 31, 3) := by decide +kernel
theorem dX4_judge_9 : decode cX4_judge 9 = .ok (.ifCond .ne 10, 3) := by decide +kernel
theorem dX4_judge_12 : decode cX4_judge 12 = .ok (.aload_n 0, 1) := by decide +kernel
theorem dX4_judge_13 : decode cX4_judge 13 = .ok (.iconst 1, 1) := by decide +kernel
theorem dX4_judge_14 : decode cX4_judge 14 = .ok (.iconst 0, 1) := by decide +kernel
theorem dX4_judge_15 : decode cX4_judge 15 = .ok (.invokevirtual 57, 3) := by decide +kernel
theorem dX4_judge_18 : decode cX4_judge 18 = .ok (.ireturn, 1) := by decide +kernel
theorem dX4_judge_19 : decode cX4_judge 19 = .ok (.aload_n 0, 1) := by decide +kernel
theorem dX4_judge_20 : decode cX4_judge 20 = .ok (.aload_n 0, 1) := by decide +kernel
theorem dX4_judge_21 : decode cX4_judge 21 = .ok (.getfield 7, 3) := by decide +kernel
theorem dX4_judge_24 : decode cX4_judge 24 = .ok (.iconst 0, 1) := by decide +kernel
theorem dX4_judge_25 : decode cX4_judge 25 = .ok (.iaload, 1) := by decide +kernel
theorem dX4_judge_26 : decode cX4_judge 26 = .ok (.putfield 51, 3) := by decide +kernel
theorem dX4_judge_29 : decode cX4_judge 29 = .ok (.aload_n 0, 1) := by decide +kernel
theorem dX4_judge_30 : decode cX4_judge 30 = .ok (.getfield 51, 3) := by decide +kernel
theorem dX4_judge_33 : decode cX4_judge 33 = .ok (.iconst 1, 1) := by decide +kernel
theorem dX4_judge_34 : decode cX4_judge 34 = .ok (.bipush 8, 2) := by decide +kernel
theorem dX4_judge_36 : decode cX4_judge 36 = .ok (.invokestatic 27, 3) := by decide +kernel
theorem dX4_judge_39 : decode cX4_judge 39 = .ok (.ifCond .ne 10, 3) := by decide +kernel
theorem dX4_judge_42 : decode cX4_judge 42 = .ok (.aload_n 0, 1) := by decide +kernel
theorem dX4_judge_43 : decode cX4_judge 43 = .ok (.iconst 2, 1) := by decide +kernel
theorem dX4_judge_44 : decode cX4_judge 44 = .ok (.iconst 0, 1) := by decide +kernel
theorem dX4_judge_45 : decode cX4_judge 45 = .ok (.invokevirtual 57, 3) := by decide +kernel
theorem dX4_judge_48 : decode cX4_judge 48 = .ok (.ireturn, 1) := by decide +kernel
theorem dX4_judge_49 : decode cX4_judge 49 = .ok (.aload_n 0, 1) := by decide +kernel
theorem dX4_judge_50 : decode cX4_judge 50 = .ok (.getfield 31, 3) := by decide +kernel
theorem dX4_judge_53 : decode cX4_judge 53 = .ok (.bipush 64, 2) := by decide +kernel
theorem dX4_judge_55 : decode cX4_judge 55 = .ok (.if_icmp .ge 13, 3) := by decide +kernel
theorem dX4_judge_58 : decode cX4_judge 58 = .ok (.aload_n 0, 1) := by decide +kernel
theorem dX4_judge_59 : decode cX4_judge 59 = .ok (.iconst 3, 1) := by decide +kernel
theorem dX4_judge_60 : decode cX4_judge 60 = .ok (.aload_n 0, 1) := by decide +kernel
theorem dX4_judge_61 : decode cX4_judge 61 = .ok (.getfield 31, 3) := by decide +kernel
theorem dX4_judge_64 : decode cX4_judge 64 = .ok (.invokevirtual 57, 3) := by decide +kernel
theorem dX4_judge_67 : decode cX4_judge 67 = .ok (.ireturn, 1) := by decide +kernel
theorem dX4_judge_68 : decode cX4_judge 68 = .ok (.aload_n 0, 1) := by decide +kernel
theorem dX4_judge_69 : decode cX4_judge 69 = .ok (.aload_n 0, 1) := by decide +kernel
theorem dX4_judge_70 : decode cX4_judge 70 = .ok (.bipush 26, 2) := by decide +kernel
theorem dX4_judge_72 : decode cX4_judge 72 = .ok (.invokevirtual 47, 3) := by decide +kernel
theorem dX4_judge_75 : decode cX4_judge 75 = .ok (.aload_n 0, 1) := by decide +kernel
theorem dX4_judge_76 : decode cX4_judge 76 = .ok (.getfield 51, 3) := by decide +kernel
theorem dX4_judge_79 : decode cX4_judge 79 = .ok (.invokestatic 60, 3) := by decide +kernel
theorem dX4_judge_82 : decode cX4_judge 82 = .ok (.imul, 1) := by decide +kernel
theorem dX4_judge_83 : decode cX4_judge 83 = .ok (.putfield 54, 3) := by decide +kernel
theorem dX4_judge_86 : decode cX4_judge 86 = .ok (.aload_n 0, 1) := by decide +kernel
theorem dX4_judge_87 : decode cX4_judge 87 = .ok (.aload_n 0, 1) := by decide +kernel
theorem dX4_judge_88 : decode cX4_judge 88 = .ok (.bipush 26, 2) := by decide +kernel
theorem dX4_judge_90 : decode cX4_judge 90 = .ok (.invokevirtual 47, 3) := by decide +kernel
theorem dX4_judge_93 : decode cX4_judge 93 = .ok (.ifCond .ne 18, 3) := by decide +kernel
theorem dX4_judge_96 : decode cX4_judge 96 = .ok (.aload_n 0, 1) := by decide +kernel
theorem dX4_judge_97 : decode cX4_judge 97 = .ok (.getfield 51, 3) := by decide +kernel
theorem dX4_judge_100 : decode cX4_judge 100 = .ok (.iconst 4, 1) := by decide +kernel
theorem dX4_judge_101 : decode cX4_judge 101 = .ok (.if_icmp .ge 10, 3) := by decide +kernel
theorem dX4_judge_104 : decode cX4_judge 104 = .ok (.aload_n 0, 1) := by decide +kernel
theorem dX4_judge_105 : decode cX4_judge 105 = .ok (.getfield 31, 3) := by decide +kernel
theorem dX4_judge_108 : decode cX4_judge 108 = .ok (.goto 7, 3) := by decide +kernel
theorem dX4_judge_111 : decode cX4_judge 111 = .ok (.aload_n 0, 1) := by decide +kernel
theorem dX4_judge_112 : decode cX4_judge 112 = .ok (.getfield 54, 3) := by decide +kernel
theorem dX4_judge_115 : decode cX4_judge 115 = .ok (.putfield 54, 3) := by decide +kernel
theorem dX4_judge_118 : decode cX4_judge 118 = .ok (.aload_n 0, 1) := by decide +kernel
theorem dX4_judge_119 : decode cX4_judge 119 = .ok (.getfield 54, 3) := by decide +kernel
theorem dX4_judge_122 : decode cX4_judge 122 = .ok (.bipush 64, 2) := by decide +kernel
theorem dX4_judge_124 : decode cX4_judge 124 = .ok (.aload_n 0, 1) := by decide +kernel
theorem dX4_judge_125 : decode cX4_judge 125 = .ok (.getfield 31, 3) := by decide +kernel
theorem dX4_judge_128 : decode cX4_judge 128 = .ok (.invokestatic 27, 3) := by decide +kernel
theorem dX4_judge_131 : decode cX4_judge 131 = .ok (.ifCond .ne 11, 3) := by decide +kernel
theorem dX4_judge_134 : decode cX4_judge 134 = .ok (.aload_n 0, 1) := by decide +kernel
theorem dX4_judge_135 : decode cX4_judge 135 = .ok (.iconst 4, 1) := by decide +kernel
theorem dX4_judge_136 : decode cX4_judge 136 = .ok (.bipush 26, 2) := by decide +kernel
theorem dX4_judge_138 : decode cX4_judge 138 = .ok (.invokevirtual 57, 3) := by decide +kernel
theorem dX4_judge_141 : decode cX4_judge 141 = .ok (.ireturn, 1) := by decide +kernel
theorem dX4_judge_142 : decode cX4_judge 142 = .ok (.aload_n 0, 1) := by decide +kernel
theorem dX4_judge_143 : decode cX4_judge 143 = .ok (.bipush 14, 2) := by decide +kernel
theorem dX4_judge_145 : decode cX4_judge 145 = .ok (.invokevirtual 47, 3) := by decide +kernel
theorem dX4_judge_148 : decode cX4_judge 148 = .ok (.istore_n 1, 1) := by decide +kernel
theorem dX4_judge_149 : decode cX4_judge 149 = .ok (.iload_n 1, 1) := by decide +kernel
theorem dX4_judge_150 : decode cX4_judge 150 = .ok (.bipush 64, 2) := by decide +kernel
theorem dX4_judge_152 : decode cX4_judge 152 = .ok (.aload_n 0, 1) := by decide +kernel
theorem dX4_judge_153 : decode cX4_judge 153 = .ok (.getfield 54, 3) := by decide +kernel
theorem dX4_judge_156 : decode cX4_judge 156 = .ok (.invokestatic 27, 3) := by decide +kernel
theorem dX4_judge_159 : decode cX4_judge 159 = .ok (.ifCond .ne 11, 3) := by decide +kernel
theorem dX4_judge_162 : decode cX4_judge 162 = .ok (.aload_n 0, 1) := by decide +kernel
theorem dX4_judge_163 : decode cX4_judge 163 = .ok (.iconst 5, 1) := by decide +kernel
theorem dX4_judge_164 : decode cX4_judge 164 = .ok (.bipush 14, 2) := by decide +kernel
theorem dX4_judge_166 : decode cX4_judge 166 = .ok (.invokevirtual 57, 3) := by decide +kernel
theorem dX4_judge_169 : decode cX4_judge 169 = .ok (.ireturn, 1) := by decide +kernel
theorem dX4_judge_170 : decode cX4_judge 170 = .ok (.aload_n 0, 1) := by decide +kernel
theorem dX4_judge_171 : decode cX4_judge 171 = .ok (.iconst 4, 1) := by decide +kernel
theorem dX4_judge_172 : decode cX4_judge 172 = .ok (.invokevirtual 47, 3) := by decide +kernel
theorem dX4_judge_175 : decode cX4_judge 175 = .ok (.iload_n 1, 1) := by decide +kernel
theorem dX4_judge_176 : decode cX4_judge 176 = .ok (.aload_n 0, 1) := by decide +kernel
theorem dX4_judge_177 : decode cX4_judge 177 = .ok (.getfield 54, 3) := by decide +kernel
theorem dX4_judge_180 : decode cX4_judge 180 = .ok (.invokestatic 27, 3) := by decide +kernel
theorem dX4_judge_183 : decode cX4_judge 183 = .ok (.ifCond .ne 11, 3) := by decide +kernel
theorem dX4_judge_186 : decode cX4_judge 186 = .ok (.aload_n 0, 1) := by decide +kernel
theorem dX4_judge_187 : decode cX4_judge 187 = .ok (.bipush 6, 2) := by decide +kernel
theorem dX4_judge_189 : decode cX4_judge 189 = .ok (.iconst 4, 1) := by decide +kernel
theorem dX4_judge_190 : decode cX4_judge 190 = .ok (.invokevirtual 57, 3) := by decide +kernel
theorem dX4_judge_193 : decode cX4_judge 193 = .ok (.ireturn, 1) := by decide +kernel
theorem dX4_judge_194 : decode cX4_judge 194 = .ok (.aload_n 0, 1) := by decide +kernel
theorem dX4_judge_195 : decode cX4_judge 195 = .ok (.bipush 12, 2) := by decide +kernel
theorem dX4_judge_197 : decode cX4_judge 197 = .ok (.invokevirtual 47, 3) := by decide +kernel
theorem dX4_judge_200 : decode cX4_judge 200 = .ok (.sipush 480, 3) := by decide +kernel
theorem dX4_judge_203 : decode cX4_judge 203 = .ok (.iload_n 1, 1) := by decide +kernel
theorem dX4_judge_204 : decode cX4_judge 204 = .ok (.invokestatic 63, 3) := by decide +kernel
theorem dX4_judge_207 : decode cX4_judge 207 = .ok (.ifCond .ne 12, 3) := by decide +kernel
theorem dX4_judge_210 : decode cX4_judge 210 = .ok (.aload_n 0, 1) := by decide +kernel
theorem dX4_judge_211 : decode cX4_judge 211 = .ok (.bipush 7, 2) := by decide +kernel
theorem dX4_judge_213 : decode cX4_judge 213 = .ok (.bipush 12, 2) := by decide +kernel
theorem dX4_judge_215 : decode cX4_judge 215 = .ok (.invokevirtual 57, 3) := by decide +kernel
theorem dX4_judge_218 : decode cX4_judge 218 = .ok (.ireturn, 1) := by decide +kernel
theorem dX4_judge_219 : decode cX4_judge 219 = .ok (.aload_n 0, 1) := by decide +kernel
theorem dX4_judge_220 : decode cX4_judge 220 = .ok (.bipush 10, 2) := by decide +kernel
theorem dX4_judge_222 : decode cX4_judge 222 = .ok (.invokevirtual 47, 3) := by decide +kernel
theorem dX4_judge_225 : decode cX4_judge 225 = .ok (.aload_n 0, 1) := by decide +kernel
theorem dX4_judge_226 : decode cX4_judge 226 = .ok (.getfield 51, 3) := by decide +kernel
theorem dX4_judge_229 : decode cX4_judge 229 = .ok (.iconst 4, 1) := by decide +kernel
theorem dX4_judge_230 : decode cX4_judge 230 = .ok (.if_icmp .ge 8, 3) := by decide +kernel
theorem dX4_judge_233 : decode cX4_judge 233 = .ok (.bipush 62, 2) := by decide +kernel
theorem dX4_judge_235 : decode cX4_judge 235 = .ok (.goto 5, 3) := by decide +kernel
theorem dX4_judge_238 : decode cX4_judge 238 = .ok (.bipush 126, 2) := by decide +kernel
theorem dX4_judge_240 : decode cX4_judge 240 = .ok (.iload_n 1, 1) := by decide +kernel
theorem dX4_judge_241 : decode cX4_judge 241 = .ok (.invokestatic 63, 3) := by decide +kernel
theorem dX4_judge_244 : decode cX4_judge 244 = .ok (.ifCond .ne 12, 3) := by decide +kernel
theorem dX4_judge_247 : decode cX4_judge 247 = .ok (.aload_n 0, 1) := by decide +kernel
theorem dX4_judge_248 : decode cX4_judge 248 = .ok (.bipush 8, 2) := by decide +kernel
theorem dX4_judge_250 : decode cX4_judge 250 = .ok (.bipush 10, 2) := by decide +kernel
theorem dX4_judge_252 : decode cX4_judge 252 = .ok (.invokevirtual 57, 3) := by decide +kernel
theorem dX4_judge_255 : decode cX4_judge 255 = .ok (.ireturn, 1) := by decide +kernel
theorem dX4_judge_256 : decode cX4_judge 256 = .ok (.aload_n 0, 1) := by decide +kernel
theorem dX4_judge_257 : decode cX4_judge 257 = .ok (.aload_n 0, 1) := by decide +kernel
theorem dX4_judge_258 : decode cX4_judge 258 = .ok (.bipush 8, 2) := by decide +kernel
theorem dX4_judge_260 : decode cX4_judge 260 = .ok (.invokevirtual 47, 3) := by decide +kernel
theorem dX4_judge_263 : decode cX4_judge 263 = .ok (.invokevirtual 66, 3) := by decide +kernel
theorem dX4_judge_266 : decode cX4_judge 266 = .ok (.ifCond .ne 12, 3) := by decide +kernel
theorem dX4_judge_269 : decode cX4_judge 269 = .ok (.aload_n 0, 1) := by decide +kernel
theorem dX4_judge_270 : decode cX4_judge 270 = .ok (.bipush 9, 2) := by decide +kernel
theorem dX4_judge_272 : decode cX4_judge 272 = .ok (.bipush 8, 2) := by decide +kernel
theorem dX4_judge_274 : decode cX4_judge 274 = .ok (.invokevirtual 57, 3) := by decide +kernel
theorem dX4_judge_277 : decode cX4_judge 277 = .ok (.ireturn, 1) := by decide +kernel
theorem dX4_judge_278 : decode cX4_judge 278 = .ok (.aload_n 0, 1) := by decide +kernel
theorem dX4_judge_279 : decode cX4_judge 279 = .ok (.getfield 51, 3) := by decide +kernel
theorem dX4_judge_282 : decode cX4_judge 282 = .ok (.iconst 1, 1) := by decide +kernel
theorem dX4_judge_283 : decode cX4_judge 283 = .ok (.if_icmp .le 53, 3) := by decide +kernel
theorem dX4_judge_286 : decode cX4_judge 286 = .ok (.aload_n 0, 1) := by decide +kernel
theorem dX4_judge_287 : decode cX4_judge 287 = .ok (.bipush 24, 2) := by decide +kernel
theorem dX4_judge_289 : decode cX4_judge 289 = .ok (.invokevirtual 47, 3) := by decide +kernel
theorem dX4_judge_292 : decode cX4_judge 292 = .ok (.ifCond .eq 44, 3) := by decide +kernel
theorem dX4_judge_295 : decode cX4_judge 295 = .ok (.aload_n 0, 1) := by decide +kernel
theorem dX4_judge_296 : decode cX4_judge 296 = .ok (.bipush 24, 2) := by decide +kernel
theorem dX4_judge_298 : decode cX4_judge 298 = .ok (.invokevirtual 47, 3) := by decide +kernel
theorem dX4_judge_301 : decode cX4_judge 301 = .ok (.aload_n 0, 1) := by decide +kernel
theorem dX4_judge_302 : decode cX4_judge 302 = .ok (.getfield 51, 3) := by decide +kernel
theorem dX4_judge_305 : decode cX4_judge 305 = .ok (.iconst 2, 1) := by decide +kernel
theorem dX4_judge_306 : decode cX4_judge 306 = .ok (.if_icmp .ne 8, 3) := by decide +kernel
theorem dX4_judge_309 : decode cX4_judge 309 = .ok (.bipush 64, 2) := by decide +kernel
theorem dX4_judge_311 : decode cX4_judge 311 = .ok (.goto 6, 3) := by decide +kernel
theorem dX4_judge_314 : decode cX4_judge 314 = .ok (.sipush 192, 3) := by decide +kernel
theorem dX4_judge_317 : decode cX4_judge 317 = .ok (.aload_n 0, 1) := by decide +kernel
theorem dX4_judge_318 : decode cX4_judge 318 = .ok (.getfield 54, 3) := by decide +kernel
theorem dX4_judge_321 : decode cX4_judge 321 = .ok (.invokestatic 63, 3) := by decide +kernel
theorem dX4_judge_324 : decode cX4_judge 324 = .ok (.ifCond .ne 12, 3) := by decide +kernel
theorem dX4_judge_327 : decode cX4_judge 327 = .ok (.aload_n 0, 1) := by decide +kernel
theorem dX4_judge_328 : decode cX4_judge 328 = .ok (.bipush 10, 2) := by decide +kernel
theorem dX4_judge_330 : decode cX4_judge 330 = .ok (.bipush 24, 2) := by decide +kernel
theorem dX4_judge_332 : decode cX4_judge 332 = .ok (.invokevirtual 57, 3) := by decide +kernel
theorem dX4_judge_335 : decode cX4_judge 335 = .ok (.ireturn, 1) := by decide +kernel
theorem dX4_judge_336 : decode cX4_judge 336 = .ok (.aload_n 0, 1) := by decide +kernel
theorem dX4_judge_337 : decode cX4_judge 337 = .ok (.invokevirtual 69, 3) := by decide +kernel
theorem dX4_judge_340 : decode cX4_judge 340 = .ok (.bipush 64, 2) := by decide +kernel
theorem dX4_judge_342 : decode cX4_judge 342 = .ok (.aload_n 0, 1) := by decide +kernel
theorem dX4_judge_343 : decode cX4_judge 343 = .ok (.getfield 54, 3) := by decide +kernel
theorem dX4_judge_346 : decode cX4_judge 346 = .ok (.iconst 1, 1) := by decide +kernel
theorem dX4_judge_347 : decode cX4_judge 347 = .ok (.isub, 1) := by decide +kernel
theorem dX4_judge_348 : decode cX4_judge 348 = .ok (.invokestatic 27, 3) := by decide +kernel
theorem dX4_judge_351 : decode cX4_judge 351 = .ok (.ifCond .ne 12, 3) := by decide +kernel
theorem dX4_judge_354 : decode cX4_judge 354 = .ok (.aload_n 0, 1) := by decide +kernel
theorem dX4_judge_355 : decode cX4_judge 355 = .ok (.bipush 11, 2) := by decide +kernel
theorem dX4_judge_357 : decode cX4_judge 357 = .ok (.bipush 6, 2) := by decide +kernel
theorem dX4_judge_359 : decode cX4_judge 359 = .ok (.invokevirtual 57, 3) := by decide +kernel
theorem dX4_judge_362 : decode cX4_judge 362 = .ok (.ireturn, 1) := by decide +kernel
theorem dX4_judge_363 : decode cX4_judge 363 = .ok (.aload_n 0, 1) := by decide +kernel
theorem dX4_judge_364 : decode cX4_judge 364 = .ok (.getfield 51, 3) := by decide +kernel
theorem dX4_judge_367 : decode cX4_judge 367 = .ok (.iconst 5, 1) := by decide +kernel
theorem dX4_judge_368 : decode cX4_judge 368 = .ok (.if_icmp .ge 10, 3) := by decide +kernel
theorem dX4_judge_371 : decode cX4_judge 371 = .ok (.aload_n 0, 1) := by decide +kernel
theorem dX4_judge_372 : decode cX4_judge 372 = .ok (.getfield 51, 3) := by decide +kernel
theorem dX4_judge_375 : decode cX4_judge 375 = .ok (.goto 7, 3) := by decide +kernel
theorem dX4_judge_378 : decode cX4_judge 378 = .ok (.aload_n 0, 1) := by decide +kernel
theorem dX4_judge_379 : decode cX4_judge 379 = .ok (.invokevirtual 73, 3) := by decide +kernel
theorem dX4_judge_382 : decode cX4_judge 382 = .ok (.ireturn, 1) := by decide +kernel
set_option maxRecDepth 20000 in
theorem ggX4_judgeMore_X4_two : GoodIn wsX4_judgeMore wsX4_two := goodIn_ca (goodIn_r _ [7, 8, 34, 35, 36, 37, 38, 39, 40, 41, 42] (by decide +kernel) (by decide +kernel)) (goodIn_sub (fun _ h => List.mem_cons_of_mem _ (List.mem_append_right _ h)) (by decide +kernel))
set_option maxRecDepth 20000 in
theorem gX4_judgeMore_X4_two : GoodIn wsX4_judgeMore (wsV RX4 47 RX4 yX4_two wsX4_two) := goodIn_app (goodIn_of _ (by decide +kernel)) ggX4_judgeMore_X4_two
set_option maxRecDepth 20000 in
theorem ggX4_judgeMore_X4_fits : GoodIn wsX4_judgeMore wsX4_fits := goodIn_r _ [11] (by decide +kernel) (by decide +kernel)
set_option maxRecDepth 20000 in
theorem gX4_judgeMore_X4_fits : GoodIn wsX4_judgeMore (va_wsS RX4 63 yX4_fits wsX4_fits) := goodIn_app (goodIn_of _ (by decide +kernel)) ggX4_judgeMore_X4_fits
set_option maxRecDepth 20000 in
theorem ggX4_judgeMore_X4_brokenAt : GoodIn wsX4_judgeMore wsX4_brokenAt := goodIn_r _ [15, 16, 34, 35, 36, 37, 38, 39, 40, 41, 42] (by decide +kernel) (by decide +kernel)
set_option maxRecDepth 20000 in
theorem gX4_judgeMore_X4_brokenAt : GoodIn wsX4_judgeMore (wsV RX4 57 RX4 yX4_brokenAt wsX4_brokenAt) := goodIn_app (goodIn_of _ (by decide +kernel)) ggX4_judgeMore_X4_brokenAt
set_option maxRecDepth 20000 in
theorem ggX4_judgeMore_X4_areEnds : GoodIn wsX4_judgeMore wsX4_areEnds := goodIn_ca (goodIn_r _ [20, 1, 8, 34, 35, 36, 37, 38, 39, 40, 41, 42] (by decide +kernel) (by decide +kernel)) (goodIn_sub (fun _ h => List.mem_cons_of_mem _ (List.mem_append_right _ h)) (by decide +kernel))
set_option maxRecDepth 20000 in
theorem gX4_judgeMore_X4_areEnds : GoodIn wsX4_judgeMore (wsV RX4 76 RX4 yX4_areEnds wsX4_areEnds) := goodIn_app (goodIn_of _ (by decide +kernel)) ggX4_judgeMore_X4_areEnds
set_option maxRecDepth 20000 in
theorem ggX4_judgeMore_X4_isMore : GoodIn wsX4_judgeMore wsX4_isMore := goodIn_ca (goodIn_r _ [24, 1, 25, 26, 27, 6, 28, 29, 3, 4, 5, 7, 8, 34, 35, 36, 37, 38, 39, 40, 41, 42] (by decide +kernel) (by decide +kernel)) (goodIn_sub (fun _ h => List.mem_cons_of_mem _ (List.mem_append_right _ h)) (by decide +kernel))
set_option maxRecDepth 20000 in
theorem gX4_judgeMore_X4_isMore : GoodIn wsX4_judgeMore (wsV RX4 79 RX4 yX4_isMore wsX4_isMore) := goodIn_app (goodIn_of _ (by decide +kernel)) ggX4_judgeMore_X4_isMore
set_option maxRecDepth 20000 in
theorem ggX4_judgeMore_X4_isThird : GoodIn wsX4_judgeMore wsX4_isThird := goodIn_ca (goodIn_r _ [33, 8, 1, 3, 4, 5, 6, 7, 25, 26, 27, 28, 29, 34, 35, 36, 37, 38, 39, 40, 41, 42] (by decide +kernel) (by decide +kernel)) (goodIn_sub (fun _ h => List.mem_cons_of_mem _ (List.mem_append_right _ h)) (by decide +kernel))
set_option maxRecDepth 20000 in
theorem gX4_judgeMore_X4_isThird : GoodIn wsX4_judgeMore (wsV RX4 82 RX4 yX4_isThird wsX4_isThird) := goodIn_app (goodIn_of _ (by decide +kernel)) ggX4_judgeMore_X4_isThird
theorem dX4_judgeMore_0 : decode cX4_judgeMore 0 = .ok (.aload_n 0, 1) := by decide +kernel
theorem dX4_judgeMore_1 : decode cX4_judgeMore 1 = .ok (.bipush 52, 2) := by decide +kernel
theorem dX4_judgeMore_3 : decode cX4_judgeMore 3 = .ok (.invokevirtual 47, 3) := by decide +kernel
theorem dX4_judgeMore_6 : decode cX4_judgeMore 6 = .ok (.ifCond .eq 30, 3) := by decide +kernel
theorem dX4_judgeMore_9 : decode cX4_judgeMore 9 = .ok (.aload_n 0, 1) := by decide +kernel
theorem dX4_judgeMore_10 : decode cX4_judgeMore 10 = .ok (.bipush 52, 2) := by decide +kernel
theorem dX4_judgeMore_12 : decode cX4_judgeMore 12 = .ok (.invokevirtual 47, 3) := by decide +kernel
theorem dX4_judgeMore_15 : decode cX4_judgeMore 15 = .ok (.bipush 78, 2) := by decide +kernel
theorem dX4_judgeMore_17 : decode cX4_judgeMore 17 = .ok (.aload_n 0, 1) := by decide +kernel
theorem dX4_judgeMore_18 : decode cX4_judgeMore 18 = .ok (.getfield 54, 3) := by decide +kernel
theorem dX4_judgeMore_21 : decode cX4_judgeMore 21 = .ok (.invokestatic 63, 3) := by decide +kernel
theorem dX4_judgeMore_24 : decode cX4_judgeMore 24 = .ok (.ifCond .ne 12, 3) := by decide +kernel
theorem dX4_judgeMore_27 : decode cX4_judgeMore 27 = .ok (.aload_n 0, 1) := by decide +kernel
theorem dX4_judgeMore_28 : decode cX4_judgeMore 28 = .ok (.bipush 12, 2) := by decide +kernel
theorem dX4_judgeMore_30 : decode cX4_judgeMore 30 = .ok (.bipush 52, 2) := by decide +kernel
theorem dX4_judgeMore_32 : decode cX4_judgeMore 32 = .ok (.invokevirtual 57, 3) := by decide +kernel
theorem dX4_judgeMore_35 : decode cX4_judgeMore 35 = .ok (.ireturn, 1) := by decide +kernel
theorem dX4_judgeMore_36 : decode cX4_judgeMore 36 = .ok (.aload_n 0, 1) := by decide +kernel
theorem dX4_judgeMore_37 : decode cX4_judgeMore 37 = .ok (.aload_n 0, 1) := by decide +kernel
theorem dX4_judgeMore_38 : decode cX4_judgeMore 38 = .ok (.bipush 46, 2) := by decide +kernel
theorem dX4_judgeMore_40 : decode cX4_judgeMore 40 = .ok (.invokevirtual 47, 3) := by decide +kernel
theorem dX4_judgeMore_43 : decode cX4_judgeMore 43 = .ok (.invokevirtual 76, 3) := by decide +kernel
theorem dX4_judgeMore_46 : decode cX4_judgeMore 46 = .ok (.ifCond .ne 12, 3) := by decide +kernel
theorem dX4_judgeMore_49 : decode cX4_judgeMore 49 = .ok (.aload_n 0, 1) := by decide +kernel
theorem dX4_judgeMore_50 : decode cX4_judgeMore 50 = .ok (.bipush 13, 2) := by decide +kernel
theorem dX4_judgeMore_52 : decode cX4_judgeMore 52 = .ok (.bipush 46, 2) := by decide +kernel
theorem dX4_judgeMore_54 : decode cX4_judgeMore 54 = .ok (.invokevirtual 57, 3) := by decide +kernel
theorem dX4_judgeMore_57 : decode cX4_judgeMore 57 = .ok (.ireturn, 1) := by decide +kernel
theorem dX4_judgeMore_58 : decode cX4_judgeMore 58 = .ok (.aload_n 0, 1) := by decide +kernel
theorem dX4_judgeMore_59 : decode cX4_judgeMore 59 = .ok (.bipush 54, 2) := by decide +kernel
theorem dX4_judgeMore_61 : decode cX4_judgeMore 61 = .ok (.invokevirtual 47, 3) := by decide +kernel
theorem dX4_judgeMore_64 : decode cX4_judgeMore 64 = .ok (.istore_n 1, 1) := by decide +kernel
theorem dX4_judgeMore_65 : decode cX4_judgeMore 65 = .ok (.aload_n 0, 1) := by decide +kernel
theorem dX4_judgeMore_66 : decode cX4_judgeMore 66 = .ok (.iload_n 1, 1) := by decide +kernel
theorem dX4_judgeMore_67 : decode cX4_judgeMore 67 = .ok (.invokevirtual 79, 3) := by decide +kernel
theorem dX4_judgeMore_70 : decode cX4_judgeMore 70 = .ok (.ifCond .ne 12, 3) := by decide +kernel
theorem dX4_judgeMore_73 : decode cX4_judgeMore 73 = .ok (.aload_n 0, 1) := by decide +kernel
theorem dX4_judgeMore_74 : decode cX4_judgeMore 74 = .ok (.bipush 14, 2) := by decide +kernel
theorem dX4_judgeMore_76 : decode cX4_judgeMore 76 = .ok (.bipush 54, 2) := by decide +kernel
theorem dX4_judgeMore_78 : decode cX4_judgeMore 78 = .ok (.invokevirtual 57, 3) := by decide +kernel
theorem dX4_judgeMore_81 : decode cX4_judgeMore 81 = .ok (.ireturn, 1) := by decide +kernel
theorem dX4_judgeMore_82 : decode cX4_judgeMore 82 = .ok (.iload_n 1, 1) := by decide +kernel
theorem dX4_judgeMore_83 : decode cX4_judgeMore 83 = .ok (.ifCond .eq 31, 3) := by decide +kernel
theorem dX4_judgeMore_86 : decode cX4_judgeMore 86 = .ok (.aload_n 0, 1) := by decide +kernel
theorem dX4_judgeMore_87 : decode cX4_judgeMore 87 = .ok (.iload_n 1, 1) := by decide +kernel
theorem dX4_judgeMore_88 : decode cX4_judgeMore 88 = .ok (.invokevirtual 47, 3) := by decide +kernel
theorem dX4_judgeMore_91 : decode cX4_judgeMore 91 = .ok (.iconst 2, 1) := by decide +kernel
theorem dX4_judgeMore_92 : decode cX4_judgeMore 92 = .ok (.if_icmp .le 22, 3) := by decide +kernel
theorem dX4_judgeMore_95 : decode cX4_judgeMore 95 = .ok (.aload_n 0, 1) := by decide +kernel
theorem dX4_judgeMore_96 : decode cX4_judgeMore 96 = .ok (.iload_n 1, 1) := by decide +kernel
theorem dX4_judgeMore_97 : decode cX4_judgeMore 97 = .ok (.invokevirtual 82, 3) := by decide +kernel
theorem dX4_judgeMore_100 : decode cX4_judgeMore 100 = .ok (.ifCond .ne 14, 3) := by decide +kernel
theorem dX4_judgeMore_103 : decode cX4_judgeMore 103 = .ok (.aload_n 0, 1) := by decide +kernel
theorem dX4_judgeMore_104 : decode cX4_judgeMore 104 = .ok (.bipush 15, 2) := by decide +kernel
theorem dX4_judgeMore_106 : decode cX4_judgeMore 106 = .ok (.iload_n 1, 1) := by decide +kernel
theorem dX4_judgeMore_107 : decode cX4_judgeMore 107 = .ok (.bipush 6, 2) := by decide +kernel
theorem dX4_judgeMore_109 : decode cX4_judgeMore 109 = .ok (.iadd, 1) := by decide +kernel
theorem dX4_judgeMore_110 : decode cX4_judgeMore 110 = .ok (.invokevirtual 57, 3) := by decide +kernel
theorem dX4_judgeMore_113 : decode cX4_judgeMore 113 = .ok (.ireturn, 1) := by decide +kernel
theorem dX4_judgeMore_114 : decode cX4_judgeMore 114 = .ok (.aload_n 0, 1) := by decide +kernel
theorem dX4_judgeMore_115 : decode cX4_judgeMore 115 = .ok (.getfield 51, 3) := by decide +kernel
theorem dX4_judgeMore_118 : decode cX4_judgeMore 118 = .ok (.ireturn, 1) := by decide +kernel
set_option maxRecDepth 20000 in
theorem ggX4_read_X4_judge : GoodIn wsX4_read wsX4_judge := goodIn_ca (goodIn_r _ [11, 12, 3, 5, 13, 14, 15, 16, 17, 10, 18, 19, 20, 21, 22, 23, 24, 25, 26, 27, 28, 29, 30, 31, 32, 33, 34, 35, 36, 37, 38, 39, 40, 41, 42, 43, 44, 45, 46, 47, 48, 49, 50, 51, 52, 53, 54, 55, 56, 57, 58, 59, 60, 61, 62, 63, 64, 65, 66, 67, 68] (by decide +kernel) (by decide +kernel)) (goodIn_sub (fun _ h => List.mem_cons_of_mem _ (List.mem_append_right _ h)) (by decide +kernel))
set_option maxRecDepth 20000 in
theorem gX4_read_X4_judge : GoodIn wsX4_read (wsV RX4 85 RX4 yX4_judge wsX4_judge) := goodIn_app (goodIn_of _ (by decide +kernel)) ggX4_read_X4_judge
theorem dX4_read_0 : decode cX4_read 0 = .ok (.aload_n 0, 1) := by decide +kernel
theorem dX4_read_1 : decode cX4_read 1 = .ok (.iconst 0, 1) := by decide +kernel
theorem dX4_read_2 : decode cX4_read 2 = .ok (.putfield 19, 3) := by decide +kernel
theorem dX4_read_5 : decode cX4_read 5 = .ok (.aload_n 0, 1) := by decide +kernel
theorem dX4_read_6 : decode cX4_read 6 = .ok (.invokevirtual 85, 3) := by decide +kernel
theorem dX4_read_9 : decode cX4_read 9 = .ok (.istore_n 1, 1) := by decide +kernel
theorem dX4_read_10 : decode cX4_read 10 = .ok (.aload_n 0, 1) := by decide +kernel
theorem dX4_read_11 : decode cX4_read 11 = .ok (.iload_n 1, 1) := by decide +kernel
theorem dX4_read_12 : decode cX4_read 12 = .ok (.ifCond .le 7, 3) := by decide +kernel
theorem dX4_read_15 : decode cX4_read 15 = .ok (.iconst 1, 1) := by decide +kernel
theorem dX4_read_16 : decode cX4_read 16 = .ok (.goto 4, 3) := by decide +kernel
theorem dX4_read_19 : decode cX4_read 19 = .ok (.iconst 0, 1) := by decide +kernel
theorem dX4_read_20 : decode cX4_read 20 = .ok (.putfield 36, 3) := by decide +kernel
theorem dX4_read_23 : decode cX4_read 23 = .ok (.iconst 0, 1) := by decide +kernel
theorem dX4_read_24 : decode cX4_read 24 = .ok (.istore_n 2, 1) := by decide +kernel
theorem dX4_read_25 : decode cX4_read 25 = .ok (.iload_n 2, 1) := by decide +kernel
theorem dX4_read_26 : decode cX4_read 26 = .ok (.aload_n 0, 1) := by decide +kernel
theorem dX4_read_27 : decode cX4_read 27 = .ok (.getfield 31, 3) := by decide +kernel
theorem dX4_read_30 : decode cX4_read 30 = .ok (.if_icmp .ge 40, 3) := by decide +kernel
theorem dX4_read_33 : decode cX4_read 33 = .ok (.aload_n 0, 1) := by decide +kernel
theorem dX4_read_34 : decode cX4_read 34 = .ok (.getfield 36, 3) := by decide +kernel
theorem dX4_read_37 : decode cX4_read 37 = .ok (.ifCond .eq 33, 3) := by decide +kernel
theorem dX4_read_40 : decode cX4_read 40 = .ok (.aload_n 0, 1) := by decide +kernel
theorem dX4_read_41 : decode cX4_read 41 = .ok (.getfield 13, 3) := by decide +kernel
theorem dX4_read_44 : decode cX4_read 44 = .ok (.iload_n 2, 1) := by decide +kernel
theorem dX4_read_45 : decode cX4_read 45 = .ok (.aload_n 0, 1) := by decide +kernel
theorem dX4_read_46 : decode cX4_read 46 = .ok (.getfield 7, 3) := by decide +kernel
theorem dX4_read_49 : decode cX4_read 49 = .ok (.iload_n 2, 1) := by decide +kernel
theorem dX4_read_50 : decode cX4_read 50 = .ok (.iaload, 1) := by decide +kernel
theorem dX4_read_51 : decode cX4_read 51 = .ok (.iastore, 1) := by decide +kernel
theorem dX4_read_52 : decode cX4_read 52 = .ok (.aload_n 0, 1) := by decide +kernel
theorem dX4_read_53 : decode cX4_read 53 = .ok (.getfield 16, 3) := by decide +kernel
theorem dX4_read_56 : decode cX4_read 56 = .ok (.iload_n 2, 1) := by decide +kernel
theorem dX4_read_57 : decode cX4_read 57 = .ok (.aload_n 0, 1) := by decide +kernel
theorem dX4_read_58 : decode cX4_read 58 = .ok (.getfield 7, 3) := by decide +kernel
theorem dX4_read_61 : decode cX4_read 61 = .ok (.iload_n 2, 1) := by decide +kernel
theorem dX4_read_62 : decode cX4_read 62 = .ok (.iaload, 1) := by decide +kernel
theorem dX4_read_63 : decode cX4_read 63 = .ok (.iastore, 1) := by decide +kernel
theorem dX4_read_64 : decode cX4_read 64 = .ok (.iinc 2 1, 3) := by decide +kernel
theorem dX4_read_67 : decode cX4_read 67 = .ok (.goto (-42), 3) := by decide +kernel
theorem dX4_read_70 : decode cX4_read 70 = .ok (.iload_n 1, 1) := by decide +kernel
theorem dX4_read_71 : decode cX4_read 71 = .ok (.ireturn, 1) := by decide +kernel
theorem dX4_rule_0 : decode cX4_rule 0 = .ok (.aload_n 0, 1) := by decide +kernel
theorem dX4_rule_1 : decode cX4_rule 1 = .ok (.iconst 0, 1) := by decide +kernel
theorem dX4_rule_2 : decode cX4_rule 2 = .ok (.putfield 19, 3) := by decide +kernel
theorem dX4_rule_5 : decode cX4_rule 5 = .ok (.aload_n 0, 1) := by decide +kernel
theorem dX4_rule_6 : decode cX4_rule 6 = .ok (.getfield 40, 3) := by decide +kernel
theorem dX4_rule_9 : decode cX4_rule 9 = .ok (.ireturn, 1) := by decide +kernel
set_option maxRecDepth 20000 in
theorem ggX4_ofMore_X4_two : GoodIn wsX4_ofMore wsX4_two := goodIn_ca (goodIn_r _ [6, 7, 8, 9, 10, 11, 12, 13, 14, 15, 16] (by decide +kernel) (by decide +kernel)) (goodIn_sub (fun _ h => List.mem_cons_of_mem _ (List.mem_append_right _ h)) (by decide +kernel))
set_option maxRecDepth 20000 in
theorem gX4_ofMore_X4_two : GoodIn wsX4_ofMore (wsV RX4 47 RX4 yX4_two wsX4_two) := goodIn_app (goodIn_of _ (by decide +kernel)) ggX4_ofMore_X4_two
theorem dX4_ofMore_0 : decode cX4_ofMore 0 = .ok (.aload_n 0, 1) := by decide +kernel
theorem dX4_ofMore_1 : decode cX4_ofMore 1 = .ok (.bipush 54, 2) := by decide +kernel
theorem dX4_ofMore_3 : decode cX4_ofMore 3 = .ok (.invokevirtual 47, 3) := by decide +kernel
theorem dX4_ofMore_6 : decode cX4_ofMore 6 = .ok (.istore_n 2, 1) := by decide +kernel
theorem dX4_ofMore_7 : decode cX4_ofMore 7 = .ok (.aload_n 0, 1) := by decide +kernel
theorem dX4_ofMore_8 : decode cX4_ofMore 8 = .ok (.getfield 51, 3) := by decide +kernel
theorem dX4_ofMore_11 : decode cX4_ofMore 11 = .ok (.iconst 5, 1) := by decide +kernel
theorem dX4_ofMore_12 : decode cX4_ofMore 12 = .ok (.if_icmp .lt 7, 3) := by decide +kernel
theorem dX4_ofMore_15 : decode cX4_ofMore 15 = .ok (.iload_n 2, 1) := by decide +kernel
theorem dX4_ofMore_16 : decode cX4_ofMore 16 = .ok (.ifCond .ne 5, 3) := by decide +kernel
theorem dX4_ofMore_19 : decode cX4_ofMore 19 = .ok (.iconst 0, 1) := by decide +kernel
theorem dX4_ofMore_20 : decode cX4_ofMore 20 = .ok (.ireturn, 1) := by decide +kernel
theorem dX4_ofMore_21 : decode cX4_ofMore 21 = .ok (.iload_n 1, 1) := by decide +kernel
theorem dX4_ofMore_22 : decode cX4_ofMore 22 = .ok (.bipush 11, 2) := by decide +kernel
theorem dX4_ofMore_24 : decode cX4_ofMore 24 = .ok (.if_icmp .ne 11, 3) := by decide +kernel
theorem dX4_ofMore_27 : decode cX4_ofMore 27 = .ok (.aload_n 0, 1) := by decide +kernel
theorem dX4_ofMore_28 : decode cX4_ofMore 28 = .ok (.iload_n 2, 1) := by decide +kernel
theorem dX4_ofMore_29 : decode cX4_ofMore 29 = .ok (.invokevirtual 47, 3) := by decide +kernel
theorem dX4_ofMore_32 : decode cX4_ofMore 32 = .ok (.goto 24, 3) := by decide +kernel
theorem dX4_ofMore_35 : decode cX4_ofMore 35 = .ok (.aload_n 0, 1) := by decide +kernel
theorem dX4_ofMore_36 : decode cX4_ofMore 36 = .ok (.iload_n 2, 1) := by decide +kernel
theorem dX4_ofMore_37 : decode cX4_ofMore 37 = .ok (.invokevirtual 47, 3) := by decide +kernel
theorem dX4_ofMore_40 : decode cX4_ofMore 40 = .ok (.iconst 2, 1) := by decide +kernel
theorem dX4_ofMore_41 : decode cX4_ofMore 41 = .ok (.if_icmp .le 14, 3) := by decide +kernel
theorem dX4_ofMore_44 : decode cX4_ofMore 44 = .ok (.aload_n 0, 1) := by decide +kernel
theorem dX4_ofMore_45 : decode cX4_ofMore 45 = .ok (.iload_n 2, 1) := by decide +kernel
theorem dX4_ofMore_46 : decode cX4_ofMore 46 = .ok (.bipush 6, 2) := by decide +kernel
theorem dX4_ofMore_48 : decode cX4_ofMore 48 = .ok (.iadd, 1) := by decide +kernel
theorem dX4_ofMore_49 : decode cX4_ofMore 49 = .ok (.invokevirtual 47, 3) := by decide +kernel
theorem dX4_ofMore_52 : decode cX4_ofMore 52 = .ok (.goto 4, 3) := by decide +kernel
theorem dX4_ofMore_55 : decode cX4_ofMore 55 = .ok (.iconst 0, 1) := by decide +kernel
theorem dX4_ofMore_56 : decode cX4_ofMore 56 = .ok (.ireturn, 1) := by decide +kernel
set_option maxRecDepth 20000 in
theorem ggX4_field_X4_two : GoodIn wsX4_field wsX4_two := goodIn_ca (goodIn_r _ [10, 5, 19, 20, 21, 22, 23, 24, 25, 26, 27] (by decide +kernel) (by decide +kernel)) (goodIn_sub (fun _ h => List.mem_cons_of_mem _ (List.mem_append_right _ h)) (by decide +kernel))
set_option maxRecDepth 20000 in
theorem gX4_field_X4_two : GoodIn wsX4_field (wsV RX4 47 RX4 yX4_two wsX4_two) := goodIn_app (goodIn_of _ (by decide +kernel)) ggX4_field_X4_two
set_option maxRecDepth 20000 in
theorem ggX4_field_X4_startOf : GoodIn wsX4_field wsX4_startOf := goodIn_ca (goodIn_r _ [14, 3, 6, 7, 8, 9, 10, 5, 19, 20, 21, 22, 23, 24, 25, 26, 27] (by decide +kernel) (by decide +kernel)) (goodIn_sub (fun _ h => List.mem_cons_of_mem _ (List.mem_append_right _ h)) (by decide +kernel))
set_option maxRecDepth 20000 in
theorem gX4_field_X4_startOf : GoodIn wsX4_field (wsV RX4 69 RX4 yX4_startOf wsX4_startOf) := goodIn_app (goodIn_of _ (by decide +kernel)) ggX4_field_X4_startOf
set_option maxRecDepth 20000 in
theorem ggX4_field_X4_ofMore : GoodIn wsX4_field wsX4_ofMore := goodIn_ca (goodIn_r _ [18, 3, 6, 7, 8, 9, 10, 5, 19, 20, 21, 22, 23, 24, 25, 26, 27] (by decide +kernel) (by decide +kernel)) (goodIn_sub (fun _ h => List.mem_cons_of_mem _ (List.mem_append_right _ h)) (by decide +kernel))
set_option maxRecDepth 20000 in
theorem gX4_field_X4_ofMore : GoodIn wsX4_field (wsV RX4 88 RX4 yX4_ofMore wsX4_ofMore) := goodIn_app (goodIn_of _ (by decide +kernel)) ggX4_field_X4_ofMore
theorem dX4_field_0 : decode cX4_field 0 = .ok (.aload_n 0, 1) := by decide +kernel
theorem dX4_field_1 : decode cX4_field 1 = .ok (.iconst 0, 1) := by decide +kernel
theorem dX4_field_2 : decode cX4_field 2 = .ok (.putfield 19, 3) := by decide +kernel
theorem dX4_field_5 : decode cX4_field 5 = .ok (.aload_n 0, 1) := by decide +kernel
theorem dX4_field_6 : decode cX4_field 6 = .ok (.getfield 36, 3) := by decide +kernel
theorem dX4_field_9 : decode cX4_field 9 = .ok (.ifCond .ne 6, 3) := by decide +kernel
theorem dX4_field_12 : decode cX4_field 12 = .ok (.bipush (-11), 2) := by decide +kernel
theorem dX4_field_14 : decode cX4_field 14 = .ok (.ireturn, 1) := by decide +kernel
theorem dX4_field_15 : decode cX4_field 15 = .ok (.aload_n 0, 1) := by decide +kernel
theorem dX4_field_16 : decode cX4_field 16 = .ok (.bipush 8, 2) := by decide +kernel
theorem dX4_field_18 : decode cX4_field 18 = .ok (.invokevirtual 47, 3) := by decide +kernel
theorem dX4_field_21 : decode cX4_field 21 = .ok (.istore_n 2, 1) := by decide +kernel
theorem dX4_field_22 : decode cX4_field 22 = .ok (.iload_n 1, 1) := by decide +kernel
theorem dX4_field_23 : decode cX4_field 23 = .ok (.tableswitch 244 0 17 #[85, 90, 95, 102, 108, 115, 122, 124, 143, 148, 167, 186, 186, 192, 198, 205, 221, 237], 85) := by decide +kernel
theorem dX4_field_108 : decode cX4_field 108 = .ok (.aload_n 0, 1) := by decide +kernel
theorem dX4_field_109 : decode cX4_field 109 = .ok (.getfield 51, 3) := by decide +kernel
theorem dX4_field_112 : decode cX4_field 112 = .ok (.ireturn, 1) := by decide +kernel
theorem dX4_field_113 : decode cX4_field 113 = .ok (.aload_n 0, 1) := by decide +kernel
theorem dX4_field_114 : decode cX4_field 114 = .ok (.getfield 54, 3) := by decide +kernel
theorem dX4_field_117 : decode cX4_field 117 = .ok (.ireturn, 1) := by decide +kernel
theorem dX4_field_118 : decode cX4_field 118 = .ok (.aload_n 0, 1) := by decide +kernel
theorem dX4_field_119 : decode cX4_field 119 = .ok (.bipush 14, 2) := by decide +kernel
theorem dX4_field_121 : decode cX4_field 121 = .ok (.invokevirtual 47, 3) := by decide +kernel
theorem dX4_field_124 : decode cX4_field 124 = .ok (.ireturn, 1) := by decide +kernel
theorem dX4_field_125 : decode cX4_field 125 = .ok (.aload_n 0, 1) := by decide +kernel
theorem dX4_field_126 : decode cX4_field 126 = .ok (.iconst 4, 1) := by decide +kernel
theorem dX4_field_127 : decode cX4_field 127 = .ok (.invokevirtual 47, 3) := by decide +kernel
theorem dX4_field_130 : decode cX4_field 130 = .ok (.ireturn, 1) := by decide +kernel
theorem dX4_field_131 : decode cX4_field 131 = .ok (.aload_n 0, 1) := by decide +kernel
theorem dX4_field_132 : decode cX4_field 132 = .ok (.bipush 12, 2) := by decide +kernel
theorem dX4_field_134 : decode cX4_field 134 = .ok (.invokevirtual 47, 3) := by decide +kernel
theorem dX4_field_137 : decode cX4_field 137 = .ok (.ireturn, 1) := by decide +kernel
theorem dX4_field_138 : decode cX4_field 138 = .ok (.aload_n 0, 1) := by decide +kernel
theorem dX4_field_139 : decode cX4_field 139 = .ok (.bipush 10, 2) := by decide +kernel
theorem dX4_field_141 : decode cX4_field 141 = .ok (.invokevirtual 47, 3) := by decide +kernel
theorem dX4_field_144 : decode cX4_field 144 = .ok (.ireturn, 1) := by decide +kernel
theorem dX4_field_145 : decode cX4_field 145 = .ok (.iload_n 2, 1) := by decide +kernel
theorem dX4_field_146 : decode cX4_field 146 = .ok (.ireturn, 1) := by decide +kernel
theorem dX4_field_147 : decode cX4_field 147 = .ok (.aload_n 0, 1) := by decide +kernel
theorem dX4_field_148 : decode cX4_field 148 = .ok (.getfield 51, 3) := by decide +kernel
theorem dX4_field_151 : decode cX4_field 151 = .ok (.iconst 1, 1) := by decide +kernel
theorem dX4_field_152 : decode cX4_field 152 = .ok (.if_icmp .ne 7, 3) := by decide +kernel
theorem dX4_field_155 : decode cX4_field 155 = .ok (.iconst 0, 1) := by decide +kernel
theorem dX4_field_156 : decode cX4_field 156 = .ok (.goto 9, 3) := by decide +kernel
theorem dX4_field_159 : decode cX4_field 159 = .ok (.aload_n 0, 1) := by decide +kernel
theorem dX4_field_160 : decode cX4_field 160 = .ok (.bipush 24, 2) := by decide +kernel
theorem dX4_field_162 : decode cX4_field 162 = .ok (.invokevirtual 47, 3) := by decide +kernel
theorem dX4_field_165 : decode cX4_field 165 = .ok (.ireturn, 1) := by decide +kernel
theorem dX4_field_166 : decode cX4_field 166 = .ok (.aload_n 0, 1) := by decide +kernel
theorem dX4_field_167 : decode cX4_field 167 = .ok (.invokevirtual 69, 3) := by decide +kernel
theorem dX4_field_170 : decode cX4_field 170 = .ok (.ireturn, 1) := by decide +kernel
theorem dX4_field_171 : decode cX4_field 171 = .ok (.aload_n 0, 1) := by decide +kernel
theorem dX4_field_172 : decode cX4_field 172 = .ok (.getfield 51, 3) := by decide +kernel
theorem dX4_field_175 : decode cX4_field 175 = .ok (.iconst 5, 1) := by decide +kernel
theorem dX4_field_176 : decode cX4_field 176 = .ok (.if_icmp .ge 7, 3) := by decide +kernel
theorem dX4_field_179 : decode cX4_field 179 = .ok (.iconst 0, 1) := by decide +kernel
theorem dX4_field_180 : decode cX4_field 180 = .ok (.goto 9, 3) := by decide +kernel
theorem dX4_field_183 : decode cX4_field 183 = .ok (.aload_n 0, 1) := by decide +kernel
theorem dX4_field_184 : decode cX4_field 184 = .ok (.bipush 52, 2) := by decide +kernel
theorem dX4_field_186 : decode cX4_field 186 = .ok (.invokevirtual 47, 3) := by decide +kernel
theorem dX4_field_189 : decode cX4_field 189 = .ok (.ireturn, 1) := by decide +kernel
theorem dX4_field_190 : decode cX4_field 190 = .ok (.aload_n 0, 1) := by decide +kernel
theorem dX4_field_191 : decode cX4_field 191 = .ok (.getfield 51, 3) := by decide +kernel
theorem dX4_field_194 : decode cX4_field 194 = .ok (.iconst 5, 1) := by decide +kernel
theorem dX4_field_195 : decode cX4_field 195 = .ok (.if_icmp .ge 7, 3) := by decide +kernel
theorem dX4_field_198 : decode cX4_field 198 = .ok (.iconst 0, 1) := by decide +kernel
theorem dX4_field_199 : decode cX4_field 199 = .ok (.goto 9, 3) := by decide +kernel
theorem dX4_field_202 : decode cX4_field 202 = .ok (.aload_n 0, 1) := by decide +kernel
theorem dX4_field_203 : decode cX4_field 203 = .ok (.bipush 46, 2) := by decide +kernel
theorem dX4_field_205 : decode cX4_field 205 = .ok (.invokevirtual 47, 3) := by decide +kernel
theorem dX4_field_208 : decode cX4_field 208 = .ok (.ireturn, 1) := by decide +kernel
theorem dX4_field_209 : decode cX4_field 209 = .ok (.aload_n 0, 1) := by decide +kernel
theorem dX4_field_210 : decode cX4_field 210 = .ok (.iload_n 1, 1) := by decide +kernel
theorem dX4_field_211 : decode cX4_field 211 = .ok (.invokevirtual 88, 3) := by decide +kernel
theorem dX4_field_214 : decode cX4_field 214 = .ok (.ireturn, 1) := by decide +kernel
theorem dX4_field_215 : decode cX4_field 215 = .ok (.aload_n 0, 1) := by decide +kernel
theorem dX4_field_216 : decode cX4_field 216 = .ok (.iconst 2, 1) := by decide +kernel
theorem dX4_field_217 : decode cX4_field 217 = .ok (.invokevirtual 47, 3) := by decide +kernel
theorem dX4_field_220 : decode cX4_field 220 = .ok (.ireturn, 1) := by decide +kernel
theorem dX4_field_221 : decode cX4_field 221 = .ok (.aload_n 0, 1) := by decide +kernel
theorem dX4_field_222 : decode cX4_field 222 = .ok (.bipush 28, 2) := by decide +kernel
theorem dX4_field_224 : decode cX4_field 224 = .ok (.invokevirtual 47, 3) := by decide +kernel
theorem dX4_field_227 : decode cX4_field 227 = .ok (.ireturn, 1) := by decide +kernel
theorem dX4_field_228 : decode cX4_field 228 = .ok (.aload_n 0, 1) := by decide +kernel
theorem dX4_field_229 : decode cX4_field 229 = .ok (.iload_n 2, 1) := by decide +kernel
theorem dX4_field_230 : decode cX4_field 230 = .ok (.iconst 2, 1) := by decide +kernel
theorem dX4_field_231 : decode cX4_field 231 = .ok (.iadd, 1) := by decide +kernel
theorem dX4_field_232 : decode cX4_field 232 = .ok (.aload_n 0, 1) := by decide +kernel
theorem dX4_field_233 : decode cX4_field 233 = .ok (.getfield 7, 3) := by decide +kernel
theorem dX4_field_236 : decode cX4_field 236 = .ok (.iload_n 2, 1) := by decide +kernel
theorem dX4_field_237 : decode cX4_field 237 = .ok (.iaload, 1) := by decide +kernel
theorem dX4_field_238 : decode cX4_field 238 = .ok (.iadd, 1) := by decide +kernel
theorem dX4_field_239 : decode cX4_field 239 = .ok (.invokevirtual 47, 3) := by decide +kernel
theorem dX4_field_242 : decode cX4_field 242 = .ok (.i2s, 1) := by decide +kernel
theorem dX4_field_243 : decode cX4_field 243 = .ok (.ireturn, 1) := by decide +kernel
theorem dX4_field_244 : decode cX4_field 244 = .ok (.aload_n 0, 1) := by decide +kernel
theorem dX4_field_245 : decode cX4_field 245 = .ok (.getfield 7, 3) := by decide +kernel
theorem dX4_field_248 : decode cX4_field 248 = .ok (.iload_n 2, 1) := by decide +kernel
theorem dX4_field_249 : decode cX4_field 249 = .ok (.iconst 1, 1) := by decide +kernel
theorem dX4_field_250 : decode cX4_field 250 = .ok (.iadd, 1) := by decide +kernel
theorem dX4_field_251 : decode cX4_field 251 = .ok (.aload_n 0, 1) := by decide +kernel
theorem dX4_field_252 : decode cX4_field 252 = .ok (.getfield 7, 3) := by decide +kernel
theorem dX4_field_255 : decode cX4_field 255 = .ok (.iload_n 2, 1) := by decide +kernel
theorem dX4_field_256 : decode cX4_field 256 = .ok (.iaload, 1) := by decide +kernel
theorem dX4_field_257 : decode cX4_field 257 = .ok (.iadd, 1) := by decide +kernel
theorem dX4_field_258 : decode cX4_field 258 = .ok (.iaload, 1) := by decide +kernel
theorem dX4_field_259 : decode cX4_field 259 = .ok (.ireturn, 1) := by decide +kernel
theorem dX4_field_260 : decode cX4_field 260 = .ok (.aload_n 0, 1) := by decide +kernel
theorem dX4_field_261 : decode cX4_field 261 = .ok (.getfield 7, 3) := by decide +kernel
theorem dX4_field_264 : decode cX4_field 264 = .ok (.iload_n 2, 1) := by decide +kernel
theorem dX4_field_265 : decode cX4_field 265 = .ok (.iaload, 1) := by decide +kernel
theorem dX4_field_266 : decode cX4_field 266 = .ok (.ireturn, 1) := by decide +kernel
theorem dX4_field_267 : decode cX4_field 267 = .ok (.bipush (-12), 2) := by decide +kernel
theorem dX4_field_269 : decode cX4_field 269 = .ok (.ireturn, 1) := by decide +kernel
theorem dX4_thrownAt_0 : decode cX4_thrownAt 0 = .ok (.aload_n 0, 1) := by decide +kernel
theorem dX4_thrownAt_1 : decode cX4_thrownAt 1 = .ok (.iconst 1, 1) := by decide +kernel
theorem dX4_thrownAt_2 : decode cX4_thrownAt 2 = .ok (.putfield 19, 3) := by decide +kernel
theorem dX4_thrownAt_5 : decode cX4_thrownAt 5 = .ok (.iconst 0, 1) := by decide +kernel
theorem dX4_thrownAt_6 : decode cX4_thrownAt 6 = .ok (.ireturn, 1) := by decide +kernel
set_option maxRecDepth 20000 in
theorem ggX4_serial_X4_in : GoodIn wsX4_serial wsX4_in := goodIn_r _ [7] (by decide +kernel) (by decide +kernel)
set_option maxRecDepth 20000 in
theorem gX4_serial_X4_in : GoodIn wsX4_serial (va_wsS RX4 27 yX4_in wsX4_in) := goodIn_app (goodIn_of _ (by decide +kernel)) ggX4_serial_X4_in
set_option maxRecDepth 20000 in
theorem ggX4_serial_X4_thrownAt : GoodIn wsX4_serial wsX4_thrownAt := goodIn_r _ [11, 1, 12, 13, 14, 15, 16, 17, 18, 19, 20] (by decide +kernel) (by decide +kernel)
set_option maxRecDepth 20000 in
theorem gX4_serial_X4_thrownAt : GoodIn wsX4_serial (wsV RX4 91 RX4 yX4_thrownAt wsX4_thrownAt) := goodIn_app (goodIn_of _ (by decide +kernel)) ggX4_serial_X4_thrownAt
theorem dX4_serial_0 : decode cX4_serial 0 = .ok (.aload_n 0, 1) := by decide +kernel
theorem dX4_serial_1 : decode cX4_serial 1 = .ok (.iconst 0, 1) := by decide +kernel
theorem dX4_serial_2 : decode cX4_serial 2 = .ok (.putfield 19, 3) := by decide +kernel
theorem dX4_serial_5 : decode cX4_serial 5 = .ok (.aload_n 0, 1) := by decide +kernel
theorem dX4_serial_6 : decode cX4_serial 6 = .ok (.getfield 36, 3) := by decide +kernel
theorem dX4_serial_9 : decode cX4_serial 9 = .ok (.ifCond .ne 6, 3) := by decide +kernel
theorem dX4_serial_12 : decode cX4_serial 12 = .ok (.bipush (-11), 2) := by decide +kernel
theorem dX4_serial_14 : decode cX4_serial 14 = .ok (.ireturn, 1) := by decide +kernel
theorem dX4_serial_15 : decode cX4_serial 15 = .ok (.iload_n 1, 1) := by decide +kernel
theorem dX4_serial_16 : decode cX4_serial 16 = .ok (.iconst 0, 1) := by decide +kernel
theorem dX4_serial_17 : decode cX4_serial 17 = .ok (.iconst 5, 1) := by decide +kernel
theorem dX4_serial_18 : decode cX4_serial 18 = .ok (.invokestatic 27, 3) := by decide +kernel
theorem dX4_serial_21 : decode cX4_serial 21 = .ok (.ifCond .eq 15, 3) := by decide +kernel
theorem dX4_serial_24 : decode cX4_serial 24 = .ok (.aload_n 0, 1) := by decide +kernel
theorem dX4_serial_25 : decode cX4_serial 25 = .ok (.getfield 13, 3) := by decide +kernel
theorem dX4_serial_28 : decode cX4_serial 28 = .ok (.bipush 18, 2) := by decide +kernel
theorem dX4_serial_30 : decode cX4_serial 30 = .ok (.iload_n 1, 1) := by decide +kernel
theorem dX4_serial_31 : decode cX4_serial 31 = .ok (.iadd, 1) := by decide +kernel
theorem dX4_serial_32 : decode cX4_serial 32 = .ok (.iaload, 1) := by decide +kernel
theorem dX4_serial_33 : decode cX4_serial 33 = .ok (.goto 7, 3) := by decide +kernel
theorem dX4_serial_36 : decode cX4_serial 36 = .ok (.aload_n 0, 1) := by decide +kernel
theorem dX4_serial_37 : decode cX4_serial 37 = .ok (.invokevirtual 91, 3) := by decide +kernel
theorem dX4_serial_40 : decode cX4_serial 40 = .ok (.ireturn, 1) := by decide +kernel
set_option maxRecDepth 20000 in
theorem ggX4_global_X4_in : GoodIn wsX4_global wsX4_in := goodIn_r _ [7] (by decide +kernel) (by decide +kernel)
set_option maxRecDepth 20000 in
theorem gX4_global_X4_in : GoodIn wsX4_global (va_wsS RX4 27 yX4_in wsX4_in) := goodIn_app (goodIn_of _ (by decide +kernel)) ggX4_global_X4_in
set_option maxRecDepth 20000 in
theorem ggX4_global_X4_thrownAt : GoodIn wsX4_global wsX4_thrownAt := goodIn_r _ [11, 1, 17, 18, 19, 20, 21, 22, 23, 24, 25] (by decide +kernel) (by decide +kernel)
set_option maxRecDepth 20000 in
theorem gX4_global_X4_thrownAt : GoodIn wsX4_global (wsV RX4 91 RX4 yX4_thrownAt wsX4_thrownAt) := goodIn_app (goodIn_of _ (by decide +kernel)) ggX4_global_X4_thrownAt
set_option maxRecDepth 20000 in
theorem ggX4_global_X4_two : GoodIn wsX4_global wsX4_two := goodIn_ca (goodIn_r _ [15, 16, 17, 18, 19, 20, 21, 22, 23, 24, 25] (by decide +kernel) (by decide +kernel)) (goodIn_sub (fun _ h => List.mem_cons_of_mem _ (List.mem_append_right _ h)) (by decide +kernel))
set_option maxRecDepth 20000 in
theorem gX4_global_X4_two : GoodIn wsX4_global (wsV RX4 47 RX4 yX4_two wsX4_two) := goodIn_app (goodIn_of _ (by decide +kernel)) ggX4_global_X4_two
theorem dX4_global_0 : decode cX4_global 0 = .ok (.aload_n 0, 1) := by decide +kernel
theorem dX4_global_1 : decode cX4_global 1 = .ok (.iconst 0, 1) := by decide +kernel
theorem dX4_global_2 : decode cX4_global 2 = .ok (.putfield 19, 3) := by decide +kernel
theorem dX4_global_5 : decode cX4_global 5 = .ok (.aload_n 0, 1) := by decide +kernel
theorem dX4_global_6 : decode cX4_global 6 = .ok (.getfield 36, 3) := by decide +kernel
theorem dX4_global_9 : decode cX4_global 9 = .ok (.ifCond .ne 6, 3) := by decide +kernel
theorem dX4_global_12 : decode cX4_global 12 = .ok (.bipush (-11), 2) := by decide +kernel
theorem dX4_global_14 : decode cX4_global 14 = .ok (.ireturn, 1) := by decide +kernel
theorem dX4_global_15 : decode cX4_global 15 = .ok (.iload_n 1, 1) := by decide +kernel
theorem dX4_global_16 : decode cX4_global 16 = .ok (.iconst 0, 1) := by decide +kernel
theorem dX4_global_17 : decode cX4_global 17 = .ok (.sipush 239, 3) := by decide +kernel
theorem dX4_global_20 : decode cX4_global 20 = .ok (.invokestatic 27, 3) := by decide +kernel
theorem dX4_global_23 : decode cX4_global 23 = .ok (.ifCond .ne 8, 3) := by decide +kernel
theorem dX4_global_26 : decode cX4_global 26 = .ok (.aload_n 0, 1) := by decide +kernel
theorem dX4_global_27 : decode cX4_global 27 = .ok (.invokevirtual 91, 3) := by decide +kernel
theorem dX4_global_30 : decode cX4_global 30 = .ok (.ireturn, 1) := by decide +kernel
theorem dX4_global_31 : decode cX4_global 31 = .ok (.aload_n 0, 1) := by decide +kernel
theorem dX4_global_32 : decode cX4_global 32 = .ok (.bipush 12, 2) := by decide +kernel
theorem dX4_global_34 : decode cX4_global 34 = .ok (.invokevirtual 47, 3) := by decide +kernel
theorem dX4_global_37 : decode cX4_global 37 = .ok (.iconst 2, 1) := by decide +kernel
theorem dX4_global_38 : decode cX4_global 38 = .ok (.iload_n 1, 1) := by decide +kernel
theorem dX4_global_39 : decode cX4_global 39 = .ok (.imul, 1) := by decide +kernel
theorem dX4_global_40 : decode cX4_global 40 = .ok (.iadd, 1) := by decide +kernel
theorem dX4_global_41 : decode cX4_global 41 = .ok (.istore_n 2, 1) := by decide +kernel
theorem dX4_global_42 : decode cX4_global 42 = .ok (.sipush 256, 3) := by decide +kernel
theorem dX4_global_45 : decode cX4_global 45 = .ok (.aload_n 0, 1) := by decide +kernel
theorem dX4_global_46 : decode cX4_global 46 = .ok (.getfield 16, 3) := by decide +kernel
end
section
theorem dX4_global_49 : decode cX4_global 49 = .ok (.iload_n 2, 1) := by decide +kernel
theorem dX4_global_50 : decode cX4_global 50 = .ok (.iaload, 1) := by decide +kernel
theorem dX4_global_51 : decode cX4_global 51 = .ok (.imul, 1) := by decide +kernel
theorem dX4_global_52 : decode cX4_global 52 = .ok (.aload_n 0, 1) := by decide +kernel
theorem dX4_global_53 : decode cX4_global 53 = .ok (.getfield 16, 3) := by decide +kernel
theorem dX4_global_56 : decode cX4_global 56 = .ok (.iload_n 2, 1) := by decide +kernel
theorem dX4_global_57 : decode cX4_global 57 = .ok (.iconst 1, 1) := by decide +kernel
theorem dX4_global_58 : decode cX4_global 58 = .ok (.iadd, 1) := by decide +kernel
theorem dX4_global_59 : decode cX4_global 59 = .ok (.iaload, 1) := by decide +kernel
theorem dX4_global_60 : decode cX4_global 60 = .ok (.iadd, 1) := by decide +kernel
theorem dX4_global_61 : decode cX4_global 61 = .ok (.i2s, 1) := by decide +kernel
theorem dX4_global_62 : decode cX4_global 62 = .ok (.ireturn, 1) := by decide +kernel
set_option maxRecDepth 20000 in
theorem ggX4_load_X4_in : GoodIn wsX4_load wsX4_in := goodIn_r _ [8] (by decide +kernel) (by decide +kernel)
set_option maxRecDepth 20000 in
theorem gX4_load_X4_in : GoodIn wsX4_load (va_wsS RX4 27 yX4_in wsX4_in) := goodIn_app (goodIn_of _ (by decide +kernel)) ggX4_load_X4_in
set_option maxRecDepth 20000 in
theorem ggX4_load_X4_thrownAt : GoodIn wsX4_load wsX4_thrownAt := goodIn_r _ [12, 1, 13, 14, 15, 16, 17, 18, 19, 20, 21] (by decide +kernel) (by decide +kernel)
set_option maxRecDepth 20000 in
theorem gX4_load_X4_thrownAt : GoodIn wsX4_load (wsV RX4 91 RX4 yX4_thrownAt wsX4_thrownAt) := goodIn_app (goodIn_of _ (by decide +kernel)) ggX4_load_X4_thrownAt
theorem dX4_load_0 : decode cX4_load 0 = .ok (.aload_n 0, 1) := by decide +kernel
theorem dX4_load_1 : decode cX4_load 1 = .ok (.iconst 0, 1) := by decide +kernel
theorem dX4_load_2 : decode cX4_load 2 = .ok (.putfield 19, 3) := by decide +kernel
theorem dX4_load_5 : decode cX4_load 5 = .ok (.aload_n 0, 1) := by decide +kernel
theorem dX4_load_6 : decode cX4_load 6 = .ok (.getfield 36, 3) := by decide +kernel
theorem dX4_load_9 : decode cX4_load 9 = .ok (.ifCond .ne 6, 3) := by decide +kernel
theorem dX4_load_12 : decode cX4_load 12 = .ok (.bipush (-11), 2) := by decide +kernel
theorem dX4_load_14 : decode cX4_load 14 = .ok (.ireturn, 1) := by decide +kernel
theorem dX4_load_15 : decode cX4_load 15 = .ok (.iload_n 1, 1) := by decide +kernel
theorem dX4_load_16 : decode cX4_load 16 = .ok (.iconst 0, 1) := by decide +kernel
theorem dX4_load_17 : decode cX4_load 17 = .ok (.aload_n 0, 1) := by decide +kernel
theorem dX4_load_18 : decode cX4_load 18 = .ok (.getfield 31, 3) := by decide +kernel
theorem dX4_load_21 : decode cX4_load 21 = .ok (.iconst 1, 1) := by decide +kernel
theorem dX4_load_22 : decode cX4_load 22 = .ok (.isub, 1) := by decide +kernel
theorem dX4_load_23 : decode cX4_load 23 = .ok (.invokestatic 27, 3) := by decide +kernel
theorem dX4_load_26 : decode cX4_load 26 = .ok (.ifCond .eq 12, 3) := by decide +kernel
theorem dX4_load_29 : decode cX4_load 29 = .ok (.aload_n 0, 1) := by decide +kernel
theorem dX4_load_30 : decode cX4_load 30 = .ok (.getfield 16, 3) := by decide +kernel
theorem dX4_load_33 : decode cX4_load 33 = .ok (.iload_n 1, 1) := by decide +kernel
theorem dX4_load_34 : decode cX4_load 34 = .ok (.iaload, 1) := by decide +kernel
theorem dX4_load_35 : decode cX4_load 35 = .ok (.goto 7, 3) := by decide +kernel
theorem dX4_load_38 : decode cX4_load 38 = .ok (.aload_n 0, 1) := by decide +kernel
theorem dX4_load_39 : decode cX4_load 39 = .ok (.invokevirtual 91, 3) := by decide +kernel
theorem dX4_load_42 : decode cX4_load 42 = .ok (.ireturn, 1) := by decide +kernel
set_option maxRecDepth 20000 in
theorem ggX4_store_X4_two : GoodIn wsX4_store wsX4_two := goodIn_ca (goodIn_r _ [8, 9, 13, 14, 15, 16, 17, 18, 19, 20, 21] (by decide +kernel) (by decide +kernel)) (goodIn_sub (fun _ h => List.mem_cons_of_mem _ (List.mem_append_right _ h)) (by decide +kernel))
set_option maxRecDepth 20000 in
theorem gX4_store_X4_two : GoodIn wsX4_store (wsV RX4 47 RX4 yX4_two wsX4_two) := goodIn_app (goodIn_of _ (by decide +kernel)) ggX4_store_X4_two
set_option maxRecDepth 20000 in
theorem ggX4_store_X4_in : GoodIn wsX4_store wsX4_in := goodIn_r _ [12] (by decide +kernel) (by decide +kernel)
set_option maxRecDepth 20000 in
theorem gX4_store_X4_in : GoodIn wsX4_store (va_wsS RX4 27 yX4_in wsX4_in) := goodIn_app (goodIn_of _ (by decide +kernel)) ggX4_store_X4_in
theorem dX4_store_0 : decode cX4_store 0 = .ok (.aload_n 0, 1) := by decide +kernel
theorem dX4_store_1 : decode cX4_store 1 = .ok (.iconst 0, 1) := by decide +kernel
theorem dX4_store_2 : decode cX4_store 2 = .ok (.putfield 19, 3) := by decide +kernel
theorem dX4_store_5 : decode cX4_store 5 = .ok (.aload_n 0, 1) := by decide +kernel
theorem dX4_store_6 : decode cX4_store 6 = .ok (.getfield 36, 3) := by decide +kernel
theorem dX4_store_9 : decode cX4_store 9 = .ok (.ifCond .ne 6, 3) := by decide +kernel
theorem dX4_store_12 : decode cX4_store 12 = .ok (.bipush (-11), 2) := by decide +kernel
theorem dX4_store_14 : decode cX4_store 14 = .ok (.ireturn, 1) := by decide +kernel
theorem dX4_store_15 : decode cX4_store 15 = .ok (.iload_n 1, 1) := by decide +kernel
theorem dX4_store_16 : decode cX4_store 16 = .ok (.bipush 64, 2) := by decide +kernel
theorem dX4_store_18 : decode cX4_store 18 = .ok (.aload_n 0, 1) := by decide +kernel
theorem dX4_store_19 : decode cX4_store 19 = .ok (.bipush 14, 2) := by decide +kernel
theorem dX4_store_21 : decode cX4_store 21 = .ok (.invokevirtual 47, 3) := by decide +kernel
theorem dX4_store_24 : decode cX4_store 24 = .ok (.iconst 1, 1) := by decide +kernel
theorem dX4_store_25 : decode cX4_store 25 = .ok (.isub, 1) := by decide +kernel
theorem dX4_store_26 : decode cX4_store 26 = .ok (.invokestatic 27, 3) := by decide +kernel
theorem dX4_store_29 : decode cX4_store 29 = .ok (.ifCond .ne 6, 3) := by decide +kernel
theorem dX4_store_32 : decode cX4_store 32 = .ok (.bipush (-13), 2) := by decide +kernel
theorem dX4_store_34 : decode cX4_store 34 = .ok (.ireturn, 1) := by decide +kernel
theorem dX4_store_35 : decode cX4_store 35 = .ok (.aload_n 0, 1) := by decide +kernel
theorem dX4_store_36 : decode cX4_store 36 = .ok (.getfield 16, 3) := by decide +kernel
theorem dX4_store_39 : decode cX4_store 39 = .ok (.iload_n 1, 1) := by decide +kernel
theorem dX4_store_40 : decode cX4_store 40 = .ok (.iaload, 1) := by decide +kernel
theorem dX4_store_41 : decode cX4_store 41 = .ok (.istore_n 3, 1) := by decide +kernel
theorem dX4_store_42 : decode cX4_store 42 = .ok (.aload_n 0, 1) := by decide +kernel
theorem dX4_store_43 : decode cX4_store 43 = .ok (.getfield 16, 3) := by decide +kernel
theorem dX4_store_46 : decode cX4_store 46 = .ok (.iload_n 1, 1) := by decide +kernel
theorem dX4_store_47 : decode cX4_store 47 = .ok (.iload_n 2, 1) := by decide +kernel
theorem dX4_store_48 : decode cX4_store 48 = .ok (.sipush 255, 3) := by decide +kernel
theorem dX4_store_51 : decode cX4_store 51 = .ok (.iand, 1) := by decide +kernel
theorem dX4_store_52 : decode cX4_store 52 = .ok (.iastore, 1) := by decide +kernel
theorem dX4_store_53 : decode cX4_store 53 = .ok (.iload_n 3, 1) := by decide +kernel
theorem dX4_store_54 : decode cX4_store 54 = .ok (.ireturn, 1) := by decide +kernel
set_option maxRecDepth 20000 in
theorem ggX4_packedAt_X4_two : GoodIn wsX4_packedAt wsX4_two := goodIn_ca (goodIn_r _ [6, 7, 8, 9, 10, 11, 12, 13, 14, 15, 16] (by decide +kernel) (by decide +kernel)) (goodIn_sub (fun _ h => List.mem_cons_of_mem _ (List.mem_append_right _ h)) (by decide +kernel))
set_option maxRecDepth 20000 in
theorem gX4_packedAt_X4_two : GoodIn wsX4_packedAt (wsV RX4 47 RX4 yX4_two wsX4_two) := goodIn_app (goodIn_of _ (by decide +kernel)) ggX4_packedAt_X4_two
theorem dX4_packedAt_0 : decode cX4_packedAt 0 = .ok (.aload_n 0, 1) := by decide +kernel
theorem dX4_packedAt_1 : decode cX4_packedAt 1 = .ok (.getfield 51, 3) := by decide +kernel
theorem dX4_packedAt_4 : decode cX4_packedAt 4 = .ok (.bipush 6, 2) := by decide +kernel
theorem dX4_packedAt_6 : decode cX4_packedAt 6 = .ok (.if_icmp .eq 12, 3) := by decide +kernel
theorem dX4_packedAt_9 : decode cX4_packedAt 9 = .ok (.aload_n 0, 1) := by decide +kernel
theorem dX4_packedAt_10 : decode cX4_packedAt 10 = .ok (.getfield 51, 3) := by decide +kernel
theorem dX4_packedAt_13 : decode cX4_packedAt 13 = .ok (.bipush 7, 2) := by decide +kernel
theorem dX4_packedAt_15 : decode cX4_packedAt 15 = .ok (.if_icmp .ne 24, 3) := by decide +kernel
theorem dX4_packedAt_18 : decode cX4_packedAt 18 = .ok (.bipush 8, 2) := by decide +kernel
theorem dX4_packedAt_20 : decode cX4_packedAt 20 = .ok (.aload_n 0, 1) := by decide +kernel
theorem dX4_packedAt_21 : decode cX4_packedAt 21 = .ok (.iload_n 2, 1) := by decide +kernel
theorem dX4_packedAt_22 : decode cX4_packedAt 22 = .ok (.ifCond .eq 8, 3) := by decide +kernel
theorem dX4_packedAt_25 : decode cX4_packedAt 25 = .ok (.bipush 42, 2) := by decide +kernel
theorem dX4_packedAt_27 : decode cX4_packedAt 27 = .ok (.goto 5, 3) := by decide +kernel
theorem dX4_packedAt_30 : decode cX4_packedAt 30 = .ok (.bipush 40, 2) := by decide +kernel
theorem dX4_packedAt_32 : decode cX4_packedAt 32 = .ok (.invokevirtual 47, 3) := by decide +kernel
theorem dX4_packedAt_35 : decode cX4_packedAt 35 = .ok (.imul, 1) := by decide +kernel
theorem dX4_packedAt_36 : decode cX4_packedAt 36 = .ok (.goto 4, 3) := by decide +kernel
theorem dX4_packedAt_39 : decode cX4_packedAt 39 = .ok (.iconst 0, 1) := by decide +kernel
theorem dX4_packedAt_40 : decode cX4_packedAt 40 = .ok (.istore_n 3, 1) := by decide +kernel
theorem dX4_packedAt_41 : decode cX4_packedAt 41 = .ok (.iload_n 1, 1) := by decide +kernel
theorem dX4_packedAt_42 : decode cX4_packedAt 42 = .ok (.aload_n 0, 1) := by decide +kernel
theorem dX4_packedAt_43 : decode cX4_packedAt 43 = .ok (.getfield 51, 3) := by decide +kernel
theorem dX4_packedAt_46 : decode cX4_packedAt 46 = .ok (.iconst 4, 1) := by decide +kernel
theorem dX4_packedAt_47 : decode cX4_packedAt 47 = .ok (.if_icmp .ge 7, 3) := by decide +kernel
theorem dX4_packedAt_50 : decode cX4_packedAt 50 = .ok (.iconst 2, 1) := by decide +kernel
theorem dX4_packedAt_51 : decode cX4_packedAt 51 = .ok (.goto 18, 3) := by decide +kernel
theorem dX4_packedAt_54 : decode cX4_packedAt 54 = .ok (.aload_n 0, 1) := by decide +kernel
theorem dX4_packedAt_55 : decode cX4_packedAt 55 = .ok (.getfield 51, 3) := by decide +kernel
theorem dX4_packedAt_58 : decode cX4_packedAt 58 = .ok (.bipush 8, 2) := by decide +kernel
theorem dX4_packedAt_60 : decode cX4_packedAt 60 = .ok (.if_icmp .ge 7, 3) := by decide +kernel
theorem dX4_packedAt_63 : decode cX4_packedAt 63 = .ok (.iconst 4, 1) := by decide +kernel
theorem dX4_packedAt_64 : decode cX4_packedAt 64 = .ok (.goto 5, 3) := by decide +kernel
theorem dX4_packedAt_67 : decode cX4_packedAt 67 = .ok (.bipush 8, 2) := by decide +kernel
theorem dX4_packedAt_69 : decode cX4_packedAt 69 = .ok (.imul, 1) := by decide +kernel
theorem dX4_packedAt_70 : decode cX4_packedAt 70 = .ok (.iload_n 3, 1) := by decide +kernel
theorem dX4_packedAt_71 : decode cX4_packedAt 71 = .ok (.iadd, 1) := by decide +kernel
theorem dX4_packedAt_72 : decode cX4_packedAt 72 = .ok (.ireturn, 1) := by decide +kernel
set_option maxRecDepth 20000 in
theorem ggX4_packed_X4_in : GoodIn wsX4_packed wsX4_in := goodIn_r _ [7] (by decide +kernel) (by decide +kernel)
set_option maxRecDepth 20000 in
theorem gX4_packed_X4_in : GoodIn wsX4_packed (va_wsS RX4 27 yX4_in wsX4_in) := goodIn_app (goodIn_of _ (by decide +kernel)) ggX4_packed_X4_in
set_option maxRecDepth 20000 in
theorem ggX4_packed_X4_packedAt : GoodIn wsX4_packed wsX4_packedAt := goodIn_ca (goodIn_r _ [11, 12, 13, 14, 15, 6, 16, 17, 18, 19, 20, 21, 22, 23, 24, 25, 26] (by decide +kernel) (by decide +kernel)) (goodIn_sub (fun _ h => List.mem_cons_of_mem _ (List.mem_append_right _ h)) (by decide +kernel))
set_option maxRecDepth 20000 in
theorem gX4_packed_X4_packedAt : GoodIn wsX4_packed (wsV RX4 95 RX4 yX4_packedAt wsX4_packedAt) := goodIn_app (goodIn_of _ (by decide +kernel)) ggX4_packed_X4_packedAt
theorem dX4_packed_0 : decode cX4_packed 0 = .ok (.aload_n 0, 1) := by decide +kernel
theorem dX4_packed_1 : decode cX4_packed 1 = .ok (.iconst 0, 1) := by decide +kernel
theorem dX4_packed_2 : decode cX4_packed 2 = .ok (.putfield 19, 3) := by decide +kernel
theorem dX4_packed_5 : decode cX4_packed 5 = .ok (.aload_n 0, 1) := by decide +kernel
theorem dX4_packed_6 : decode cX4_packed 6 = .ok (.getfield 36, 3) := by decide +kernel
theorem dX4_packed_9 : decode cX4_packed 9 = .ok (.ifCond .ne 8, 3) := by decide +kernel
theorem dX4_packed_12 : decode cX4_packed 12 = .ok (.bipush (-11), 2) := by decide +kernel
theorem dX4_packed_14 : decode cX4_packed 14 = .ok (.goto 24, 3) := by decide +kernel
theorem dX4_packed_17 : decode cX4_packed 17 = .ok (.iload_n 1, 1) := by decide +kernel
theorem dX4_packed_18 : decode cX4_packed 18 = .ok (.iconst 0, 1) := by decide +kernel
theorem dX4_packed_19 : decode cX4_packed 19 = .ok (.ldc 94, 2) := by decide +kernel
theorem dX4_packed_21 : decode cX4_packed 21 = .ok (.invokestatic 27, 3) := by decide +kernel
theorem dX4_packed_24 : decode cX4_packed 24 = .ok (.ifCond .eq 12, 3) := by decide +kernel
theorem dX4_packed_27 : decode cX4_packed 27 = .ok (.aload_n 0, 1) := by decide +kernel
theorem dX4_packed_28 : decode cX4_packed 28 = .ok (.iload_n 1, 1) := by decide +kernel
theorem dX4_packed_29 : decode cX4_packed 29 = .ok (.iload_n 2, 1) := by decide +kernel
theorem dX4_packed_30 : decode cX4_packed 30 = .ok (.invokevirtual 95, 3) := by decide +kernel
theorem dX4_packed_33 : decode cX4_packed 33 = .ok (.goto 5, 3) := by decide +kernel
theorem dX4_packed_36 : decode cX4_packed 36 = .ok (.bipush (-12), 2) := by decide +kernel
theorem dX4_packed_38 : decode cX4_packed 38 = .ok (.ireturn, 1) := by decide +kernel
set_option maxRecDepth 20000 in
theorem ggX4_first_X4_in : GoodIn wsX4_first wsX4_in := goodIn_r _ [7] (by decide +kernel) (by decide +kernel)
set_option maxRecDepth 20000 in
theorem gX4_first_X4_in : GoodIn wsX4_first (va_wsS RX4 27 yX4_in wsX4_in) := goodIn_app (goodIn_of _ (by decide +kernel)) ggX4_first_X4_in
set_option maxRecDepth 20000 in
theorem ggX4_first_X4_packedAt : GoodIn wsX4_first wsX4_packedAt := goodIn_ca (goodIn_r _ [11, 12, 13, 14, 15, 6, 16, 17, 28, 29, 30, 31, 32, 33, 34, 35, 36] (by decide +kernel) (by decide +kernel)) (goodIn_sub (fun _ h => List.mem_cons_of_mem _ (List.mem_append_right _ h)) (by decide +kernel))
set_option maxRecDepth 20000 in
theorem gX4_first_X4_packedAt : GoodIn wsX4_first (wsV RX4 95 RX4 yX4_packedAt wsX4_packedAt) := goodIn_app (goodIn_of _ (by decide +kernel)) ggX4_first_X4_packedAt
set_option maxRecDepth 20000 in
theorem ggX4_first_X4_load : GoodIn wsX4_first wsX4_load := goodIn_ca (goodIn_r _ [21, 1, 2, 22, 23, 4, 5, 6, 7, 24, 25, 26, 27, 28, 29, 30, 31, 32, 33, 34, 35, 36] (by decide +kernel) (by decide +kernel)) (goodIn_sub (fun _ h => List.mem_cons_of_mem _ (List.mem_append_right _ h)) (by decide +kernel))
set_option maxRecDepth 20000 in
theorem gX4_first_X4_load : GoodIn wsX4_first (wsV RX4 99 RX4 yX4_load wsX4_load) := goodIn_app (goodIn_of _ (by decide +kernel)) ggX4_first_X4_load
theorem dX4_first_0 : decode cX4_first 0 = .ok (.aload_n 0, 1) := by decide +kernel
theorem dX4_first_1 : decode cX4_first 1 = .ok (.iconst 0, 1) := by decide +kernel
theorem dX4_first_2 : decode cX4_first 2 = .ok (.putfield 19, 3) := by decide +kernel
theorem dX4_first_5 : decode cX4_first 5 = .ok (.aload_n 0, 1) := by decide +kernel
theorem dX4_first_6 : decode cX4_first 6 = .ok (.getfield 36, 3) := by decide +kernel
theorem dX4_first_9 : decode cX4_first 9 = .ok (.ifCond .ne 6, 3) := by decide +kernel
theorem dX4_first_12 : decode cX4_first 12 = .ok (.bipush (-11), 2) := by decide +kernel
theorem dX4_first_14 : decode cX4_first 14 = .ok (.ireturn, 1) := by decide +kernel
theorem dX4_first_15 : decode cX4_first 15 = .ok (.iload_n 1, 1) := by decide +kernel
theorem dX4_first_16 : decode cX4_first 16 = .ok (.iconst 0, 1) := by decide +kernel
theorem dX4_first_17 : decode cX4_first 17 = .ok (.ldc 94, 2) := by decide +kernel
theorem dX4_first_19 : decode cX4_first 19 = .ok (.invokestatic 27, 3) := by decide +kernel
theorem dX4_first_22 : decode cX4_first 22 = .ok (.ifCond .eq 16, 3) := by decide +kernel
theorem dX4_first_25 : decode cX4_first 25 = .ok (.aload_n 0, 1) := by decide +kernel
theorem dX4_first_26 : decode cX4_first 26 = .ok (.aload_n 0, 1) := by decide +kernel
theorem dX4_first_27 : decode cX4_first 27 = .ok (.iload_n 1, 1) := by decide +kernel
theorem dX4_first_28 : decode cX4_first 28 = .ok (.iload_n 2, 1) := by decide +kernel
theorem dX4_first_29 : decode cX4_first 29 = .ok (.invokevirtual 95, 3) := by decide +kernel
theorem dX4_first_32 : decode cX4_first 32 = .ok (.invokevirtual 99, 3) := by decide +kernel
theorem dX4_first_35 : decode cX4_first 35 = .ok (.goto 5, 3) := by decide +kernel
theorem dX4_first_38 : decode cX4_first 38 = .ok (.bipush (-12), 2) := by decide +kernel
theorem dX4_first_40 : decode cX4_first 40 = .ok (.ireturn, 1) := by decide +kernel
theorem dX4_sum_0 : decode cX4_sum 0 = .ok (.aload_n 0, 1) := by decide +kernel
theorem dX4_sum_1 : decode cX4_sum 1 = .ok (.iconst 0, 1) := by decide +kernel
theorem dX4_sum_2 : decode cX4_sum 2 = .ok (.putfield 19, 3) := by decide +kernel
theorem dX4_sum_5 : decode cX4_sum 5 = .ok (.aload_n 0, 1) := by decide +kernel
theorem dX4_sum_6 : decode cX4_sum 6 = .ok (.getfield 36, 3) := by decide +kernel
theorem dX4_sum_9 : decode cX4_sum 9 = .ok (.ifCond .ne 6, 3) := by decide +kernel
theorem dX4_sum_12 : decode cX4_sum 12 = .ok (.bipush (-11), 2) := by decide +kernel
theorem dX4_sum_14 : decode cX4_sum 14 = .ok (.ireturn, 1) := by decide +kernel
theorem dX4_sum_15 : decode cX4_sum 15 = .ok (.iconst 0, 1) := by decide +kernel
theorem dX4_sum_16 : decode cX4_sum 16 = .ok (.istore_n 1, 1) := by decide +kernel
theorem dX4_sum_17 : decode cX4_sum 17 = .ok (.bipush 64, 2) := by decide +kernel
theorem dX4_sum_19 : decode cX4_sum 19 = .ok (.istore_n 2, 1) := by decide +kernel
theorem dX4_sum_20 : decode cX4_sum 20 = .ok (.iload_n 2, 1) := by decide +kernel
theorem dX4_sum_21 : decode cX4_sum 21 = .ok (.aload_n 0, 1) := by decide +kernel
theorem dX4_sum_22 : decode cX4_sum 22 = .ok (.getfield 54, 3) := by decide +kernel
theorem dX4_sum_25 : decode cX4_sum 25 = .ok (.if_icmp .ge 18, 3) := by decide +kernel
theorem dX4_sum_28 : decode cX4_sum 28 = .ok (.iload_n 1, 1) := by decide +kernel
theorem dX4_sum_29 : decode cX4_sum 29 = .ok (.aload_n 0, 1) := by decide +kernel
theorem dX4_sum_30 : decode cX4_sum 30 = .ok (.getfield 13, 3) := by decide +kernel
theorem dX4_sum_33 : decode cX4_sum 33 = .ok (.iload_n 2, 1) := by decide +kernel
theorem dX4_sum_34 : decode cX4_sum 34 = .ok (.iaload, 1) := by decide +kernel
theorem dX4_sum_35 : decode cX4_sum 35 = .ok (.iadd, 1) := by decide +kernel
theorem dX4_sum_36 : decode cX4_sum 36 = .ok (.istore_n 1, 1) := by decide +kernel
theorem dX4_sum_37 : decode cX4_sum 37 = .ok (.iinc 2 1, 3) := by decide +kernel
theorem dX4_sum_40 : decode cX4_sum 40 = .ok (.goto (-20), 3) := by decide +kernel
theorem dX4_sum_43 : decode cX4_sum 43 = .ok (.iload_n 1, 1) := by decide +kernel
theorem dX4_sum_44 : decode cX4_sum 44 = .ok (.ldc 102, 2) := by decide +kernel
theorem dX4_sum_46 : decode cX4_sum 46 = .ok (.irem, 1) := by decide +kernel
theorem dX4_sum_47 : decode cX4_sum 47 = .ok (.ireturn, 1) := by decide +kernel
set_option maxRecDepth 20000 in
theorem ggX4_agrees_X4_sum : GoodIn wsX4_agrees wsX4_sum := goodIn_ca (goodIn_r _ [5, 6, 7, 8, 9, 10, 16, 17, 18, 19, 20, 21, 22, 23, 24] (by decide +kernel) (by decide +kernel)) (goodIn_sub (fun _ h => List.mem_cons_of_mem _ (List.mem_append_right _ h)) (by decide +kernel))
set_option maxRecDepth 20000 in
theorem gX4_agrees_X4_sum : GoodIn wsX4_agrees (wsV RX4 103 RX4 yX4_sum wsX4_sum) := goodIn_app (goodIn_of _ (by decide +kernel)) ggX4_agrees_X4_sum
set_option maxRecDepth 20000 in
theorem ggX4_agrees_X4_two : GoodIn wsX4_agrees wsX4_two := goodIn_ca (goodIn_r _ [14, 15, 16, 17, 18, 19, 20, 21, 22, 23, 24] (by decide +kernel) (by decide +kernel)) (goodIn_sub (fun _ h => List.mem_cons_of_mem _ (List.mem_append_right _ h)) (by decide +kernel))
set_option maxRecDepth 20000 in
theorem gX4_agrees_X4_two : GoodIn wsX4_agrees (wsV RX4 47 RX4 yX4_two wsX4_two) := goodIn_app (goodIn_of _ (by decide +kernel)) ggX4_agrees_X4_two
theorem dX4_agrees_0 : decode cX4_agrees 0 = .ok (.aload_n 0, 1) := by decide +kernel
theorem dX4_agrees_1 : decode cX4_agrees 1 = .ok (.invokevirtual 103, 3) := by decide +kernel
theorem dX4_agrees_4 : decode cX4_agrees 4 = .ok (.istore_n 1, 1) := by decide +kernel
theorem dX4_agrees_5 : decode cX4_agrees 5 = .ok (.iload_n 1, 1) := by decide +kernel
theorem dX4_agrees_6 : decode cX4_agrees 6 = .ok (.ifCond .ge 7, 3) := by decide +kernel
theorem dX4_agrees_9 : decode cX4_agrees 9 = .ok (.iload_n 1, 1) := by decide +kernel
theorem dX4_agrees_10 : decode cX4_agrees 10 = .ok (.goto 18, 3) := by decide +kernel
theorem dX4_agrees_13 : decode cX4_agrees 13 = .ok (.iload_n 1, 1) := by decide +kernel
theorem dX4_agrees_14 : decode cX4_agrees 14 = .ok (.aload_n 0, 1) := by decide +kernel
theorem dX4_agrees_15 : decode cX4_agrees 15 = .ok (.bipush 28, 2) := by decide +kernel
theorem dX4_agrees_17 : decode cX4_agrees 17 = .ok (.invokevirtual 47, 3) := by decide +kernel
theorem dX4_agrees_20 : decode cX4_agrees 20 = .ok (.if_icmp .ne 7, 3) := by decide +kernel
theorem dX4_agrees_23 : decode cX4_agrees 23 = .ok (.iconst 1, 1) := by decide +kernel
theorem dX4_agrees_24 : decode cX4_agrees 24 = .ok (.goto 4, 3) := by decide +kernel
theorem dX4_agrees_27 : decode cX4_agrees 27 = .ok (.iconst 0, 1) := by decide +kernel
theorem dX4_agrees_28 : decode cX4_agrees 28 = .ok (.ireturn, 1) := by decide +kernel
set_option maxRecDepth 20000 in
theorem ggX4_mayFirst_X4_in : GoodIn wsX4_mayFirst wsX4_in := goodIn_r _ [5] (by decide +kernel) (by decide +kernel)
set_option maxRecDepth 20000 in
theorem gX4_mayFirst_X4_in : GoodIn wsX4_mayFirst (va_wsS RX4 27 yX4_in wsX4_in) := goodIn_app (goodIn_of _ (by decide +kernel)) ggX4_mayFirst_X4_in
theorem dX4_mayFirst_0 : decode cX4_mayFirst 0 = .ok (.aload_n 0, 1) := by decide +kernel
theorem dX4_mayFirst_1 : decode cX4_mayFirst 1 = .ok (.getfield 51, 3) := by decide +kernel
theorem dX4_mayFirst_4 : decode cX4_mayFirst 4 = .ok (.tableswitch 81 1 6 #[40, 40, 40, 48, 81, 69], 40) := by decide +kernel
theorem dX4_mayFirst_44 : decode cX4_mayFirst 44 = .ok (.iload_n 1, 1) := by decide +kernel
theorem dX4_mayFirst_45 : decode cX4_mayFirst 45 = .ok (.iconst 4, 1) := by decide +kernel
theorem dX4_mayFirst_46 : decode cX4_mayFirst 46 = .ok (.bipush 6, 2) := by decide +kernel
theorem dX4_mayFirst_48 : decode cX4_mayFirst 48 = .ok (.invokestatic 27, 3) := by decide +kernel
theorem dX4_mayFirst_51 : decode cX4_mayFirst 51 = .ok (.ireturn, 1) := by decide +kernel
theorem dX4_mayFirst_52 : decode cX4_mayFirst 52 = .ok (.iload_n 1, 1) := by decide +kernel
theorem dX4_mayFirst_53 : decode cX4_mayFirst 53 = .ok (.iconst 2, 1) := by decide +kernel
theorem dX4_mayFirst_54 : decode cX4_mayFirst 54 = .ok (.iconst 4, 1) := by decide +kernel
theorem dX4_mayFirst_55 : decode cX4_mayFirst 55 = .ok (.invokestatic 27, 3) := by decide +kernel
theorem dX4_mayFirst_58 : decode cX4_mayFirst 58 = .ok (.ifCond .ne 9, 3) := by decide +kernel
theorem dX4_mayFirst_61 : decode cX4_mayFirst 61 = .ok (.iload_n 1, 1) := by decide +kernel
theorem dX4_mayFirst_62 : decode cX4_mayFirst 62 = .ok (.bipush 7, 2) := by decide +kernel
theorem dX4_mayFirst_64 : decode cX4_mayFirst 64 = .ok (.if_icmp .ne 7, 3) := by decide +kernel
theorem dX4_mayFirst_67 : decode cX4_mayFirst 67 = .ok (.iconst 1, 1) := by decide +kernel
theorem dX4_mayFirst_68 : decode cX4_mayFirst 68 = .ok (.goto 4, 3) := by decide +kernel
theorem dX4_mayFirst_71 : decode cX4_mayFirst 71 = .ok (.iconst 0, 1) := by decide +kernel
theorem dX4_mayFirst_72 : decode cX4_mayFirst 72 = .ok (.ireturn, 1) := by decide +kernel
theorem dX4_mayFirst_73 : decode cX4_mayFirst 73 = .ok (.iload_n 1, 1) := by decide +kernel
theorem dX4_mayFirst_74 : decode cX4_mayFirst 74 = .ok (.bipush 6, 2) := by decide +kernel
theorem dX4_mayFirst_76 : decode cX4_mayFirst 76 = .ok (.if_icmp .eq 7, 3) := by decide +kernel
theorem dX4_mayFirst_79 : decode cX4_mayFirst 79 = .ok (.iconst 1, 1) := by decide +kernel
theorem dX4_mayFirst_80 : decode cX4_mayFirst 80 = .ok (.goto 4, 3) := by decide +kernel
theorem dX4_mayFirst_83 : decode cX4_mayFirst 83 = .ok (.iconst 0, 1) := by decide +kernel
theorem dX4_mayFirst_84 : decode cX4_mayFirst 84 = .ok (.ireturn, 1) := by decide +kernel
theorem dX4_mayFirst_85 : decode cX4_mayFirst 85 = .ok (.iload_n 1, 1) := by decide +kernel
theorem dX4_mayFirst_86 : decode cX4_mayFirst 86 = .ok (.ifCond .eq 18, 3) := by decide +kernel
theorem dX4_mayFirst_89 : decode cX4_mayFirst 89 = .ok (.iload_n 1, 1) := by decide +kernel
theorem dX4_mayFirst_90 : decode cX4_mayFirst 90 = .ok (.iconst 2, 1) := by decide +kernel
theorem dX4_mayFirst_91 : decode cX4_mayFirst 91 = .ok (.iconst 4, 1) := by decide +kernel
theorem dX4_mayFirst_92 : decode cX4_mayFirst 92 = .ok (.invokestatic 27, 3) := by decide +kernel
theorem dX4_mayFirst_95 : decode cX4_mayFirst 95 = .ok (.ifCond .ne 9, 3) := by decide +kernel
theorem dX4_mayFirst_98 : decode cX4_mayFirst 98 = .ok (.iload_n 1, 1) := by decide +kernel
theorem dX4_mayFirst_99 : decode cX4_mayFirst 99 = .ok (.bipush 7, 2) := by decide +kernel
theorem dX4_mayFirst_101 : decode cX4_mayFirst 101 = .ok (.if_icmp .ne 7, 3) := by decide +kernel
theorem dX4_mayFirst_104 : decode cX4_mayFirst 104 = .ok (.iconst 1, 1) := by decide +kernel
theorem dX4_mayFirst_105 : decode cX4_mayFirst 105 = .ok (.goto 4, 3) := by decide +kernel
theorem dX4_mayFirst_108 : decode cX4_mayFirst 108 = .ok (.iconst 0, 1) := by decide +kernel
theorem dX4_mayFirst_109 : decode cX4_mayFirst 109 = .ok (.ireturn, 1) := by decide +kernel
set_option maxRecDepth 20000 in
theorem ggX4_maySecond_X4_in : GoodIn wsX4_maySecond wsX4_in := goodIn_r _ [5] (by decide +kernel) (by decide +kernel)
set_option maxRecDepth 20000 in
theorem gX4_maySecond_X4_in : GoodIn wsX4_maySecond (va_wsS RX4 27 yX4_in wsX4_in) := goodIn_app (goodIn_of _ (by decide +kernel)) ggX4_maySecond_X4_in
theorem dX4_maySecond_0 : decode cX4_maySecond 0 = .ok (.iload_n 1, 1) := by decide +kernel
theorem dX4_maySecond_1 : decode cX4_maySecond 1 = .ok (.ifCond .ne 5, 3) := by decide +kernel
theorem dX4_maySecond_4 : decode cX4_maySecond 4 = .ok (.iconst 1, 1) := by decide +kernel
theorem dX4_maySecond_5 : decode cX4_maySecond 5 = .ok (.ireturn, 1) := by decide +kernel
theorem dX4_maySecond_6 : decode cX4_maySecond 6 = .ok (.iload_n 1, 1) := by decide +kernel
theorem dX4_maySecond_7 : decode cX4_maySecond 7 = .ok (.iconst 1, 1) := by decide +kernel
theorem dX4_maySecond_8 : decode cX4_maySecond 8 = .ok (.if_icmp .ne 21, 3) := by decide +kernel
theorem dX4_maySecond_11 : decode cX4_maySecond 11 = .ok (.iload_n 3, 1) := by decide +kernel
theorem dX4_maySecond_12 : decode cX4_maySecond 12 = .ok (.ifCond .eq 15, 3) := by decide +kernel
theorem dX4_maySecond_15 : decode cX4_maySecond 15 = .ok (.aload_n 0, 1) := by decide +kernel
theorem dX4_maySecond_16 : decode cX4_maySecond 16 = .ok (.getfield 51, 3) := by decide +kernel
theorem dX4_maySecond_19 : decode cX4_maySecond 19 = .ok (.iconst 2, 1) := by decide +kernel
theorem dX4_maySecond_20 : decode cX4_maySecond 20 = .ok (.if_icmp .le 7, 3) := by decide +kernel
theorem dX4_maySecond_23 : decode cX4_maySecond 23 = .ok (.iconst 1, 1) := by decide +kernel
theorem dX4_maySecond_24 : decode cX4_maySecond 24 = .ok (.goto 4, 3) := by decide +kernel
theorem dX4_maySecond_27 : decode cX4_maySecond 27 = .ok (.iconst 0, 1) := by decide +kernel
theorem dX4_maySecond_28 : decode cX4_maySecond 28 = .ok (.ireturn, 1) := by decide +kernel
theorem dX4_maySecond_29 : decode cX4_maySecond 29 = .ok (.iload_n 1, 1) := by decide +kernel
theorem dX4_maySecond_30 : decode cX4_maySecond 30 = .ok (.iconst 2, 1) := by decide +kernel
theorem dX4_maySecond_31 : decode cX4_maySecond 31 = .ok (.if_icmp .ne 26, 3) := by decide +kernel
theorem dX4_maySecond_34 : decode cX4_maySecond 34 = .ok (.aload_n 0, 1) := by decide +kernel
theorem dX4_maySecond_35 : decode cX4_maySecond 35 = .ok (.getfield 51, 3) := by decide +kernel
theorem dX4_maySecond_38 : decode cX4_maySecond 38 = .ok (.bipush 6, 2) := by decide +kernel
theorem dX4_maySecond_40 : decode cX4_maySecond 40 = .ok (.if_icmp .ne 15, 3) := by decide +kernel
theorem dX4_maySecond_43 : decode cX4_maySecond 43 = .ok (.iload_n 3, 1) := by decide +kernel
theorem dX4_maySecond_44 : decode cX4_maySecond 44 = .ok (.ifCond .eq 7, 3) := by decide +kernel
theorem dX4_maySecond_47 : decode cX4_maySecond 47 = .ok (.iload_n 2, 1) := by decide +kernel
theorem dX4_maySecond_48 : decode cX4_maySecond 48 = .ok (.ifCond .ne 7, 3) := by decide +kernel
theorem dX4_maySecond_51 : decode cX4_maySecond 51 = .ok (.iconst 1, 1) := by decide +kernel
theorem dX4_maySecond_52 : decode cX4_maySecond 52 = .ok (.goto 4, 3) := by decide +kernel
theorem dX4_maySecond_55 : decode cX4_maySecond 55 = .ok (.iconst 0, 1) := by decide +kernel
theorem dX4_maySecond_56 : decode cX4_maySecond 56 = .ok (.ireturn, 1) := by decide +kernel
theorem dX4_maySecond_57 : decode cX4_maySecond 57 = .ok (.iload_n 3, 1) := by decide +kernel
theorem dX4_maySecond_58 : decode cX4_maySecond 58 = .ok (.ifCond .ne 44, 3) := by decide +kernel
theorem dX4_maySecond_61 : decode cX4_maySecond 61 = .ok (.iload_n 2, 1) := by decide +kernel
theorem dX4_maySecond_62 : decode cX4_maySecond 62 = .ok (.ifCond .ne 40, 3) := by decide +kernel
theorem dX4_maySecond_65 : decode cX4_maySecond 65 = .ok (.iload_n 1, 1) := by decide +kernel
theorem dX4_maySecond_66 : decode cX4_maySecond 66 = .ok (.iconst 3, 1) := by decide +kernel
theorem dX4_maySecond_67 : decode cX4_maySecond 67 = .ok (.bipush 7, 2) := by decide +kernel
theorem dX4_maySecond_69 : decode cX4_maySecond 69 = .ok (.invokestatic 27, 3) := by decide +kernel
theorem dX4_maySecond_72 : decode cX4_maySecond 72 = .ok (.ifCond .eq 11, 3) := by decide +kernel
theorem dX4_maySecond_75 : decode cX4_maySecond 75 = .ok (.aload_n 0, 1) := by decide +kernel
theorem dX4_maySecond_76 : decode cX4_maySecond 76 = .ok (.getfield 51, 3) := by decide +kernel
theorem dX4_maySecond_79 : decode cX4_maySecond 79 = .ok (.iconst 4, 1) := by decide +kernel
theorem dX4_maySecond_80 : decode cX4_maySecond 80 = .ok (.if_icmp .gt 18, 3) := by decide +kernel
theorem dX4_maySecond_83 : decode cX4_maySecond 83 = .ok (.iload_n 1, 1) := by decide +kernel
theorem dX4_maySecond_84 : decode cX4_maySecond 84 = .ok (.bipush 8, 2) := by decide +kernel
theorem dX4_maySecond_86 : decode cX4_maySecond 86 = .ok (.if_icmp .ne 16, 3) := by decide +kernel
theorem dX4_maySecond_89 : decode cX4_maySecond 89 = .ok (.aload_n 0, 1) := by decide +kernel
theorem dX4_maySecond_90 : decode cX4_maySecond 90 = .ok (.getfield 51, 3) := by decide +kernel
theorem dX4_maySecond_93 : decode cX4_maySecond 93 = .ok (.bipush 6, 2) := by decide +kernel
theorem dX4_maySecond_95 : decode cX4_maySecond 95 = .ok (.if_icmp .ne 7, 3) := by decide +kernel
theorem dX4_maySecond_98 : decode cX4_maySecond 98 = .ok (.iconst 1, 1) := by decide +kernel
theorem dX4_maySecond_99 : decode cX4_maySecond 99 = .ok (.goto 4, 3) := by decide +kernel
theorem dX4_maySecond_102 : decode cX4_maySecond 102 = .ok (.iconst 0, 1) := by decide +kernel
theorem dX4_maySecond_103 : decode cX4_maySecond 103 = .ok (.ireturn, 1) := by decide +kernel
set_option maxRecDepth 20000 in
theorem ggX4_isFlag_X4_in : GoodIn wsX4_isFlag wsX4_in := goodIn_r _ [4] (by decide +kernel) (by decide +kernel)
set_option maxRecDepth 20000 in
theorem gX4_isFlag_X4_in : GoodIn wsX4_isFlag (va_wsS RX4 27 yX4_in wsX4_in) := goodIn_app (goodIn_of _ (by decide +kernel)) ggX4_isFlag_X4_in
theorem dX4_isFlag_0 : decode cX4_isFlag 0 = .ok (.iload_n 0, 1) := by decide +kernel
theorem dX4_isFlag_1 : decode cX4_isFlag 1 = .ok (.iconst 1, 1) := by decide +kernel
theorem dX4_isFlag_2 : decode cX4_isFlag 2 = .ok (.if_icmp .ne 13, 3) := by decide +kernel
theorem dX4_isFlag_5 : decode cX4_isFlag 5 = .ok (.iload_n 1, 1) := by decide +kernel
theorem dX4_isFlag_6 : decode cX4_isFlag 6 = .ok (.iconst 0, 1) := by decide +kernel
theorem dX4_isFlag_7 : decode cX4_isFlag 7 = .ok (.bipush 7, 2) := by decide +kernel
theorem dX4_isFlag_9 : decode cX4_isFlag 9 = .ok (.invokestatic 27, 3) := by decide +kernel
theorem dX4_isFlag_12 : decode cX4_isFlag 12 = .ok (.goto 23, 3) := by decide +kernel
theorem dX4_isFlag_15 : decode cX4_isFlag 15 = .ok (.iload_n 0, 1) := by decide +kernel
theorem dX4_isFlag_16 : decode cX4_isFlag 16 = .ok (.iconst 2, 1) := by decide +kernel
theorem dX4_isFlag_17 : decode cX4_isFlag 17 = .ok (.if_icmp .ne 17, 3) := by decide +kernel
theorem dX4_isFlag_20 : decode cX4_isFlag 20 = .ok (.iload_n 1, 1) := by decide +kernel
theorem dX4_isFlag_21 : decode cX4_isFlag 21 = .ok (.iconst 0, 1) := by decide +kernel
theorem dX4_isFlag_22 : decode cX4_isFlag 22 = .ok (.bipush 15, 2) := by decide +kernel
theorem dX4_isFlag_24 : decode cX4_isFlag 24 = .ok (.invokestatic 27, 3) := by decide +kernel
theorem dX4_isFlag_27 : decode cX4_isFlag 27 = .ok (.ifCond .eq 7, 3) := by decide +kernel
theorem dX4_isFlag_30 : decode cX4_isFlag 30 = .ok (.iconst 1, 1) := by decide +kernel
theorem dX4_isFlag_31 : decode cX4_isFlag 31 = .ok (.goto 4, 3) := by decide +kernel
theorem dX4_isFlag_34 : decode cX4_isFlag 34 = .ok (.iconst 0, 1) := by decide +kernel
theorem dX4_isFlag_35 : decode cX4_isFlag 35 = .ok (.ireturn, 1) := by decide +kernel
theorem dX4_placeOf_0 : decode cX4_placeOf 0 = .ok (.iload_n 0, 1) := by decide +kernel
theorem dX4_placeOf_1 : decode cX4_placeOf 1 = .ok (.iconst 1, 1) := by decide +kernel
theorem dX4_placeOf_2 : decode cX4_placeOf 2 = .ok (.if_icmp .ne 7, 3) := by decide +kernel
theorem dX4_placeOf_5 : decode cX4_placeOf 5 = .ok (.iconst 1, 1) := by decide +kernel
theorem dX4_placeOf_6 : decode cX4_placeOf 6 = .ok (.goto 16, 3) := by decide +kernel
theorem dX4_placeOf_9 : decode cX4_placeOf 9 = .ok (.iload_n 1, 1) := by decide +kernel
theorem dX4_placeOf_10 : decode cX4_placeOf 10 = .ok (.bipush 7, 2) := by decide +kernel
theorem dX4_placeOf_12 : decode cX4_placeOf 12 = .ok (.if_icmp .le 8, 3) := by decide +kernel
theorem dX4_placeOf_15 : decode cX4_placeOf 15 = .ok (.bipush 16, 2) := by decide +kernel
theorem dX4_placeOf_17 : decode cX4_placeOf 17 = .ok (.goto 5, 3) := by decide +kernel
theorem dX4_placeOf_20 : decode cX4_placeOf 20 = .ok (.bipush 17, 2) := by decide +kernel
theorem dX4_placeOf_22 : decode cX4_placeOf 22 = .ok (.ireturn, 1) := by decide +kernel
set_option maxRecDepth 20000 in
theorem ggX4_flag_X4_isFlag : GoodIn wsX4_flag wsX4_isFlag := goodIn_r _ [7, 8, 9, 6, 10] (by decide +kernel) (by decide +kernel)
set_option maxRecDepth 20000 in
theorem gX4_flag_X4_isFlag : GoodIn wsX4_flag (va_wsS RX4 106 yX4_isFlag wsX4_isFlag) := goodIn_app (goodIn_of _ (by decide +kernel)) ggX4_flag_X4_isFlag
set_option maxRecDepth 20000 in
theorem ggX4_flag_X4_mayFirst : GoodIn wsX4_flag wsX4_mayFirst := goodIn_r _ [14, 15, 8, 9, 6, 10, 27, 28, 29, 30, 31, 32, 33, 34, 35] (by decide +kernel) (by decide +kernel)
set_option maxRecDepth 20000 in
theorem gX4_flag_X4_mayFirst : GoodIn wsX4_flag (wsV RX4 110 RX4 yX4_mayFirst wsX4_mayFirst) := goodIn_app (goodIn_of _ (by decide +kernel)) ggX4_flag_X4_mayFirst
set_option maxRecDepth 20000 in
theorem ggX4_flag_X4_maySecond : GoodIn wsX4_flag wsX4_maySecond := goodIn_r _ [19, 15, 8, 9, 6, 10, 27, 28, 29, 30, 31, 32, 33, 34, 35] (by decide +kernel) (by decide +kernel)
set_option maxRecDepth 20000 in
theorem gX4_flag_X4_maySecond : GoodIn wsX4_flag (wsV RX4 113 RX4 yX4_maySecond wsX4_maySecond) := goodIn_app (goodIn_of _ (by decide +kernel)) ggX4_flag_X4_maySecond
set_option maxRecDepth 20000 in
theorem ggX4_flag_X4_isOn : GoodIn wsX4_flag wsX4_isOn := goodIn_ca (goodIn_r _ [23, 1, 2, 3, 4, 5, 6, 7, 8, 9, 10, 24, 25, 26, 27, 28, 29, 30, 31, 32, 33, 34, 35] (by decide +kernel) (by decide +kernel)) (goodIn_sub (fun _ h => List.mem_cons_of_mem _ (List.mem_append_right _ h)) (by decide +kernel))
set_option maxRecDepth 20000 in
theorem gX4_flag_X4_isOn : GoodIn wsX4_flag (wsV RX4 117 RX4 yX4_isOn wsX4_isOn) := goodIn_app (goodIn_of _ (by decide +kernel)) ggX4_flag_X4_isOn
set_option maxRecDepth 20000 in
theorem ggX4_flag_X4_placeOf : GoodIn wsX4_flag wsX4_placeOf := goodIn_r _ [26] (by decide +kernel) (by decide +kernel)
set_option maxRecDepth 20000 in
theorem gX4_flag_X4_placeOf : GoodIn wsX4_flag (va_wsS RX4 120 yX4_placeOf wsX4_placeOf) := goodIn_app (goodIn_of _ (by decide +kernel)) ggX4_flag_X4_placeOf
theorem dX4_flag_0 : decode cX4_flag 0 = .ok (.aload_n 0, 1) := by decide +kernel
theorem dX4_flag_1 : decode cX4_flag 1 = .ok (.iconst 0, 1) := by decide +kernel
theorem dX4_flag_2 : decode cX4_flag 2 = .ok (.putfield 19, 3) := by decide +kernel
theorem dX4_flag_5 : decode cX4_flag 5 = .ok (.aload_n 0, 1) := by decide +kernel
theorem dX4_flag_6 : decode cX4_flag 6 = .ok (.getfield 36, 3) := by decide +kernel
theorem dX4_flag_9 : decode cX4_flag 9 = .ok (.ifCond .ne 6, 3) := by decide +kernel
theorem dX4_flag_12 : decode cX4_flag 12 = .ok (.bipush (-11), 2) := by decide +kernel
theorem dX4_flag_14 : decode cX4_flag 14 = .ok (.ireturn, 1) := by decide +kernel
theorem dX4_flag_15 : decode cX4_flag 15 = .ok (.iload_n 1, 1) := by decide +kernel
theorem dX4_flag_16 : decode cX4_flag 16 = .ok (.iload_n 2, 1) := by decide +kernel
theorem dX4_flag_17 : decode cX4_flag 17 = .ok (.invokestatic 106, 3) := by decide +kernel
theorem dX4_flag_20 : decode cX4_flag 20 = .ok (.ifCond .ne 6, 3) := by decide +kernel
theorem dX4_flag_23 : decode cX4_flag 23 = .ok (.bipush (-12), 2) := by decide +kernel
theorem dX4_flag_25 : decode cX4_flag 25 = .ok (.ireturn, 1) := by decide +kernel
theorem dX4_flag_26 : decode cX4_flag 26 = .ok (.iload_n 1, 1) := by decide +kernel
theorem dX4_flag_27 : decode cX4_flag 27 = .ok (.iconst 1, 1) := by decide +kernel
theorem dX4_flag_28 : decode cX4_flag 28 = .ok (.if_icmp .ne 24, 3) := by decide +kernel
theorem dX4_flag_31 : decode cX4_flag 31 = .ok (.iload 4, 2) := by decide +kernel
theorem dX4_flag_33 : decode cX4_flag 33 = .ok (.ifCond .ne 15, 3) := by decide +kernel
theorem dX4_flag_36 : decode cX4_flag 36 = .ok (.aload_n 0, 1) := by decide +kernel
theorem dX4_flag_37 : decode cX4_flag 37 = .ok (.iload_n 2, 1) := by decide +kernel
theorem dX4_flag_38 : decode cX4_flag 38 = .ok (.invokevirtual 110, 3) := by decide +kernel
theorem dX4_flag_41 : decode cX4_flag 41 = .ok (.ifCond .eq 7, 3) := by decide +kernel
theorem dX4_flag_44 : decode cX4_flag 44 = .ok (.iconst 1, 1) := by decide +kernel
theorem dX4_flag_45 : decode cX4_flag 45 = .ok (.goto 15, 3) := by decide +kernel
theorem dX4_flag_48 : decode cX4_flag 48 = .ok (.iconst 0, 1) := by decide +kernel
theorem dX4_flag_49 : decode cX4_flag 49 = .ok (.goto 11, 3) := by decide +kernel
theorem dX4_flag_52 : decode cX4_flag 52 = .ok (.aload_n 0, 1) := by decide +kernel
theorem dX4_flag_53 : decode cX4_flag 53 = .ok (.iload_n 2, 1) := by decide +kernel
theorem dX4_flag_54 : decode cX4_flag 54 = .ok (.iload_n 3, 1) := by decide +kernel
theorem dX4_flag_55 : decode cX4_flag 55 = .ok (.iload 4, 2) := by decide +kernel
theorem dX4_flag_57 : decode cX4_flag 57 = .ok (.invokevirtual 113, 3) := by decide +kernel
theorem dX4_flag_60 : decode cX4_flag 60 = .ok (.istore 5, 2) := by decide +kernel
theorem dX4_flag_62 : decode cX4_flag 62 = .ok (.iload 5, 2) := by decide +kernel
theorem dX4_flag_64 : decode cX4_flag 64 = .ok (.ifCond .ne 6, 3) := by decide +kernel
theorem dX4_flag_67 : decode cX4_flag 67 = .ok (.bipush (-13), 2) := by decide +kernel
theorem dX4_flag_69 : decode cX4_flag 69 = .ok (.ireturn, 1) := by decide +kernel
theorem dX4_flag_70 : decode cX4_flag 70 = .ok (.aload_n 0, 1) := by decide +kernel
theorem dX4_flag_71 : decode cX4_flag 71 = .ok (.iload_n 1, 1) := by decide +kernel
theorem dX4_flag_72 : decode cX4_flag 72 = .ok (.iload_n 2, 1) := by decide +kernel
theorem dX4_flag_73 : decode cX4_flag 73 = .ok (.invokevirtual 117, 3) := by decide +kernel
theorem dX4_flag_76 : decode cX4_flag 76 = .ok (.istore 6, 2) := by decide +kernel
theorem dX4_flag_78 : decode cX4_flag 78 = .ok (.iconst 1, 1) := by decide +kernel
theorem dX4_flag_79 : decode cX4_flag 79 = .ok (.iload_n 2, 1) := by decide +kernel
theorem dX4_flag_80 : decode cX4_flag 80 = .ok (.bipush 8, 2) := by decide +kernel
theorem dX4_flag_82 : decode cX4_flag 82 = .ok (.irem, 1) := by decide +kernel
theorem dX4_flag_83 : decode cX4_flag 83 = .ok (.ishl, 1) := by decide +kernel
theorem dX4_flag_84 : decode cX4_flag 84 = .ok (.istore 7, 2) := by decide +kernel
theorem dX4_flag_86 : decode cX4_flag 86 = .ok (.aload_n 0, 1) := by decide +kernel
theorem dX4_flag_87 : decode cX4_flag 87 = .ok (.getfield 16, 3) := by decide +kernel
theorem dX4_flag_90 : decode cX4_flag 90 = .ok (.iload_n 1, 1) := by decide +kernel
theorem dX4_flag_91 : decode cX4_flag 91 = .ok (.iload_n 2, 1) := by decide +kernel
theorem dX4_flag_92 : decode cX4_flag 92 = .ok (.invokestatic 120, 3) := by decide +kernel
theorem dX4_flag_95 : decode cX4_flag 95 = .ok (.dup2, 1) := by decide +kernel
theorem dX4_flag_96 : decode cX4_flag 96 = .ok (.iaload, 1) := by decide +kernel
theorem dX4_flag_97 : decode cX4_flag 97 = .ok (.iload 6, 2) := by decide +kernel
theorem dX4_flag_99 : decode cX4_flag 99 = .ok (.ifCond .ne 12, 3) := by decide +kernel
theorem dX4_flag_102 : decode cX4_flag 102 = .ok (.iload_n 3, 1) := by decide +kernel
theorem dX4_flag_103 : decode cX4_flag 103 = .ok (.ifCond .eq 8, 3) := by decide +kernel
theorem dX4_flag_106 : decode cX4_flag 106 = .ok (.iload 7, 2) := by decide +kernel
theorem dX4_flag_108 : decode cX4_flag 108 = .ok (.goto 20, 3) := by decide +kernel
theorem dX4_flag_111 : decode cX4_flag 111 = .ok (.iload 6, 2) := by decide +kernel
theorem dX4_flag_113 : decode cX4_flag 113 = .ok (.iconst 1, 1) := by decide +kernel
theorem dX4_flag_114 : decode cX4_flag 114 = .ok (.if_icmp .ne 13, 3) := by decide +kernel
theorem dX4_flag_117 : decode cX4_flag 117 = .ok (.iload_n 3, 1) := by decide +kernel
theorem dX4_flag_118 : decode cX4_flag 118 = .ok (.ifCond .ne 9, 3) := by decide +kernel
theorem dX4_flag_121 : decode cX4_flag 121 = .ok (.iload 7, 2) := by decide +kernel
theorem dX4_flag_123 : decode cX4_flag 123 = .ok (.ineg, 1) := by decide +kernel
theorem dX4_flag_124 : decode cX4_flag 124 = .ok (.goto 4, 3) := by decide +kernel
theorem dX4_flag_127 : decode cX4_flag 127 = .ok (.iconst 0, 1) := by decide +kernel
theorem dX4_flag_128 : decode cX4_flag 128 = .ok (.iadd, 1) := by decide +kernel
theorem dX4_flag_129 : decode cX4_flag 129 = .ok (.iastore, 1) := by decide +kernel
theorem dX4_flag_130 : decode cX4_flag 130 = .ok (.iload 6, 2) := by decide +kernel
theorem dX4_flag_132 : decode cX4_flag 132 = .ok (.ireturn, 1) := by decide +kernel
set_option maxRecDepth 20000 in
theorem ggX4_isOn_X4_isFlag : GoodIn wsX4_isOn wsX4_isFlag := goodIn_r _ [7, 8, 9, 6, 10] (by decide +kernel) (by decide +kernel)
set_option maxRecDepth 20000 in
theorem gX4_isOn_X4_isFlag : GoodIn wsX4_isOn (va_wsS RX4 106 yX4_isFlag wsX4_isFlag) := goodIn_app (goodIn_of _ (by decide +kernel)) ggX4_isOn_X4_isFlag
set_option maxRecDepth 20000 in
theorem ggX4_isOn_X4_placeOf : GoodIn wsX4_isOn wsX4_placeOf := goodIn_r _ [13] (by decide +kernel) (by decide +kernel)
set_option maxRecDepth 20000 in
theorem gX4_isOn_X4_placeOf : GoodIn wsX4_isOn (va_wsS RX4 120 yX4_placeOf wsX4_placeOf) := goodIn_app (goodIn_of _ (by decide +kernel)) ggX4_isOn_X4_placeOf
theorem dX4_isOn_0 : decode cX4_isOn 0 = .ok (.aload_n 0, 1) := by decide +kernel
theorem dX4_isOn_1 : decode cX4_isOn 1 = .ok (.iconst 0, 1) := by decide +kernel
theorem dX4_isOn_2 : decode cX4_isOn 2 = .ok (.putfield 19, 3) := by decide +kernel
theorem dX4_isOn_5 : decode cX4_isOn 5 = .ok (.aload_n 0, 1) := by decide +kernel
theorem dX4_isOn_6 : decode cX4_isOn 6 = .ok (.getfield 36, 3) := by decide +kernel
theorem dX4_isOn_9 : decode cX4_isOn 9 = .ok (.ifCond .ne 6, 3) := by decide +kernel
theorem dX4_isOn_12 : decode cX4_isOn 12 = .ok (.bipush (-11), 2) := by decide +kernel
theorem dX4_isOn_14 : decode cX4_isOn 14 = .ok (.ireturn, 1) := by decide +kernel
theorem dX4_isOn_15 : decode cX4_isOn 15 = .ok (.iload_n 1, 1) := by decide +kernel
theorem dX4_isOn_16 : decode cX4_isOn 16 = .ok (.iload_n 2, 1) := by decide +kernel
theorem dX4_isOn_17 : decode cX4_isOn 17 = .ok (.invokestatic 106, 3) := by decide +kernel
theorem dX4_isOn_20 : decode cX4_isOn 20 = .ok (.ifCond .eq 23, 3) := by decide +kernel
theorem dX4_isOn_23 : decode cX4_isOn 23 = .ok (.aload_n 0, 1) := by decide +kernel
theorem dX4_isOn_24 : decode cX4_isOn 24 = .ok (.getfield 16, 3) := by decide +kernel
theorem dX4_isOn_27 : decode cX4_isOn 27 = .ok (.iload_n 1, 1) := by decide +kernel
theorem dX4_isOn_28 : decode cX4_isOn 28 = .ok (.iload_n 2, 1) := by decide +kernel
theorem dX4_isOn_29 : decode cX4_isOn 29 = .ok (.invokestatic 120, 3) := by decide +kernel
theorem dX4_isOn_32 : decode cX4_isOn 32 = .ok (.iaload, 1) := by decide +kernel
theorem dX4_isOn_33 : decode cX4_isOn 33 = .ok (.iload_n 2, 1) := by decide +kernel
theorem dX4_isOn_34 : decode cX4_isOn 34 = .ok (.bipush 8, 2) := by decide +kernel
theorem dX4_isOn_36 : decode cX4_isOn 36 = .ok (.irem, 1) := by decide +kernel
theorem dX4_isOn_37 : decode cX4_isOn 37 = .ok (.ishr, 1) := by decide +kernel
theorem dX4_isOn_38 : decode cX4_isOn 38 = .ok (.iconst 1, 1) := by decide +kernel
theorem dX4_isOn_39 : decode cX4_isOn 39 = .ok (.iand, 1) := by decide +kernel
theorem dX4_isOn_40 : decode cX4_isOn 40 = .ok (.goto 5, 3) := by decide +kernel
theorem dX4_isOn_43 : decode cX4_isOn 43 = .ok (.bipush (-12), 2) := by decide +kernel
theorem dX4_isOn_45 : decode cX4_isOn 45 = .ok (.ireturn, 1) := by decide +kernel
theorem dX4_isWide_0 : decode cX4_isWide 0 = .ok (.iload_n 0, 1) := by decide +kernel
theorem dX4_isWide_1 : decode cX4_isWide 1 = .ok (.iconst 4, 1) := by decide +kernel
theorem dX4_isWide_2 : decode cX4_isWide 2 = .ok (.if_icmp .eq 14, 3) := by decide +kernel
theorem dX4_isWide_5 : decode cX4_isWide 5 = .ok (.iload_n 0, 1) := by decide +kernel
theorem dX4_isWide_6 : decode cX4_isWide 6 = .ok (.iconst 5, 1) := by decide +kernel
theorem dX4_isWide_7 : decode cX4_isWide 7 = .ok (.if_icmp .eq 9, 3) := by decide +kernel
theorem dX4_isWide_10 : decode cX4_isWide 10 = .ok (.iload_n 0, 1) := by decide +kernel
theorem dX4_isWide_11 : decode cX4_isWide 11 = .ok (.bipush 10, 2) := by decide +kernel
theorem dX4_isWide_13 : decode cX4_isWide 13 = .ok (.if_icmp .ne 7, 3) := by decide +kernel
theorem dX4_isWide_16 : decode cX4_isWide 16 = .ok (.iconst 1, 1) := by decide +kernel
theorem dX4_isWide_17 : decode cX4_isWide 17 = .ok (.goto 4, 3) := by decide +kernel
theorem dX4_isWide_20 : decode cX4_isWide 20 = .ok (.iconst 0, 1) := by decide +kernel
theorem dX4_isWide_21 : decode cX4_isWide 21 = .ok (.ireturn, 1) := by decide +kernel
theorem dX4_placeSet_0 : decode cX4_placeSet 0 = .ok (.iload_n 1, 1) := by decide +kernel
theorem dX4_placeSet_1 : decode cX4_placeSet 1 = .ok (.tableswitch 90 4 10 #[43, 46, 49, 65, 81, 84, 87], 43) := by decide +kernel
theorem dX4_placeSet_44 : decode cX4_placeSet 44 = .ok (.bipush 34, 2) := by decide +kernel
theorem dX4_placeSet_46 : decode cX4_placeSet 46 = .ok (.ireturn, 1) := by decide +kernel
theorem dX4_placeSet_47 : decode cX4_placeSet 47 = .ok (.bipush 36, 2) := by decide +kernel
theorem dX4_placeSet_49 : decode cX4_placeSet 49 = .ok (.ireturn, 1) := by decide +kernel
theorem dX4_placeSet_50 : decode cX4_placeSet 50 = .ok (.aload_n 0, 1) := by decide +kernel
theorem dX4_placeSet_51 : decode cX4_placeSet 51 = .ok (.getfield 51, 3) := by decide +kernel
theorem dX4_placeSet_54 : decode cX4_placeSet 54 = .ok (.iconst 5, 1) := by decide +kernel
theorem dX4_placeSet_55 : decode cX4_placeSet 55 = .ok (.if_icmp .ne 8, 3) := by decide +kernel
theorem dX4_placeSet_58 : decode cX4_placeSet 58 = .ok (.bipush 38, 2) := by decide +kernel
theorem dX4_placeSet_60 : decode cX4_placeSet 60 = .ok (.goto 5, 3) := by decide +kernel
theorem dX4_placeSet_63 : decode cX4_placeSet 63 = .ok (.bipush 39, 2) := by decide +kernel
theorem dX4_placeSet_65 : decode cX4_placeSet 65 = .ok (.ireturn, 1) := by decide +kernel
theorem dX4_placeSet_66 : decode cX4_placeSet 66 = .ok (.aload_n 0, 1) := by decide +kernel
theorem dX4_placeSet_67 : decode cX4_placeSet 67 = .ok (.getfield 51, 3) := by decide +kernel
theorem dX4_placeSet_70 : decode cX4_placeSet 70 = .ok (.iconst 5, 1) := by decide +kernel
theorem dX4_placeSet_71 : decode cX4_placeSet 71 = .ok (.if_icmp .ne 8, 3) := by decide +kernel
theorem dX4_placeSet_74 : decode cX4_placeSet 74 = .ok (.bipush 39, 2) := by decide +kernel
theorem dX4_placeSet_76 : decode cX4_placeSet 76 = .ok (.goto 5, 3) := by decide +kernel
theorem dX4_placeSet_79 : decode cX4_placeSet 79 = .ok (.bipush 38, 2) := by decide +kernel
theorem dX4_placeSet_81 : decode cX4_placeSet 81 = .ok (.ireturn, 1) := by decide +kernel
theorem dX4_placeSet_82 : decode cX4_placeSet 82 = .ok (.bipush 44, 2) := by decide +kernel
theorem dX4_placeSet_84 : decode cX4_placeSet 84 = .ok (.ireturn, 1) := by decide +kernel
theorem dX4_placeSet_85 : decode cX4_placeSet 85 = .ok (.bipush 45, 2) := by decide +kernel
theorem dX4_placeSet_87 : decode cX4_placeSet 87 = .ok (.ireturn, 1) := by decide +kernel
theorem dX4_placeSet_88 : decode cX4_placeSet 88 = .ok (.bipush 50, 2) := by decide +kernel
theorem dX4_placeSet_90 : decode cX4_placeSet 90 = .ok (.ireturn, 1) := by decide +kernel
theorem dX4_placeSet_91 : decode cX4_placeSet 91 = .ok (.bipush 30, 2) := by decide +kernel
theorem dX4_placeSet_93 : decode cX4_placeSet 93 = .ok (.iload_n 1, 1) := by decide +kernel
theorem dX4_placeSet_94 : decode cX4_placeSet 94 = .ok (.iadd, 1) := by decide +kernel
theorem dX4_placeSet_95 : decode cX4_placeSet 95 = .ok (.ireturn, 1) := by decide +kernel
set_option maxRecDepth 20000 in
theorem ggX4_set_X4_in : GoodIn wsX4_set wsX4_in := goodIn_r _ [9] (by decide +kernel) (by decide +kernel)
set_option maxRecDepth 20000 in
theorem gX4_set_X4_in : GoodIn wsX4_set (va_wsS RX4 27 yX4_in wsX4_in) := goodIn_app (goodIn_of _ (by decide +kernel)) ggX4_set_X4_in
set_option maxRecDepth 20000 in
theorem ggX4_set_X4_isWide : GoodIn wsX4_set wsX4_isWide := goodIn_r _ [12] (by decide +kernel) (by decide +kernel)
set_option maxRecDepth 20000 in
theorem gX4_set_X4_isWide : GoodIn wsX4_set (va_wsS RX4 123 yX4_isWide wsX4_isWide) := goodIn_app (goodIn_of _ (by decide +kernel)) ggX4_set_X4_isWide
set_option maxRecDepth 20000 in
theorem ggX4_set_X4_placeSet : GoodIn wsX4_set wsX4_placeSet := goodIn_r _ [16, 4, 17, 18, 19, 20, 21, 22, 23, 24, 25] (by decide +kernel) (by decide +kernel)
set_option maxRecDepth 20000 in
theorem gX4_set_X4_placeSet : GoodIn wsX4_set (wsV RX4 126 RX4 yX4_placeSet wsX4_placeSet) := goodIn_app (goodIn_of _ (by decide +kernel)) ggX4_set_X4_placeSet
theorem dX4_set_0 : decode cX4_set 0 = .ok (.aload_n 0, 1) := by decide +kernel
theorem dX4_set_1 : decode cX4_set 1 = .ok (.iconst 0, 1) := by decide +kernel
theorem dX4_set_2 : decode cX4_set 2 = .ok (.putfield 19, 3) := by decide +kernel
theorem dX4_set_5 : decode cX4_set 5 = .ok (.aload_n 0, 1) := by decide +kernel
theorem dX4_set_6 : decode cX4_set 6 = .ok (.getfield 36, 3) := by decide +kernel
theorem dX4_set_9 : decode cX4_set 9 = .ok (.ifCond .ne 6, 3) := by decide +kernel
theorem dX4_set_12 : decode cX4_set 12 = .ok (.bipush (-11), 2) := by decide +kernel
theorem dX4_set_14 : decode cX4_set 14 = .ok (.ireturn, 1) := by decide +kernel
theorem dX4_set_15 : decode cX4_set 15 = .ok (.iload_n 1, 1) := by decide +kernel
theorem dX4_set_16 : decode cX4_set 16 = .ok (.iconst 0, 1) := by decide +kernel
theorem dX4_set_17 : decode cX4_set 17 = .ok (.bipush 10, 2) := by decide +kernel
theorem dX4_set_19 : decode cX4_set 19 = .ok (.invokestatic 27, 3) := by decide +kernel
theorem dX4_set_22 : decode cX4_set 22 = .ok (.ifCond .eq 26, 3) := by decide +kernel
theorem dX4_set_25 : decode cX4_set 25 = .ok (.iload_n 2, 1) := by decide +kernel
theorem dX4_set_26 : decode cX4_set 26 = .ok (.iconst 0, 1) := by decide +kernel
theorem dX4_set_27 : decode cX4_set 27 = .ok (.iload_n 1, 1) := by decide +kernel
theorem dX4_set_28 : decode cX4_set 28 = .ok (.invokestatic 123, 3) := by decide +kernel
theorem dX4_set_31 : decode cX4_set 31 = .ok (.ifCond .eq 8, 3) := by decide +kernel
theorem dX4_set_34 : decode cX4_set 34 = .ok (.ldc 94, 2) := by decide +kernel
theorem dX4_set_36 : decode cX4_set 36 = .ok (.goto 6, 3) := by decide +kernel
theorem dX4_set_39 : decode cX4_set 39 = .ok (.sipush 255, 3) := by decide +kernel
theorem dX4_set_42 : decode cX4_set 42 = .ok (.invokestatic 27, 3) := by decide +kernel
theorem dX4_set_45 : decode cX4_set 45 = .ok (.ifCond .ne 6, 3) := by decide +kernel
theorem dX4_set_48 : decode cX4_set 48 = .ok (.bipush (-12), 2) := by decide +kernel
theorem dX4_set_50 : decode cX4_set 50 = .ok (.ireturn, 1) := by decide +kernel
theorem dX4_set_51 : decode cX4_set 51 = .ok (.iload_n 1, 1) := by decide +kernel
theorem dX4_set_52 : decode cX4_set 52 = .ok (.iconst 4, 1) := by decide +kernel
theorem dX4_set_53 : decode cX4_set 53 = .ok (.if_icmp .ge 11, 3) := by decide +kernel
theorem dX4_set_56 : decode cX4_set 56 = .ok (.aload_n 0, 1) := by decide +kernel
theorem dX4_set_57 : decode cX4_set 57 = .ok (.getfield 51, 3) := by decide +kernel
theorem dX4_set_60 : decode cX4_set 60 = .ok (.iconst 4, 1) := by decide +kernel
theorem dX4_set_61 : decode cX4_set 61 = .ok (.if_icmp .lt 21, 3) := by decide +kernel
theorem dX4_set_64 : decode cX4_set 64 = .ok (.iload_n 1, 1) := by decide +kernel
theorem dX4_set_65 : decode cX4_set 65 = .ok (.iconst 4, 1) := by decide +kernel
theorem dX4_set_66 : decode cX4_set 66 = .ok (.bipush 9, 2) := by decide +kernel
theorem dX4_set_68 : decode cX4_set 68 = .ok (.invokestatic 27, 3) := by decide +kernel
theorem dX4_set_71 : decode cX4_set 71 = .ok (.ifCond .eq 14, 3) := by decide +kernel
theorem dX4_set_74 : decode cX4_set 74 = .ok (.aload_n 0, 1) := by decide +kernel
theorem dX4_set_75 : decode cX4_set 75 = .ok (.getfield 51, 3) := by decide +kernel
theorem dX4_set_78 : decode cX4_set 78 = .ok (.iconst 5, 1) := by decide +kernel
theorem dX4_set_79 : decode cX4_set 79 = .ok (.if_icmp .ge 6, 3) := by decide +kernel
theorem dX4_set_82 : decode cX4_set 82 = .ok (.bipush (-13), 2) := by decide +kernel
theorem dX4_set_84 : decode cX4_set 84 = .ok (.ireturn, 1) := by decide +kernel
theorem dX4_set_85 : decode cX4_set 85 = .ok (.aload_n 0, 1) := by decide +kernel
theorem dX4_set_86 : decode cX4_set 86 = .ok (.iload_n 1, 1) := by decide +kernel
theorem dX4_set_87 : decode cX4_set 87 = .ok (.invokevirtual 126, 3) := by decide +kernel
theorem dX4_set_90 : decode cX4_set 90 = .ok (.istore_n 3, 1) := by decide +kernel
theorem dX4_set_91 : decode cX4_set 91 = .ok (.aload_n 0, 1) := by decide +kernel
theorem dX4_set_92 : decode cX4_set 92 = .ok (.getfield 16, 3) := by decide +kernel
theorem dX4_set_95 : decode cX4_set 95 = .ok (.iload_n 3, 1) := by decide +kernel
theorem dX4_set_96 : decode cX4_set 96 = .ok (.iaload, 1) := by decide +kernel
theorem dX4_set_97 : decode cX4_set 97 = .ok (.istore 4, 2) := by decide +kernel
theorem dX4_set_99 : decode cX4_set 99 = .ok (.iload_n 1, 1) := by decide +kernel
theorem dX4_set_100 : decode cX4_set 100 = .ok (.invokestatic 123, 3) := by decide +kernel
theorem dX4_set_103 : decode cX4_set 103 = .ok (.ifCond .eq 47, 3) := by decide +kernel
theorem dX4_set_106 : decode cX4_set 106 = .ok (.sipush 256, 3) := by decide +kernel
theorem dX4_set_109 : decode cX4_set 109 = .ok (.iload 4, 2) := by decide +kernel
theorem dX4_set_111 : decode cX4_set 111 = .ok (.imul, 1) := by decide +kernel
theorem dX4_set_112 : decode cX4_set 112 = .ok (.aload_n 0, 1) := by decide +kernel
theorem dX4_set_113 : decode cX4_set 113 = .ok (.getfield 16, 3) := by decide +kernel
theorem dX4_set_116 : decode cX4_set 116 = .ok (.iload_n 3, 1) := by decide +kernel
theorem dX4_set_117 : decode cX4_set 117 = .ok (.iconst 1, 1) := by decide +kernel
theorem dX4_set_118 : decode cX4_set 118 = .ok (.iadd, 1) := by decide +kernel
theorem dX4_set_119 : decode cX4_set 119 = .ok (.iaload, 1) := by decide +kernel
theorem dX4_set_120 : decode cX4_set 120 = .ok (.iadd, 1) := by decide +kernel
theorem dX4_set_121 : decode cX4_set 121 = .ok (.istore 4, 2) := by decide +kernel
theorem dX4_set_123 : decode cX4_set 123 = .ok (.aload_n 0, 1) := by decide +kernel
theorem dX4_set_124 : decode cX4_set 124 = .ok (.getfield 16, 3) := by decide +kernel
theorem dX4_set_127 : decode cX4_set 127 = .ok (.iload_n 3, 1) := by decide +kernel
theorem dX4_set_128 : decode cX4_set 128 = .ok (.iload_n 2, 1) := by decide +kernel
theorem dX4_set_129 : decode cX4_set 129 = .ok (.sipush 256, 3) := by decide +kernel
theorem dX4_set_132 : decode cX4_set 132 = .ok (.idiv, 1) := by decide +kernel
theorem dX4_set_133 : decode cX4_set 133 = .ok (.iastore, 1) := by decide +kernel
theorem dX4_set_134 : decode cX4_set 134 = .ok (.aload_n 0, 1) := by decide +kernel
theorem dX4_set_135 : decode cX4_set 135 = .ok (.getfield 16, 3) := by decide +kernel
theorem dX4_set_138 : decode cX4_set 138 = .ok (.iload_n 3, 1) := by decide +kernel
theorem dX4_set_139 : decode cX4_set 139 = .ok (.iconst 1, 1) := by decide +kernel
theorem dX4_set_140 : decode cX4_set 140 = .ok (.iadd, 1) := by decide +kernel
theorem dX4_set_141 : decode cX4_set 141 = .ok (.iload_n 2, 1) := by decide +kernel
theorem dX4_set_142 : decode cX4_set 142 = .ok (.sipush 256, 3) := by decide +kernel
theorem dX4_set_145 : decode cX4_set 145 = .ok (.irem, 1) := by decide +kernel
theorem dX4_set_146 : decode cX4_set 146 = .ok (.iastore, 1) := by decide +kernel
theorem dX4_set_147 : decode cX4_set 147 = .ok (.goto 10, 3) := by decide +kernel
theorem dX4_set_150 : decode cX4_set 150 = .ok (.aload_n 0, 1) := by decide +kernel
theorem dX4_set_151 : decode cX4_set 151 = .ok (.getfield 16, 3) := by decide +kernel
theorem dX4_set_154 : decode cX4_set 154 = .ok (.iload_n 3, 1) := by decide +kernel
theorem dX4_set_155 : decode cX4_set 155 = .ok (.iload_n 2, 1) := by decide +kernel
theorem dX4_set_156 : decode cX4_set 156 = .ok (.iastore, 1) := by decide +kernel
theorem dX4_set_157 : decode cX4_set 157 = .ok (.iload 4, 2) := by decide +kernel
theorem dX4_set_159 : decode cX4_set 159 = .ok (.ireturn, 1) := by decide +kernel
set_option maxRecDepth 20000 in
theorem ggX4_restart_X4_two : GoodIn wsX4_restart wsX4_two := goodIn_ca (goodIn_r _ [9, 10, 11, 12, 13, 14, 15, 16, 17, 18, 19] (by decide +kernel) (by decide +kernel)) (goodIn_sub (fun _ h => List.mem_cons_of_mem _ (List.mem_append_right _ h)) (by decide +kernel))
set_option maxRecDepth 20000 in
theorem gX4_restart_X4_two : GoodIn wsX4_restart (wsV RX4 47 RX4 yX4_two wsX4_two) := goodIn_app (goodIn_of _ (by decide +kernel)) ggX4_restart_X4_two
theorem dX4_restart_0 : decode cX4_restart 0 = .ok (.aload_n 0, 1) := by decide +kernel
theorem dX4_restart_1 : decode cX4_restart 1 = .ok (.iconst 0, 1) := by decide +kernel
theorem dX4_restart_2 : decode cX4_restart 2 = .ok (.putfield 19, 3) := by decide +kernel
theorem dX4_restart_5 : decode cX4_restart 5 = .ok (.aload_n 0, 1) := by decide +kernel
theorem dX4_restart_6 : decode cX4_restart 6 = .ok (.getfield 36, 3) := by decide +kernel
theorem dX4_restart_9 : decode cX4_restart 9 = .ok (.ifCond .ne 6, 3) := by decide +kernel
theorem dX4_restart_12 : decode cX4_restart 12 = .ok (.bipush (-11), 2) := by decide +kernel
theorem dX4_restart_14 : decode cX4_restart 14 = .ok (.ireturn, 1) := by decide +kernel
theorem dX4_restart_15 : decode cX4_restart 15 = .ok (.iconst 0, 1) := by decide +kernel
theorem dX4_restart_16 : decode cX4_restart 16 = .ok (.istore_n 1, 1) := by decide +kernel
theorem dX4_restart_17 : decode cX4_restart 17 = .ok (.bipush 64, 2) := by decide +kernel
theorem dX4_restart_19 : decode cX4_restart 19 = .ok (.istore_n 2, 1) := by decide +kernel
theorem dX4_restart_20 : decode cX4_restart 20 = .ok (.iload_n 2, 1) := by decide +kernel
theorem dX4_restart_21 : decode cX4_restart 21 = .ok (.aload_n 0, 1) := by decide +kernel
theorem dX4_restart_22 : decode cX4_restart 22 = .ok (.bipush 14, 2) := by decide +kernel
theorem dX4_restart_24 : decode cX4_restart 24 = .ok (.invokevirtual 47, 3) := by decide +kernel
theorem dX4_restart_27 : decode cX4_restart 27 = .ok (.if_icmp .ge 44, 3) := by decide +kernel
theorem dX4_restart_30 : decode cX4_restart 30 = .ok (.iload_n 1, 1) := by decide +kernel
theorem dX4_restart_31 : decode cX4_restart 31 = .ok (.aload_n 0, 1) := by decide +kernel
theorem dX4_restart_32 : decode cX4_restart 32 = .ok (.getfield 16, 3) := by decide +kernel
theorem dX4_restart_35 : decode cX4_restart 35 = .ok (.iload_n 2, 1) := by decide +kernel
theorem dX4_restart_36 : decode cX4_restart 36 = .ok (.iaload, 1) := by decide +kernel
theorem dX4_restart_37 : decode cX4_restart 37 = .ok (.aload_n 0, 1) := by decide +kernel
theorem dX4_restart_38 : decode cX4_restart 38 = .ok (.getfield 13, 3) := by decide +kernel
theorem dX4_restart_41 : decode cX4_restart 41 = .ok (.iload_n 2, 1) := by decide +kernel
theorem dX4_restart_42 : decode cX4_restart 42 = .ok (.iaload, 1) := by decide +kernel
theorem dX4_restart_43 : decode cX4_restart 43 = .ok (.if_icmp .eq 7, 3) := by decide +kernel
theorem dX4_restart_46 : decode cX4_restart 46 = .ok (.iconst 1, 1) := by decide +kernel
theorem dX4_restart_47 : decode cX4_restart 47 = .ok (.goto 4, 3) := by decide +kernel
theorem dX4_restart_50 : decode cX4_restart 50 = .ok (.iconst 0, 1) := by decide +kernel
theorem dX4_restart_51 : decode cX4_restart 51 = .ok (.iadd, 1) := by decide +kernel
theorem dX4_restart_52 : decode cX4_restart 52 = .ok (.istore_n 1, 1) := by decide +kernel
theorem dX4_restart_53 : decode cX4_restart 53 = .ok (.aload_n 0, 1) := by decide +kernel
theorem dX4_restart_54 : decode cX4_restart 54 = .ok (.getfield 16, 3) := by decide +kernel
theorem dX4_restart_57 : decode cX4_restart 57 = .ok (.iload_n 2, 1) := by decide +kernel
theorem dX4_restart_58 : decode cX4_restart 58 = .ok (.aload_n 0, 1) := by decide +kernel
theorem dX4_restart_59 : decode cX4_restart 59 = .ok (.getfield 13, 3) := by decide +kernel
theorem dX4_restart_62 : decode cX4_restart 62 = .ok (.iload_n 2, 1) := by decide +kernel
theorem dX4_restart_63 : decode cX4_restart 63 = .ok (.iaload, 1) := by decide +kernel
theorem dX4_restart_64 : decode cX4_restart 64 = .ok (.iastore, 1) := by decide +kernel
theorem dX4_restart_65 : decode cX4_restart 65 = .ok (.iinc 2 1, 3) := by decide +kernel
theorem dX4_restart_68 : decode cX4_restart 68 = .ok (.goto (-48), 3) := by decide +kernel
theorem dX4_restart_71 : decode cX4_restart 71 = .ok (.iload_n 1, 1) := by decide +kernel
theorem dX4_restart_72 : decode cX4_restart 72 = .ok (.ireturn, 1) := by decide +kernel
set_option maxRecDepth 20000 in
theorem ggX4_sign_X4_two : GoodIn wsX4_sign wsX4_two := goodIn_ca (goodIn_r _ [9, 3, 17, 18, 19, 20, 21, 22, 23, 24, 25] (by decide +kernel) (by decide +kernel)) (goodIn_sub (fun _ h => List.mem_cons_of_mem _ (List.mem_append_right _ h)) (by decide +kernel))
set_option maxRecDepth 20000 in
theorem gX4_sign_X4_two : GoodIn wsX4_sign (wsV RX4 47 RX4 yX4_two wsX4_two) := goodIn_app (goodIn_of _ (by decide +kernel)) ggX4_sign_X4_two
set_option maxRecDepth 20000 in
theorem ggX4_sign_X4_in : GoodIn wsX4_sign wsX4_in := goodIn_r _ [12] (by decide +kernel) (by decide +kernel)
set_option maxRecDepth 20000 in
theorem gX4_sign_X4_in : GoodIn wsX4_sign (va_wsS RX4 27 yX4_in wsX4_in) := goodIn_app (goodIn_of _ (by decide +kernel)) ggX4_sign_X4_in
set_option maxRecDepth 20000 in
theorem ggX4_sign_X4_thrownAt : GoodIn wsX4_sign wsX4_thrownAt := goodIn_r _ [16, 1, 17, 18, 19, 20, 21, 22, 23, 24, 25] (by decide +kernel) (by decide +kernel)
set_option maxRecDepth 20000 in
theorem gX4_sign_X4_thrownAt : GoodIn wsX4_sign (wsV RX4 91 RX4 yX4_thrownAt wsX4_thrownAt) := goodIn_app (goodIn_of _ (by decide +kernel)) ggX4_sign_X4_thrownAt
theorem dX4_sign_0 : decode cX4_sign 0 = .ok (.aload_n 0, 1) := by decide +kernel
theorem dX4_sign_1 : decode cX4_sign 1 = .ok (.iconst 0, 1) := by decide +kernel
theorem dX4_sign_2 : decode cX4_sign 2 = .ok (.putfield 19, 3) := by decide +kernel
theorem dX4_sign_5 : decode cX4_sign 5 = .ok (.aload_n 0, 1) := by decide +kernel
theorem dX4_sign_6 : decode cX4_sign 6 = .ok (.getfield 36, 3) := by decide +kernel
theorem dX4_sign_9 : decode cX4_sign 9 = .ok (.ifCond .ne 6, 3) := by decide +kernel
theorem dX4_sign_12 : decode cX4_sign 12 = .ok (.bipush (-11), 2) := by decide +kernel
theorem dX4_sign_14 : decode cX4_sign 14 = .ok (.ireturn, 1) := by decide +kernel
theorem dX4_sign_15 : decode cX4_sign 15 = .ok (.aload_n 0, 1) := by decide +kernel
theorem dX4_sign_16 : decode cX4_sign 16 = .ok (.bipush 8, 2) := by decide +kernel
theorem dX4_sign_18 : decode cX4_sign 18 = .ok (.invokevirtual 47, 3) := by decide +kernel
theorem dX4_sign_21 : decode cX4_sign 21 = .ok (.istore_n 2, 1) := by decide +kernel
theorem dX4_sign_22 : decode cX4_sign 22 = .ok (.iload_n 1, 1) := by decide +kernel
theorem dX4_sign_23 : decode cX4_sign 23 = .ok (.iconst 0, 1) := by decide +kernel
theorem dX4_sign_24 : decode cX4_sign 24 = .ok (.aload_n 0, 1) := by decide +kernel
theorem dX4_sign_25 : decode cX4_sign 25 = .ok (.getfield 7, 3) := by decide +kernel
theorem dX4_sign_28 : decode cX4_sign 28 = .ok (.iload_n 2, 1) := by decide +kernel
theorem dX4_sign_29 : decode cX4_sign 29 = .ok (.iaload, 1) := by decide +kernel
theorem dX4_sign_30 : decode cX4_sign 30 = .ok (.iconst 1, 1) := by decide +kernel
theorem dX4_sign_31 : decode cX4_sign 31 = .ok (.isub, 1) := by decide +kernel
theorem dX4_sign_32 : decode cX4_sign 32 = .ok (.invokestatic 27, 3) := by decide +kernel
theorem dX4_sign_35 : decode cX4_sign 35 = .ok (.ifCond .eq 16, 3) := by decide +kernel
theorem dX4_sign_38 : decode cX4_sign 38 = .ok (.aload_n 0, 1) := by decide +kernel
theorem dX4_sign_39 : decode cX4_sign 39 = .ok (.getfield 13, 3) := by decide +kernel
theorem dX4_sign_42 : decode cX4_sign 42 = .ok (.iload_n 2, 1) := by decide +kernel
theorem dX4_sign_43 : decode cX4_sign 43 = .ok (.iconst 1, 1) := by decide +kernel
theorem dX4_sign_44 : decode cX4_sign 44 = .ok (.iadd, 1) := by decide +kernel
theorem dX4_sign_45 : decode cX4_sign 45 = .ok (.iload_n 1, 1) := by decide +kernel
theorem dX4_sign_46 : decode cX4_sign 46 = .ok (.iadd, 1) := by decide +kernel
theorem dX4_sign_47 : decode cX4_sign 47 = .ok (.iaload, 1) := by decide +kernel
theorem dX4_sign_48 : decode cX4_sign 48 = .ok (.goto 7, 3) := by decide +kernel
theorem dX4_sign_51 : decode cX4_sign 51 = .ok (.aload_n 0, 1) := by decide +kernel
theorem dX4_sign_52 : decode cX4_sign 52 = .ok (.invokevirtual 91, 3) := by decide +kernel
theorem dX4_sign_55 : decode cX4_sign 55 = .ok (.ireturn, 1) := by decide +kernel
set_option maxRecDepth 20000 in
theorem ggX4_ratio_X4_field : GoodIn wsX4_ratio wsX4_field := goodIn_ca (goodIn_r _ [8, 1, 2, 9, 3, 10, 11, 12, 13, 7, 14, 15, 16, 17, 18, 19, 20, 21, 22, 27, 28, 29, 30, 31, 32, 33, 34, 35] (by decide +kernel) (by decide +kernel)) (goodIn_sub (fun _ h => List.mem_cons_of_mem _ (List.mem_append_right _ h)) (by decide +kernel))
set_option maxRecDepth 20000 in
theorem gX4_ratio_X4_field : GoodIn wsX4_ratio (wsV RX4 129 RX4 yX4_field wsX4_field) := goodIn_app (goodIn_of _ (by decide +kernel)) ggX4_ratio_X4_field
set_option maxRecDepth 20000 in
theorem ggX4_ratio_X4_thrownAt : GoodIn wsX4_ratio wsX4_thrownAt := goodIn_r _ [26, 1, 27, 28, 29, 30, 31, 32, 33, 34, 35] (by decide +kernel) (by decide +kernel)
set_option maxRecDepth 20000 in
theorem gX4_ratio_X4_thrownAt : GoodIn wsX4_ratio (wsV RX4 91 RX4 yX4_thrownAt wsX4_thrownAt) := goodIn_app (goodIn_of _ (by decide +kernel)) ggX4_ratio_X4_thrownAt
theorem dX4_ratio_0 : decode cX4_ratio 0 = .ok (.aload_n 0, 1) := by decide +kernel
theorem dX4_ratio_1 : decode cX4_ratio 1 = .ok (.iconst 0, 1) := by decide +kernel
theorem dX4_ratio_2 : decode cX4_ratio 2 = .ok (.putfield 19, 3) := by decide +kernel
theorem dX4_ratio_5 : decode cX4_ratio 5 = .ok (.aload_n 0, 1) := by decide +kernel
theorem dX4_ratio_6 : decode cX4_ratio 6 = .ok (.getfield 36, 3) := by decide +kernel
theorem dX4_ratio_9 : decode cX4_ratio 9 = .ok (.ifCond .ne 6, 3) := by decide +kernel
theorem dX4_ratio_12 : decode cX4_ratio 12 = .ok (.bipush (-11), 2) := by decide +kernel
theorem dX4_ratio_14 : decode cX4_ratio 14 = .ok (.ireturn, 1) := by decide +kernel
theorem dX4_ratio_15 : decode cX4_ratio 15 = .ok (.aload_n 0, 1) := by decide +kernel
theorem dX4_ratio_16 : decode cX4_ratio 16 = .ok (.iload_n 1, 1) := by decide +kernel
theorem dX4_ratio_17 : decode cX4_ratio 17 = .ok (.ifCond .eq 8, 3) := by decide +kernel
theorem dX4_ratio_20 : decode cX4_ratio 20 = .ok (.bipush 15, 2) := by decide +kernel
theorem dX4_ratio_22 : decode cX4_ratio 22 = .ok (.goto 5, 3) := by decide +kernel
theorem dX4_ratio_25 : decode cX4_ratio 25 = .ok (.bipush 16, 2) := by decide +kernel
theorem dX4_ratio_27 : decode cX4_ratio 27 = .ok (.invokevirtual 129, 3) := by decide +kernel
theorem dX4_ratio_30 : decode cX4_ratio 30 = .ok (.istore_n 2, 1) := by decide +kernel
theorem dX4_ratio_31 : decode cX4_ratio 31 = .ok (.iload_n 2, 1) := by decide +kernel
theorem dX4_ratio_32 : decode cX4_ratio 32 = .ok (.ifCond .ne 10, 3) := by decide +kernel
theorem dX4_ratio_35 : decode cX4_ratio 35 = .ok (.aload_n 0, 1) := by decide +kernel
theorem dX4_ratio_36 : decode cX4_ratio 36 = .ok (.invokevirtual 91, 3) := by decide +kernel
theorem dX4_ratio_39 : decode cX4_ratio 39 = .ok (.goto 9, 3) := by decide +kernel
theorem dX4_ratio_42 : decode cX4_ratio 42 = .ok (.aload_n 0, 1) := by decide +kernel
theorem dX4_ratio_43 : decode cX4_ratio 43 = .ok (.getfield 54, 3) := by decide +kernel
theorem dX4_ratio_46 : decode cX4_ratio 46 = .ok (.iload_n 2, 1) := by decide +kernel
theorem dX4_ratio_47 : decode cX4_ratio 47 = .ok (.idiv, 1) := by decide +kernel
theorem dX4_ratio_48 : decode cX4_ratio 48 = .ok (.ireturn, 1) := by decide +kernel
end
section
theorem dJx00060_init_a7421_0 : decode cJx00060_init_a7421 0 = .ok (.aload_n 0, 1) := by decide +kernel
theorem dJx00060_init_a7421_1 : decode cJx00060_init_a7421 1 = .ok (.aload_n 1, 1) := by decide +kernel
theorem dJx00060_init_a7421_2 : decode cJx00060_init_a7421 2 = .ok (.invokespecial 7, 3) := by decide +kernel
theorem dJx00060_init_a7421_5 : decode cJx00060_init_a7421 5 = .ok (.return_, 1) := by decide +kernel
end
section
theorem dJ9_abs_0f7a4_0 : decode cJ9_abs_0f7a4 0 = .ok (.iload_n 0, 1) := by decide +kernel
theorem dJ9_abs_0f7a4_1 : decode cJ9_abs_0f7a4 1 = .ok (.ifCond .ge 8, 3) := by decide +kernel
theorem dJ9_abs_0f7a4_4 : decode cJ9_abs_0f7a4 4 = .ok (.iload_n 0, 1) := by decide +kernel
theorem dJ9_abs_0f7a4_5 : decode cJ9_abs_0f7a4 5 = .ok (.ineg, 1) := by decide +kernel
theorem dJ9_abs_0f7a4_6 : decode cJ9_abs_0f7a4 6 = .ok (.goto 4, 3) := by decide +kernel
theorem dJ9_abs_0f7a4_9 : decode cJ9_abs_0f7a4 9 = .ok (.iload_n 0, 1) := by decide +kernel
theorem dJ9_abs_0f7a4_10 : decode cJ9_abs_0f7a4 10 = .ok (.ireturn, 1) := by decide +kernel
end
section
/-! Whole numbers as the machine's ints: zi_n z is the int of the whole number z. -/
def zi_n (z : Int) : Int32 := Int32.ofInt z
abbrev zi_R (a : Int) : Prop := -2147483648 ≤ a ∧ a ≤ 2147483647
theorem zi_add (a b : Int) : zi_n a + zi_n b = zi_n (a + b) := (Int32.ofInt_add a b).symm
theorem zi_sub (a b : Int) : zi_n a - zi_n b = zi_n (a - b) := (Int32.ofInt_sub a b).symm
theorem zi_mul (a b : Int) : zi_n a * zi_n b = zi_n (a * b) := (Int32.ofInt_mul a b).symm
theorem zi_neg (a : Int) : -zi_n a = zi_n (-a) := (Int32.ofInt_neg a).symm
theorem zi_toInt {a : Int} (h : zi_R a) : (zi_n a).toInt = a := Int32.toInt_ofInt_of_le (by have : (2 : Int) ^ 31 = 2147483648 := by decide
                                                                                            have := h.1; omega) (by have : (2 : Int) ^ 31 = 2147483648 := by decide
                                                                                                                    have := h.2; omega)
theorem zi_self (x : Int32) : zi_n x.toInt = x := Int32.ofInt_toInt x
theorem zi_rng (x : Int32) : zi_R x.toInt := ⟨Int32.le_toInt x, by have h := Int32.toInt_lt x; have : (2 : Int) ^ 31 = 2147483648 := by decide
                                                                   omega⟩
theorem zi_lt {a b : Int} (ha : zi_R a) (hb : zi_R b) : zi_n a < zi_n b ↔ a < b := by rw [Int32.lt_iff_toInt_lt, zi_toInt ha, zi_toInt hb]
theorem zi_le {a b : Int} (ha : zi_R a) (hb : zi_R b) : zi_n a ≤ zi_n b ↔ a ≤ b := by rw [Int32.le_iff_toInt_le, zi_toInt ha, zi_toInt hb]
theorem zi_eq {a b : Int} (ha : zi_R a) (hb : zi_R b) : zi_n a = zi_n b ↔ a = b := by rw [← Int32.toInt_inj, zi_toInt ha, zi_toInt hb]
theorem zi_0 : (0 : Int32) = zi_n 0 := rfl
theorem zi_z : zi_R 0 := by decide
theorem zi_cl {a : Int} (h0 : 0 ≤ a) (h1 : a ≤ 2147483647) : (zi_n a).toNatClampNeg = a.toNat := by
  show (zi_n a).toInt.toNat = a.toNat
  rw [zi_toInt ⟨by omega, h1⟩]
theorem zi_in {a : Int} {n : Nat} (h : 0 ≤ a ∧ a < n) (hn : n ≤ 2147483647) : vp_in (zi_n a) n := by
  rw [vp_in_iff, zi_toInt ⟨by omega, by omega⟩]
  exact h
theorem zi_nI (n : Nat) : nI n = zi_n (n : Int) := Int32.ofInt_eq_ofNat.symm
/-- a number as a short -/
def zi_sh (a : Int) : Int := (a + 32768) % 65536 - 32768
theorem zi_sh_b (a : Int) : -32768 ≤ zi_sh a ∧ zi_sh a ≤ 32767 := by unfold zi_sh; omega
theorem zi_i2s {a : Int} (h : zi_R a) : (zi_n a).toInt16.toInt32 = zi_n (zi_sh a) := by
  apply Int32.toInt_inj.1
  have hb := zi_sh_b a
  rw [zi_toInt ⟨by omega, by omega⟩, Int16.toInt_toInt32, Int32.toInt_toInt16, zi_toInt h]
  unfold Int.bmod zi_sh
  have e : ((2 ^ 16 : Nat) : Int) = 65536 := by decide
  simp only [e]
  split <;> omega
/-- the unsigned reading -/
theorem zi_bv {a : Int} (h : zi_R a) : ((zi_n a).toBitVec.toNat : Int) = a ∨ ((zi_n a).toBitVec.toNat : Int) = a + 4294967296 := by
  have h1 := zi_toInt h
  have h2 : (zi_n a).toInt = (zi_n a).toBitVec.toInt := rfl
  rw [h2, BitVec.toInt_eq_toNat_cond] at h1
  have e : ((2 ^ 32 : Nat) : Int) = 4294967296 := by decide
  rw [e] at h1
  split at h1 <;> omega
theorem zi_m255 {a : Int} (h : zi_R a) : zi_n a &&& 255 = zi_n (a % 256) := by
  rw [pk_and (zi_n a) 8 (by decide), zi_nI]
  congr 1
  have := zi_bv h
  have e : (2 : Nat) ^ 8 = 256 := by decide
  rw [e]
  omega
theorem zi_m65535 {a : Int} (h : zi_R a) : zi_n a &&& 65535 = zi_n (a % 65536) := by
  rw [pk_and (zi_n a) 16 (by decide), zi_nI]
  congr 1
  have := zi_bv h
  have e : (2 : Nat) ^ 16 = 65536 := by decide
  rw [e]
  omega
theorem zi_m1 {a : Int} (h : zi_R a) : zi_n a &&& 1 = zi_n (a % 2) := by
  rw [pk_and (zi_n a) 1 (by decide), zi_nI]
  congr 1
  have := zi_bv h
  have e : (2 : Nat) ^ 1 = 2 := by decide
  rw [e]
  omega
theorem zi_m31 {a : Int} (h : zi_R a) : zi_n a &&& 31 = zi_n (a % 32) := by
  rw [pk_and (zi_n a) 5 (by decide), zi_nI]
  congr 1
  have := zi_bv h
  have e : (2 : Nat) ^ 5 = 32 := by decide
  rw [e]
  omega
theorem zi_div {a b : Int} (ha : zi_R a) (hb : zi_R b) (h0 : 0 ≤ a) : zi_n a / zi_n b = zi_n (a.tdiv b) := by
  apply Int32.toInt_inj.1
  have h1 : zi_n a ≠ Int32.minValue := fun e => by
    have := congrArg Int32.toInt e
    rw [zi_toInt ha, Int32.toInt_minValue] at this
    have : (2 : Int) ^ 31 = 2147483648 := by decide
    omega
  have hq : (a.tdiv b).natAbs ≤ a.natAbs := Int.natAbs_tdiv_le_natAbs a b
  rw [Int32.toInt_div_of_ne_left _ _ h1, zi_toInt ha, zi_toInt hb, zi_toInt ⟨by omega, by omega⟩]
theorem zi_rem {a b : Int} (ha : zi_R a) (hb : zi_R b) (h0 : 0 ≤ a) (hp : 0 < b) : zi_n a - zi_n a / zi_n b * zi_n b = zi_n (a % b) := by
  rw [zi_div ha hb h0, zi_mul, zi_sub]
  congr 1
  rw [Int.tdiv_eq_ediv_of_nonneg h0]
  have := Int.emod_add_mul_ediv a b
  rw [Int.mul_comm]
  omega
theorem zi_abs {a : Int} (ha : zi_R a) (h : a ≠ -2147483648) : (if (0 : Int32) ≤ zi_n a then zi_n a else 0 - zi_n a) = zi_n (if 0 ≤ a then a else -a) := by
  rw [zi_0]
  by_cases c : 0 ≤ a
  · rw [if_pos ((zi_le zi_z ha).mpr c), if_pos c]
  · rw [if_neg (fun q => c ((zi_le zi_z ha).mp q)), if_neg c, zi_sub]
    congr 1
    omega
/-- contents: bytes -/
def zi_F (F : Nat → Int) : Nat → Int32 := fun j => zi_n (F j)
def zi_By (F : Nat → Int) : Prop := ∀ j, 0 ≤ F j ∧ F j ≤ 255
def zi_up (F : Nat → Int) (k : Nat) (x : Int) : Nat → Int := fun j => if j = k then x else F j
theorem zi_upF (F : Nat → Int) (k : Nat) (x : Int) : upd (zi_F F) k (zi_n x) = zi_F (zi_up F k x) := by
  funext j
  unfold upd zi_F zi_up
  by_cases h : j = k
  · rw [if_pos h, if_pos h]
  · rw [if_neg h, if_neg h]
theorem zi_up_s (F : Nat → Int) (k : Nat) (x : Int) : zi_up F k x k = x := if_pos rfl
theorem zi_up_n (F : Nat → Int) {k j : Nat} (x : Int) (h : j ≠ k) : zi_up F k x j = F j := if_neg h
theorem zi_up_By {F : Nat → Int} (h : zi_By F) (k : Nat) {x : Int} (hx : 0 ≤ x ∧ x ≤ 255) : zi_By (zi_up F k x) := fun j => by
  unfold zi_up
  split
  · exact hx
  · exact h j
end
section
/-! The kit's rows, over whole numbers. -/
section ZR
variable {p : Program} {l : Launch} {e : Env} {R : Room} {s : State} {m : MethodId} {args : Array Value} {below : List Frame} {meth : Method} {c : Code} {H : Heap} {locs : List Loc} {cells slots : Nat} {Q : State → Prop}
variable {cc : ByteArray} {pc : Nat} {ls : Array Slot} {rest : List Value} {D : va_G} {cl : List vw_C} {A : Nat → Prop} {a : Nat} {tys : List (ClassId × FieldType)} {ws : va_W} {H0 : Heap}

theorem zr_iconst (hx : p.tables.exec = Jvm.exec) (hb : c.code = cc) {n : Int} (hd : decode cc pc = .ok (.iconst n, 1)) (k : W p l e R s m args below meth c H locs cells slots Q (F0 m (pc + 1) ls (.int (zi_n n) :: rest))) : W p l e R s m args below meth c H locs cells slots Q (F0 m pc ls (rest)) := lv_iconst hx hb hd rfl k

theorem zr_bipush (hx : p.tables.exec = Jvm.exec) (hb : c.code = cc) {n : Int} (hd : decode cc pc = .ok (.bipush n, 2)) (hv : (Int8.ofInt n).toInt32 = zi_n n) (k : W p l e R s m args below meth c H locs cells slots Q (F0 m (pc + 2) ls (.int (zi_n n) :: rest))) : W p l e R s m args below meth c H locs cells slots Q (F0 m pc ls (rest)) := lv_bipush hx hb hd hv k

theorem zr_sipush (hx : p.tables.exec = Jvm.exec) (hb : c.code = cc) {n : Int} (hd : decode cc pc = .ok (.sipush n, 3)) (hv : (Int16.ofInt n).toInt32 = zi_n n) (k : W p l e R s m args below meth c H locs cells slots Q (F0 m (pc + 3) ls (.int (zi_n n) :: rest))) : W p l e R s m args below meth c H locs cells slots Q (F0 m pc ls (rest)) := lv_sipush hx hb hd hv k

theorem zr_iadd (hx : p.tables.exec = Jvm.exec) (hb : c.code = cc) {x y : Int} (hd : decode cc pc = .ok (.iadd, 1)) (k : W p l e R s m args below meth c H locs cells slots Q (F0 m (pc + 1) ls (.int (zi_n (x + y)) :: rest))) : W p l e R s m args below meth c H locs cells slots Q (F0 m pc ls (.int (zi_n y) :: .int (zi_n x) :: rest)) := lv_iadd hx hb hd (by rw [zi_add]; exact k)

theorem zr_isub (hx : p.tables.exec = Jvm.exec) (hb : c.code = cc) {x y : Int} (hd : decode cc pc = .ok (.isub, 1)) (k : W p l e R s m args below meth c H locs cells slots Q (F0 m (pc + 1) ls (.int (zi_n (x - y)) :: rest))) : W p l e R s m args below meth c H locs cells slots Q (F0 m pc ls (.int (zi_n y) :: .int (zi_n x) :: rest)) := lv_isub hx hb hd (by rw [zi_sub]; exact k)

theorem zr_imul (hx : p.tables.exec = Jvm.exec) (hb : c.code = cc) {x y : Int} (hd : decode cc pc = .ok (.imul, 1)) (k : W p l e R s m args below meth c H locs cells slots Q (F0 m (pc + 1) ls (.int (zi_n (x * y)) :: rest))) : W p l e R s m args below meth c H locs cells slots Q (F0 m pc ls (.int (zi_n y) :: .int (zi_n x) :: rest)) := lv_imul hx hb hd (by rw [zi_mul]; exact k)

theorem zr_ineg (hx : p.tables.exec = Jvm.exec) (hb : c.code = cc) {x : Int} (hd : decode cc pc = .ok (.ineg, 1)) (k : W p l e R s m args below meth c H locs cells slots Q (F0 m (pc + 1) ls (.int (zi_n (-x)) :: rest))) : W p l e R s m args below meth c H locs cells slots Q (F0 m pc ls (.int (zi_n x) :: rest)) := lv_ineg hx hb hd (by rw [zi_neg]; exact k)

theorem zr_idiv (hx : p.tables.exec = Jvm.exec) (hb : c.code = cc) {x y : Int} (hd : decode cc pc = .ok (.idiv, 1)) (h1 : zi_R x) (h2 : zi_R y) (h0 : 0 ≤ x) (hy : y ≠ 0) (k : W p l e R s m args below meth c H locs cells slots Q (F0 m (pc + 1) ls (.int (zi_n (x.tdiv y)) :: rest))) : W p l e R s m args below meth c H locs cells slots Q (F0 m pc ls (.int (zi_n y) :: .int (zi_n x) :: rest)) := lv_idiv hx hb hd (fun q => hy ((zi_eq h2 zi_z).mp q)) (by rw [zi_div h1 h2 h0]; exact k)

theorem zr_irem (hx : p.tables.exec = Jvm.exec) (hb : c.code = cc) {x y : Int} (hd : decode cc pc = .ok (.irem, 1)) (h1 : zi_R x) (h2 : zi_R y) (h0 : 0 ≤ x) (hy : 0 < y) (k : W p l e R s m args below meth c H locs cells slots Q (F0 m (pc + 1) ls (.int (zi_n (x % y)) :: rest))) : W p l e R s m args below meth c H locs cells slots Q (F0 m pc ls (.int (zi_n y) :: .int (zi_n x) :: rest)) := lv_irem hx hb hd (fun q => absurd ((zi_eq h2 zi_z).mp q) (by omega)) (by rw [zi_rem h1 h2 h0 hy]; exact k)

theorem zr_iand255 (hx : p.tables.exec = Jvm.exec) (hb : c.code = cc) {x : Int} (hd : decode cc pc = .ok (.iand, 1)) (h1 : zi_R x) (k : W p l e R s m args below meth c H locs cells slots Q (F0 m (pc + 1) ls (.int (zi_n (x % 256)) :: rest))) : W p l e R s m args below meth c H locs cells slots Q (F0 m pc ls (.int (zi_n 255) :: .int (zi_n x) :: rest)) := lv_iand hx hb hd (by rw [show zi_n 255 = (255 : Int32) from rfl, zi_m255 h1]; exact k)

theorem zr_iand65535 (hx : p.tables.exec = Jvm.exec) (hb : c.code = cc) {x : Int} (hd : decode cc pc = .ok (.iand, 1)) (h1 : zi_R x) (k : W p l e R s m args below meth c H locs cells slots Q (F0 m (pc + 1) ls (.int (zi_n (x % 65536)) :: rest))) : W p l e R s m args below meth c H locs cells slots Q (F0 m pc ls (.int (zi_n 65535) :: .int (zi_n x) :: rest)) := lv_iand hx hb hd (by rw [show zi_n 65535 = (65535 : Int32) from rfl, zi_m65535 h1]; exact k)

theorem zr_iand1 (hx : p.tables.exec = Jvm.exec) (hb : c.code = cc) {x : Int} (hd : decode cc pc = .ok (.iand, 1)) (h1 : zi_R x) (k : W p l e R s m args below meth c H locs cells slots Q (F0 m (pc + 1) ls (.int (zi_n (x % 2)) :: rest))) : W p l e R s m args below meth c H locs cells slots Q (F0 m pc ls (.int (zi_n 1) :: .int (zi_n x) :: rest)) := lv_iand hx hb hd (by rw [show zi_n 1 = (1 : Int32) from rfl, zi_m1 h1]; exact k)

theorem zr_iand31 (hx : p.tables.exec = Jvm.exec) (hb : c.code = cc) {x : Int} (hd : decode cc pc = .ok (.iand, 1)) (h1 : zi_R x) (k : W p l e R s m args below meth c H locs cells slots Q (F0 m (pc + 1) ls (.int (zi_n (x % 32)) :: rest))) : W p l e R s m args below meth c H locs cells slots Q (F0 m pc ls (.int (zi_n 31) :: .int (zi_n x) :: rest)) := lv_iand hx hb hd (by rw [show zi_n 31 = (31 : Int32) from rfl, zi_m31 h1]; exact k)

theorem zr_i2s (hx : p.tables.exec = Jvm.exec) (hb : c.code = cc) {x : Int} (hd : decode cc pc = .ok (.i2s, 1)) (h1 : zi_R x) (k : W p l e R s m args below meth c H locs cells slots Q (F0 m (pc + 1) ls (.int (zi_n (zi_sh x)) :: rest))) : W p l e R s m args below meth c H locs cells slots Q (F0 m pc ls (.int (zi_n x) :: rest)) := lv_i2s hx hb hd (zi_i2s h1) k

theorem zr_icmp_lt (hx : p.tables.exec = Jvm.exec) (hb : c.code = cc) {x y : Int} {off : Int} {tgt : Nat} (hd : decode cc pc = .ok (.if_icmp .lt off, 3)) (ht : (pc : Int) + off = (tgt : Int)) (h1 : zi_R x) (h2 : zi_R y) (kt : x < y → W p l e R s m args below meth c H locs cells slots Q (F0 m tgt ls (rest))) (kf : y ≤ x → W p l e R s m args below meth c H locs cells slots Q (F0 m (pc + 3) ls (rest))) : W p l e R s m args below meth c H locs cells slots Q (F0 m pc ls (.int (zi_n y) :: .int (zi_n x) :: rest)) := lv_icmp_lt hx hb hd ht (fun q => kt ((zi_lt h1 h2).mp q)) (fun q => kf (Int.not_lt.mp (fun z => q ((zi_lt h1 h2).mpr z))))

theorem zr_icmp_ge (hx : p.tables.exec = Jvm.exec) (hb : c.code = cc) {x y : Int} {off : Int} {tgt : Nat} (hd : decode cc pc = .ok (.if_icmp .ge off, 3)) (ht : (pc : Int) + off = (tgt : Int)) (h1 : zi_R x) (h2 : zi_R y) (kt : y ≤ x → W p l e R s m args below meth c H locs cells slots Q (F0 m tgt ls (rest))) (kf : x < y → W p l e R s m args below meth c H locs cells slots Q (F0 m (pc + 3) ls (rest))) : W p l e R s m args below meth c H locs cells slots Q (F0 m pc ls (.int (zi_n y) :: .int (zi_n x) :: rest)) := lv_icmp_ge hx hb hd ht (fun q => kt ((zi_le h2 h1).mp q)) (fun q => kf (Int.not_le.mp (fun z => q ((zi_le h2 h1).mpr z))))

theorem zr_icmp_gt (hx : p.tables.exec = Jvm.exec) (hb : c.code = cc) {x y : Int} {off : Int} {tgt : Nat} (hd : decode cc pc = .ok (.if_icmp .gt off, 3)) (ht : (pc : Int) + off = (tgt : Int)) (h1 : zi_R x) (h2 : zi_R y) (kt : y < x → W p l e R s m args below meth c H locs cells slots Q (F0 m tgt ls (rest))) (kf : x ≤ y → W p l e R s m args below meth c H locs cells slots Q (F0 m (pc + 3) ls (rest))) : W p l e R s m args below meth c H locs cells slots Q (F0 m pc ls (.int (zi_n y) :: .int (zi_n x) :: rest)) := lv_icmp_gt hx hb hd ht (fun q => kt ((zi_lt h2 h1).mp q)) (fun q => kf (Int.not_lt.mp (fun z => q ((zi_lt h2 h1).mpr z))))

theorem zr_icmp_le (hx : p.tables.exec = Jvm.exec) (hb : c.code = cc) {x y : Int} {off : Int} {tgt : Nat} (hd : decode cc pc = .ok (.if_icmp .le off, 3)) (ht : (pc : Int) + off = (tgt : Int)) (h1 : zi_R x) (h2 : zi_R y) (kt : x ≤ y → W p l e R s m args below meth c H locs cells slots Q (F0 m tgt ls (rest))) (kf : y < x → W p l e R s m args below meth c H locs cells slots Q (F0 m (pc + 3) ls (rest))) : W p l e R s m args below meth c H locs cells slots Q (F0 m pc ls (.int (zi_n y) :: .int (zi_n x) :: rest)) := lv_icmp_le hx hb hd ht (fun q => kt ((zi_le h1 h2).mp q)) (fun q => kf (Int.not_le.mp (fun z => q ((zi_le h1 h2).mpr z))))

theorem zr_icmp_eq (hx : p.tables.exec = Jvm.exec) (hb : c.code = cc) {x y : Int} {off : Int} {tgt : Nat} (hd : decode cc pc = .ok (.if_icmp .eq off, 3)) (ht : (pc : Int) + off = (tgt : Int)) (h1 : zi_R x) (h2 : zi_R y) (kt : x = y → W p l e R s m args below meth c H locs cells slots Q (F0 m tgt ls (rest))) (kf : x ≠ y → W p l e R s m args below meth c H locs cells slots Q (F0 m (pc + 3) ls (rest))) : W p l e R s m args below meth c H locs cells slots Q (F0 m pc ls (.int (zi_n y) :: .int (zi_n x) :: rest)) := lv_icmp_eq hx hb hd ht (fun q => kt ((zi_eq h1 h2).mp q)) (fun q => kf (fun z => q ((zi_eq h1 h2).mpr z)))

theorem zr_icmp_ne (hx : p.tables.exec = Jvm.exec) (hb : c.code = cc) {x y : Int} {off : Int} {tgt : Nat} (hd : decode cc pc = .ok (.if_icmp .ne off, 3)) (ht : (pc : Int) + off = (tgt : Int)) (h1 : zi_R x) (h2 : zi_R y) (kt : x ≠ y → W p l e R s m args below meth c H locs cells slots Q (F0 m tgt ls (rest))) (kf : x = y → W p l e R s m args below meth c H locs cells slots Q (F0 m (pc + 3) ls (rest))) : W p l e R s m args below meth c H locs cells slots Q (F0 m pc ls (.int (zi_n y) :: .int (zi_n x) :: rest)) := lv_icmp_ne hx hb hd ht (fun q => kt (fun z => q ((zi_eq h1 h2).mpr z))) (fun q => kf ((zi_eq h1 h2).mp q))

theorem zr_if_lt (hx : p.tables.exec = Jvm.exec) (hb : c.code = cc) {x : Int} {off : Int} {tgt : Nat} (hd : decode cc pc = .ok (.ifCond .lt off, 3)) (ht : (pc : Int) + off = (tgt : Int)) (h1 : zi_R x) (kt : x < 0 → W p l e R s m args below meth c H locs cells slots Q (F0 m tgt ls (rest))) (kf : 0 ≤ x → W p l e R s m args below meth c H locs cells slots Q (F0 m (pc + 3) ls (rest))) : W p l e R s m args below meth c H locs cells slots Q (F0 m pc ls (.int (zi_n x) :: rest)) := lv_if_lt hx hb hd ht (fun q => kt ((zi_lt h1 zi_z).mp q)) (fun q => kf (Int.not_lt.mp (fun z => q ((zi_lt h1 zi_z).mpr z))))

theorem zr_if_ge (hx : p.tables.exec = Jvm.exec) (hb : c.code = cc) {x : Int} {off : Int} {tgt : Nat} (hd : decode cc pc = .ok (.ifCond .ge off, 3)) (ht : (pc : Int) + off = (tgt : Int)) (h1 : zi_R x) (kt : 0 ≤ x → W p l e R s m args below meth c H locs cells slots Q (F0 m tgt ls (rest))) (kf : x < 0 → W p l e R s m args below meth c H locs cells slots Q (F0 m (pc + 3) ls (rest))) : W p l e R s m args below meth c H locs cells slots Q (F0 m pc ls (.int (zi_n x) :: rest)) := lv_if_ge hx hb hd ht (fun q => kt ((zi_le zi_z h1).mp q)) (fun q => kf (Int.not_le.mp (fun z => q ((zi_le zi_z h1).mpr z))))

theorem zr_if_gt (hx : p.tables.exec = Jvm.exec) (hb : c.code = cc) {x : Int} {off : Int} {tgt : Nat} (hd : decode cc pc = .ok (.ifCond .gt off, 3)) (ht : (pc : Int) + off = (tgt : Int)) (h1 : zi_R x) (kt : 0 < x → W p l e R s m args below meth c H locs cells slots Q (F0 m tgt ls (rest))) (kf : x ≤ 0 → W p l e R s m args below meth c H locs cells slots Q (F0 m (pc + 3) ls (rest))) : W p l e R s m args below meth c H locs cells slots Q (F0 m pc ls (.int (zi_n x) :: rest)) := lv_if_gt hx hb hd ht (fun q => kt ((zi_lt zi_z h1).mp q)) (fun q => kf (Int.not_lt.mp (fun z => q ((zi_lt zi_z h1).mpr z))))

theorem zr_if_le (hx : p.tables.exec = Jvm.exec) (hb : c.code = cc) {x : Int} {off : Int} {tgt : Nat} (hd : decode cc pc = .ok (.ifCond .le off, 3)) (ht : (pc : Int) + off = (tgt : Int)) (h1 : zi_R x) (kt : x ≤ 0 → W p l e R s m args below meth c H locs cells slots Q (F0 m tgt ls (rest))) (kf : 0 < x → W p l e R s m args below meth c H locs cells slots Q (F0 m (pc + 3) ls (rest))) : W p l e R s m args below meth c H locs cells slots Q (F0 m pc ls (.int (zi_n x) :: rest)) := lv_if_le hx hb hd ht (fun q => kt ((zi_le h1 zi_z).mp q)) (fun q => kf (Int.not_le.mp (fun z => q ((zi_le h1 zi_z).mpr z))))

theorem zr_if_eq (hx : p.tables.exec = Jvm.exec) (hb : c.code = cc) {x : Int} {off : Int} {tgt : Nat} (hd : decode cc pc = .ok (.ifCond .eq off, 3)) (ht : (pc : Int) + off = (tgt : Int)) (h1 : zi_R x) (kt : x = 0 → W p l e R s m args below meth c H locs cells slots Q (F0 m tgt ls (rest))) (kf : x ≠ 0 → W p l e R s m args below meth c H locs cells slots Q (F0 m (pc + 3) ls (rest))) : W p l e R s m args below meth c H locs cells slots Q (F0 m pc ls (.int (zi_n x) :: rest)) := lv_if_eq hx hb hd ht (fun q => kt ((zi_eq h1 zi_z).mp q)) (fun q => kf (fun z => q ((zi_eq h1 zi_z).mpr z)))

theorem zr_if_ne (hx : p.tables.exec = Jvm.exec) (hb : c.code = cc) {x : Int} {off : Int} {tgt : Nat} (hd : decode cc pc = .ok (.ifCond .ne off, 3)) (ht : (pc : Int) + off = (tgt : Int)) (h1 : zi_R x) (kt : x ≠ 0 → W p l e R s m args below meth c H locs cells slots Q (F0 m tgt ls (rest))) (kf : x = 0 → W p l e R s m args below meth c H locs cells slots Q (F0 m (pc + 3) ls (rest))) : W p l e R s m args below meth c H locs cells slots Q (F0 m pc ls (.int (zi_n x) :: rest)) := lv_if_ne hx hb hd ht (fun q => kt (fun z => q ((zi_eq h1 zi_z).mpr z))) (fun q => kf ((zi_eq h1 zi_z).mp q))

theorem zr_iinc (hx : p.tables.exec = Jvm.exec) (hb : c.code = cc) {i nL k : Nat} {n : Int} {x : Int} {lv lv' : List (Nat × Value)} (hd : decode cc pc = .ok (.iinc i n, 3)) (h : lv_has ls nL lv) (hk : lv[k]? = some (i, .int (zi_n x))) (hn : i < nL) (hl : (i, Value.int (zi_n (x + n))) :: lv.filter (fun q => !(q.1 == i) && !(q.1 + 1 == i && q.2.category == 2)) = lv') (kk : ∀ ls' : Array Slot, lv_has ls' nL lv' → W p l e R s m args below meth c H locs cells slots Q (F0 m (pc + 3) ls' rest)) : W p l e R s m args below meth c H locs cells slots Q (F0 m pc ls rest) := lv_iinc hx hb hd h hk (zi_add x n) hn hl kk

theorem zr_iald (hx : p.tables.exec = Jvm.exec) (hb : c.code = cc) (hK : va_K D cl tys s) (hP : va_P D cl ws H) (q0 t0 : Nat) {cA : ClassId} {n : Nat} {f : Nat → Int} (ha : ws[q0]? = some (a, .inl (cA, n, .inl (zi_F f)))) (ht : tys[t0]? = some (cA, .int)) {i : Int} (hn : n ≤ 2147483647) (h0 : 0 ≤ i ∧ i < n) (hd : decode cc pc = .ok (.iaload, 1)) (kk : W p l e R s m args below meth c H locs cells slots Q (F0 m (pc + 1) ls (.int (zi_n (f i.toNat)) :: rest))) : W p l e R s m args below meth c H locs cells slots Q (F0 m pc ls (.int (zi_n i) :: .ref a :: rest)) :=
  va_iald hx hb hK hP q0 t0 ha ht (zi_in h0 hn) hd (by rw [zi_cl h0.1 (by omega)]; exact kk)

theorem zr_iast (hx : p.tables.exec = Jvm.exec) (hb : c.code = cc) (hK : va_K D cl tys s) (hP : va_P D cl ws H) (hD : va_D A ws) (hS : va_S A H0 H locs) (q0 t0 : Nat) {cA : ClassId} {n : Nat} {f : Nat → Int} (ha : ws[q0]? = some (a, .inl (cA, n, .inl (zi_F f)))) (ht : tys[t0]? = some (cA, .int)) {i x : Int} (hn : n ≤ 2147483647) (h0 : 0 ≤ i ∧ i < n) (hd : decode cc pc = .ok (.iastore, 1)) (kk : ∀ (H1 : Heap) (locs1 : List Loc), va_P D cl (ws.set q0 (a, .inl (cA, n, .inl (zi_F (zi_up f i.toNat x))))) H1 → va_D A (ws.set q0 (a, .inl (cA, n, .inl (zi_F (zi_up f i.toNat x))))) → va_S A H0 H1 locs1 → W p l e R s m args below meth c H1 locs1 cells slots Q (F0 m (pc + 1) ls rest)) : W p l e R s m args below meth c H locs cells slots Q (F0 m pc ls (.int (zi_n x) :: .int (zi_n i) :: .ref a :: rest)) :=
  va_iast hx hb hK hP hD hS q0 t0 ha ht (zi_in h0 hn) hd (fun H1 l1 u1 u2 u3 => kk H1 l1 (by rw [← zi_upF, ← zi_cl h0.1 (by omega)]; exact u1) (by rw [← zi_upF, ← zi_cl h0.1 (by omega)]; exact u2) u3)

theorem zr_ldc (hx : p.tables.exec = Jvm.exec) (hb : c.code = cc) {own : String} {index : Nat} {v : Int32} {n : Int} (hown : s.vm.findClass own = some m.cls) (hc : (Jvm.Cond.constant own index v).before args s = true) (hv : v = zi_n n) (hd : decode cc pc = .ok (.ldc index, 2)) (k : W p l e R s m args below meth c H locs cells slots Q (F0 m (pc + 2) ls (.int (zi_n n) :: rest))) : W p l e R s m args below meth c H locs cells slots Q (F0 m pc ls rest) := lv_ldc hx hb hown hc hd (by rw [hv]; exact k)

theorem zr_alen (hx : p.tables.exec = Jvm.exec) (hb : c.code = cc) (hK : va_K D cl tys s) (hP : va_P D cl ws H) (q0 t0 : Nat) {cA : ClassId} {x : vp_A} (ha : ws[q0]? = some (a, .inl (cA, x))) {ty : FieldType} (ht : tys[t0]? = some (cA, ty)) (v : Int) (hv : Int32.ofNat x.1 = zi_n v) (hd : decode cc pc = .ok (.arraylength, 1)) (k : W p l e R s m args below meth c H locs cells slots Q (F0 m (pc + 1) ls (.int (zi_n v) :: rest))) : W p l e R s m args below meth c H locs cells slots Q (F0 m pc ls (.ref a :: rest)) := va_alen hx hb hK hP q0 t0 ha ht hv hd k

theorem zr_tabIn (hx : p.tables.exec = Jvm.exec) (hb : c.code = cc) {dflt lo hi : Int} {offs : Array Int} {len : Nat} {x : Int} {off : Int} {tgt : Nat} (hd : decode cc pc = .ok (.tableswitch dflt lo hi offs, len)) (h : zi_R x) (h1 : lo ≤ x) (h2 : x ≤ hi) (ho : offs[(x - lo).toNat]? = some off) (ht : (pc : Int) + off = (tgt : Int)) (k : W p l e R s m args below meth c H locs cells slots Q (F0 m tgt ls (rest))) : W p l e R s m args below meth c H locs cells slots Q (F0 m pc ls (.int (zi_n x) :: rest)) :=
  lv_tableIn hx hb hd (by rw [zi_toInt h]; omega) (by rw [zi_toInt h]; omega) (by rw [zi_toInt h]; exact ho) ht k
theorem zr_tabOut (hx : p.tables.exec = Jvm.exec) (hb : c.code = cc) {dflt lo hi : Int} {offs : Array Int} {len : Nat} {x : Int} {tgt : Nat} (hd : decode cc pc = .ok (.tableswitch dflt lo hi offs, len)) (h : zi_R x) (h1 : x < lo ∨ hi < x) (ht : (pc : Int) + dflt = (tgt : Int)) (k : W p l e R s m args below meth c H locs cells slots Q (F0 m tgt ls (rest))) : W p l e R s m args below meth c H locs cells slots Q (F0 m pc ls (.int (zi_n x) :: rest)) :=
  lv_tableOut hx hb hd (by rw [zi_toInt h]; exact h1) ht k

theorem zr_mabs (hx : p.tables.exec = Jvm.exec) (hb : c.code = cc) (hml : c.maxLocals = ls.size) {own : String} {index : Nat} (hown : s.vm.findClass own = some m.cls) (hlink : (Cond.methodLink own index Lib.Math.abs.name).before args s = true) (hstat : (Cond.static Lib.Math.abs.name).before args s = true) (hini : (Cond.initialized "java/lang/Math").before args s = true) (hcode : (Cond.code Lib.Math.abs.name Lib.Math.abs.code 1 (some .int)).before args s = true) (hframes : 1 ≤ R.frames) (hlocals : (rest.map fun v => v.category).sum + 13 ≤ R.locals) (hc : cells ≤ R.cells) (hs : slots ≤ R.slots) {x : Int} (h1 : zi_R x) (h2 : x ≠ -2147483648) (hd : decode cc pc = .ok (.invokestatic index, 3)) (kk : W p l e R s m args below meth c H locs cells slots Q (F0 m (pc + 3) ls (.int (zi_n (if 0 ≤ x then x else -x)) :: rest))) : W p l e R s m args below meth c H locs cells slots Q (F0 m pc ls (.int (zi_n x) :: rest)) :=
  va_mabs hx hb hml hown hlink hstat hini hcode hframes hlocals hc hs hd (by rw [zi_abs h1 h2]; exact kk)

end ZR
end
section
/-! Calls: a read leaves the heap as it is; a write gives back its cells beside the rest. -/
abbrev zp_Q (D : va_G) (cl : List vw_C) (wc : va_W) (tc : List (ClassId × FieldType)) : State → Prop := fun U => va_P D cl wc U.heap ∧ va_K D cl tc U
abbrev zp_P (D : va_G) (cl : List vw_C) (sz : Nat) (wc : va_W) (tc : List (ClassId × FieldType)) : State → Prop := fun U => U.heap.size = sz ∧ va_P D cl wc U.heap ∧ va_K D cl tc U ∧ va_D (fun _ => True) wc
abbrev zp_B (D : va_G) (cl : List vw_C) (tc : List (ClassId × FieldType)) (A : Nat → Prop) (w1 : va_W) : State → Prop := fun t => va_P D cl w1 t.heap ∧ va_K D cl tc t ∧ va_D A w1
theorem zl_r {v E lo hi : Int} (h : E = v) (hb : lo ≤ v ∧ v ≤ hi) : zi_n v = zi_n E ∧ lo ≤ E ∧ E ≤ hi := by subst h; exact ⟨rfl, hb⟩
theorem zl_t {P : Prop} (h : P) : (zi_n 1 = zi_n 1 ∧ P) ∨ (zi_n 1 = zi_n 0 ∧ ¬ P) := Or.inl ⟨rfl, h⟩
theorem zl_f {P : Prop} (h : ¬ P) : (zi_n 0 = zi_n 1 ∧ P) ∨ (zi_n 0 = zi_n 0 ∧ ¬ P) := Or.inr ⟨rfl, h⟩
theorem zl_b1 : narrow .boolean (.int (zi_n 1)) = .int (zi_n 1) := by decide
theorem zl_b0 : narrow .boolean (.int (zi_n 0)) = .int (zi_n 0) := by decide
section ZC
variable {p : Program} {l : Launch} {e : Env} {R : Room} {s : State} {m : MethodId} {args : Array Value} {below : List Frame} {meth : Method} {c : Code} {H : Heap} {locs : List Loc} {cells slots : Nat} {Q : State → Prop}
variable {cc : ByteArray} {pc : Nat} {ls : Array Slot} {rest st0 As : List Value} {D : va_G} {cl : List vw_C} {A : Nat → Prop} {tys tc : List (ClassId × FieldType)} {ws wc wr : va_W} {H0 : Heap}
variable {Ts wsy : List Cond} {bytes : ByteArray} {nL maxL index n mc ms b ci : Nat} {own C : String} {y : MethodName} {ret : Option FieldType} {rm : Room} {q : vw_C} {fs : List Value}
theorem zr_ialdk {a : Nat} (hx : p.tables.exec = Jvm.exec) (hb : c.code = cc) (hK : va_K D cl tys s) (hP : va_P D cl ws H) (q0 t0 : Nat) {cA : ClassId} {N k : Nat} {f : Nat → Int} (ha : ws[q0]? = some (a, .inl (cA, N, .inl (zi_F f)))) (ht : tys[t0]? = some (cA, .int)) {i : Int} (hn : N ≤ 2147483647) (h0 : 0 ≤ i ∧ i < N) (hk : i.toNat = k) (hd : decode cc pc = .ok (.iaload, 1)) (kk : W p l e R s m args below meth c H locs cells slots Q (F0 m (pc + 1) ls (.int (zi_n (f k)) :: rest))) : W p l e R s m args below meth c H locs cells slots Q (F0 m pc ls (.int (zi_n i) :: .ref a :: rest)) :=
  zr_iald hx hb hK hP q0 t0 ha ht hn h0 hd (by rw [hk]; exact kk)
/-- a read of an object -/
theorem zc_V {post : Int32 → Prop} (S : CallFix p m c cc nL s args Ts own) (hM : Met l y wsy rm (va_Pc (.ref b :: As) (zp_Q D cl wc tc)) (vp_Si post) 0 0 (fun _ => False)) (cw : CallW R s args own C index y bytes maxL ret wsy rm 0 0 n)
    (hP : va_P D cl ws H) (hK : va_K D cl tys s) (is ts : List Nat) (h1 : is.filterMap (fun i => ws[i]?) = wc) (h2 : ts.filterMap (fun i => tys[i]?) = tc) (hc : cl[ci]? = some q) (hC : q.1 = C) (he : wc[0]? = some (b, .inr (ci, fs)))
    (hn : As.length = n) (hsz : ls.size = nL) (hst : st0 = As.reverse ++ .ref b :: rest) (hW : (rest.map fun v => v.category).sum ≤ 8) (hd : decode cc pc = .ok (.invokevirtual index, 3)) (hf : cells ≤ R.cells ∧ slots ≤ R.slots)
    (kk : ∀ r : Int32, post r → W p l e R s m args below meth c H locs cells slots Q (F0 m (pc + 3) ls (.int r :: rest))) : W p l e R s m args below meth c H locs cells slots Q (F0 m pc ls st0) := by
  subst hC
  exact vp_callSi (va_Run.run (va_runV S hM cw ⟨fun a U g mk q => ⟨q.1, q.2.1, va_K.moved (u := U) (U := U.calling g mk a) (Vm.Alike.refl U.vm) q.2.2⟩, va_recv hK (hP.sub is h1) hc he, fun U hU hW => ⟨rfl, by rw [hU]; exact hP.sub is h1, va_K.moved hW.alike (hK.sub ts h2)⟩⟩ rfl hn hsz hst (lv_room hW) hd hf)) kk
/-- a static method without objects -/
theorem zc_S {post : Int32 → Prop} (S : CallFix p m c cc nL s args Ts own) (hM : Met l y wsy rm (va_Pc As (fun _ => True)) (vp_Si post) 0 0 (fun _ => False)) (cw : CallB R s args own index y bytes maxL ret wsy rm 0 0 n ∧ (Cond.static y).before args s = true)
    (hn : As.length = n) (hsz : ls.size = nL) (hst : st0 = As.reverse ++ rest) (hW : (rest.map fun v => v.category).sum ≤ 8) (hd : decode cc pc = .ok (.invokestatic index, 3)) (hf : cells ≤ R.cells ∧ slots ≤ R.slots)
    (kk : ∀ r : Int32, post r → W p l e R s m args below meth c H locs cells slots Q (F0 m (pc + 3) ls (.int r :: rest))) : W p l e R s m args below meth c H locs cells slots Q (F0 m pc ls st0) :=
  vp_callSi (va_Run.run (va_runS S hM cw ⟨fun _ _ _ _ q => q, fun _ _ _ => ⟨rfl, trivial⟩⟩ rfl hn hsz hst (lv_room hW) hd hf)) kk
/-- a write that answers an int -/
theorem zc_Vi {K : Type} {post : Int32 → K → Prop} {w1 wf : K → va_W} (S : CallFix p m c cc nL s args Ts own) (hM : Met l y wsy rm (va_Pc (.ref b :: As) (zp_P D cl H.size wc tc)) (va_Qi post (fun u => zp_B D cl tc (va_A wc H.size) (w1 u)) (va_A wc H.size)) mc ms (va_A wc H.size)) (cw : CallW R s args own C index y bytes maxL ret wsy rm mc ms n)
    (hP : va_P D cl ws H) (hD : va_D A ws) (hK : va_K D cl tys s) (hS : va_S A H0 H locs) (hA : ∀ q, H0.size ≤ q → A q) (is ir ts ip : List Nat) (h1 : is.filterMap (fun i => ws[i]?) = wc) (g1 : is.map (fun i => ws[i]?) = wc.map some) (d1 : va_nd is = true) (g2 : ir.map (fun i => ws[i]?) = wr.map some) (d2 : va_nd ir = true) (d3 : ∀ i ∈ ir, i ∉ is)
    (h2 : ts.filterMap (fun i => tys[i]?) = tc) (h3 : ∀ u, ip.filterMap (fun i => (wr ++ w1 u)[i]?) = wf u) (g3 : ∀ u, ip.map (fun i => (wr ++ w1 u)[i]?) = (wf u).map some) (d4 : va_nd ip = true) (hc : cl[ci]? = some q) (hC : q.1 = C) (he : wc[0]? = some (b, .inr (ci, fs)))
    (hn : As.length = n) (hsz : ls.size = nL) (hst : st0 = As.reverse ++ .ref b :: rest) (hW : (rest.map fun v => v.category).sum ≤ 8) (hd : decode cc pc = .ok (.invokevirtual index, 3)) (hf : cells + mc ≤ R.cells ∧ slots + ms ≤ R.slots)
    (kk : ∀ (r : Int32) (u : K), post r u → ∀ (H1 : Heap) (locs1 : List Loc), va_P D cl (wf u) H1 → va_D A (wf u) → va_S A H0 H1 locs1 → W p l e R s m args below meth c H1 locs1 (cells + mc) (slots + ms) Q (F0 m (pc + 3) ls (.int r :: rest))) : W p l e R s m args below meth c H locs cells slots Q (F0 m pc ls st0) := by
  subst hC
  have hF := va_free (wc := wc) hD hS hA is g1
  refine va_calli (va_runV S hM cw ⟨fun a U g mk q => ⟨q.1, q.2.1, q.2.2.1, va_K.moved (u := U) (U := U.calling g mk a) (Vm.Alike.refl U.vm) q.2.2.2.1, q.2.2.2.2⟩, va_recv hK (hP.sub is h1) hc he, fun U hU hW => ⟨rfl, by rw [hU], by rw [hU]; exact hP.sub is h1, va_K.moved hW.alike (hK.sub ts h2), (hD.sub is d1 g1).weaken (fun _ _ _ _ => trivial)⟩⟩ rfl hn hsz hst (lv_room hW) hd hf) hS (fun q _ h => hF q h) hF (fun r u t H1 locs1 ht hvm hw hB hz1 hk1 hS1 => ?_)
  obtain ⟨hP1, -, hD1⟩ := hB
  rw [ht] at hP1
  obtain ⟨hP2, hD2⟩ := va_join (wr := wr) (w1 := w1 u) hP hD is ir g1 g2 d2 d3 hk1 hF hP1 hD1
  exact kk r u hw H1 locs1 (hP2.sub ip (h3 u)) (hD2.sub ip d4 (g3 u)) hS1
/-- a write that answers nothing -/
theorem zc_Vv {K : Type} {post : K → Prop} {w1 wf : K → va_W} (S : CallFix p m c cc nL s args Ts own) (hM : Met l y wsy rm (va_Pc (.ref b :: As) (zp_P D cl H.size wc tc)) (va_Qv post (fun u => zp_B D cl tc (va_A wc H.size) (w1 u)) (va_A wc H.size)) mc ms (va_A wc H.size)) (cw : CallW R s args own C index y bytes maxL ret wsy rm mc ms n)
    (hP : va_P D cl ws H) (hD : va_D A ws) (hK : va_K D cl tys s) (hS : va_S A H0 H locs) (hA : ∀ q, H0.size ≤ q → A q) (is ir ts ip : List Nat) (h1 : is.filterMap (fun i => ws[i]?) = wc) (g1 : is.map (fun i => ws[i]?) = wc.map some) (d1 : va_nd is = true) (g2 : ir.map (fun i => ws[i]?) = wr.map some) (d2 : va_nd ir = true) (d3 : ∀ i ∈ ir, i ∉ is)
    (h2 : ts.filterMap (fun i => tys[i]?) = tc) (h3 : ∀ u, ip.filterMap (fun i => (wr ++ w1 u)[i]?) = wf u) (g3 : ∀ u, ip.map (fun i => (wr ++ w1 u)[i]?) = (wf u).map some) (d4 : va_nd ip = true) (hc : cl[ci]? = some q) (hC : q.1 = C) (he : wc[0]? = some (b, .inr (ci, fs)))
    (hn : As.length = n) (hsz : ls.size = nL) (hst : st0 = As.reverse ++ .ref b :: rest) (hW : (rest.map fun v => v.category).sum ≤ 8) (hd : decode cc pc = .ok (.invokevirtual index, 3)) (hf : cells + mc ≤ R.cells ∧ slots + ms ≤ R.slots)
    (kk : ∀ (u : K), post u → ∀ (H1 : Heap) (locs1 : List Loc), va_P D cl (wf u) H1 → va_D A (wf u) → va_S A H0 H1 locs1 → W p l e R s m args below meth c H1 locs1 (cells + mc) (slots + ms) Q (F0 m (pc + 3) ls rest)) : W p l e R s m args below meth c H locs cells slots Q (F0 m pc ls st0) := by
  subst hC
  have hF := va_free (wc := wc) hD hS hA is g1
  refine va_callv (va_runV S hM cw ⟨fun a U g mk q => ⟨q.1, q.2.1, q.2.2.1, va_K.moved (u := U) (U := U.calling g mk a) (Vm.Alike.refl U.vm) q.2.2.2.1, q.2.2.2.2⟩, va_recv hK (hP.sub is h1) hc he, fun U hU hW => ⟨rfl, by rw [hU], by rw [hU]; exact hP.sub is h1, va_K.moved hW.alike (hK.sub ts h2), (hD.sub is d1 g1).weaken (fun _ _ _ _ => trivial)⟩⟩ rfl hn hsz hst (lv_room hW) hd hf) hS (fun q _ h => hF q h) hF (fun u t H1 locs1 ht hvm hw hB hz1 hk1 hS1 => ?_)
  obtain ⟨hP1, -, hD1⟩ := hB
  rw [ht] at hP1
  obtain ⟨hP2, hD2⟩ := va_join (wr := wr) (w1 := w1 u) hP hD is ir g1 g2 d2 d3 hk1 hF hP1 hD1
  exact kk u hw H1 locs1 (hP2.sub ip (h3 u)) (hD2.sub ip d4 (g3 u)) hS1
end ZC
end
section
/-! What the head's words mean over bytes F and a size n. -/
def zh_at (F : Nat → Int) (n p : Int) : Int := if 0 ≤ p ∧ p < n then F p.toNat else -1
def zh_two (F : Nat → Int) (n p : Int) : Int := if 0 ≤ p ∧ p < n - 1 then F p.toNat * 256 + F (p + 1).toNat else -1
def zh_t (F : Nat → Int) (k : Nat) : Int := F k * 256 + F (k + 1)
def zh_scale (v : Int) : Int := if v ≤ 3 then 2 else if v ≤ 5 then 4 else 8
def zh_len (F : Nat → Int) (n : Int) : Int := if zh_t F 26 = 0 ∧ F 0 ≤ 3 then n else zh_t F 26 * zh_scale (F 0)
def zh_shorts (F : Nat → Int) : Int := if F 0 = 1 then 0 else zh_t F 24
def zh_start (F : Nat → Int) : Int := if F 0 = 6 then 4 * zh_t F 6 + 8 * zh_t F 40 else zh_t F 6
def zh_letters (F : Nat → Int) : Int := if F 0 < 5 then 0 else zh_t F 52
def zh_ends (F : Nat → Int) : Int := if F 0 < 5 then 0 else zh_t F 46
def zh_more (F : Nat → Int) : Int := if F 0 < 5 then 0 else zh_t F 54
def zh_mw (F : Nat → Int) (n : Int) : Int := if zh_more F = 0 then 0 else zh_two F n (zh_more F)
def zh_third (F : Nat → Int) (n : Int) : Int := if zh_more F = 0 ∨ zh_two F n (zh_more F) < 3 then 0 else zh_two F n (zh_more F + 6)
def zh_unp (F : Nat → Int) (a t : Int) : Int := if F 0 ≤ 3 then 2 * a else if F 0 ≤ 5 then 4 * a else if F 0 = 8 then 8 * a else 4 * a + 8 * (if t = 0 then zh_t F 40 else zh_t F 42)
def zh_sg (F : Nat → Int) (n : Int) : Int := zh_at F n (zh_t F 8)
def zh_eb (F : Nat → Int) (n : Int) : Int := zh_at F n (zh_t F 8 + 1 + zh_sg F n)
def zh_told (F : Nat → Int) (n : Int) : Int := zh_two F n (zh_t F 8 + 2 + zh_sg F n)
def zh_en (F : Nat → Int) (n : Int) : Int := zi_sh (zh_told F n)
def zh_abs (a : Int) : Int := if 0 ≤ a then a else -a
def zh_term (F : Nat → Int) (n w : Int) : Int :=
  if w = 0 then F 0 else if w = 1 then zh_len F n else if w = 2 then zh_t F 14 else if w = 3 then zh_t F 4 else if w = 4 then zh_t F 12 else if w = 5 then zh_t F 10 else if w = 6 then zh_t F 8 else if w = 7 then zh_shorts F else if w = 8 then zh_start F else if w = 9 then zh_letters F else if w = 10 then zh_ends F else if w = 11 then zh_mw F n else if w = 12 then zh_third F n else if w = 13 then zh_t F 2 else if w = 14 then zh_t F 28 else if w = 15 then zh_en F n else if w = 16 then zh_eb F n else zh_sg F n
-- the rules
def zh_ok1 (F : Nat → Int) (n : Int) : Prop := 0 < n
def zh_ok2 (F : Nat → Int) (n : Int) : Prop := 1 ≤ F 0 ∧ F 0 ≤ 8
def zh_ok3 (F : Nat → Int) (n : Int) : Prop := 64 ≤ n
def zh_ok4 (F : Nat → Int) (n : Int) : Prop := 64 ≤ zh_len F n ∧ zh_len F n ≤ n
def zh_ok5 (F : Nat → Int) (n : Int) : Prop := 64 ≤ zh_t F 14 ∧ zh_t F 14 ≤ zh_len F n
def zh_ok6 (F : Nat → Int) (n : Int) : Prop := zh_t F 14 ≤ zh_t F 4 ∧ zh_t F 4 ≤ zh_len F n
def zh_ok7 (F : Nat → Int) (n : Int) : Prop := 64 ≤ zh_t F 12 ∧ zh_t F 12 + 480 ≤ zh_t F 14
def zh_ok8 (F : Nat → Int) (n : Int) : Prop := 64 ≤ zh_t F 10 ∧ zh_t F 10 + (if F 0 ≤ 3 then 62 else 126) ≤ zh_t F 14
def zh_ok9 (F : Nat → Int) (n : Int) : Prop := 64 ≤ zh_t F 8 ∧ zh_sg F n ≠ -1 ∧ (if F 0 ≤ 3 then 4 else 6) ≤ zh_eb F n ∧ zh_told F n ≠ -1 ∧ zh_t F 8 + 4 + zh_sg F n + zh_abs (zi_sh (zh_told F n)) * zh_eb F n ≤ zh_len F n
def zh_ok10 (F : Nat → Int) (n : Int) : Prop := zh_shorts F = 0 ∨ (64 ≤ zh_shorts F ∧ zh_shorts F + (if F 0 = 2 then 64 else 192) ≤ zh_len F n)
def zh_ok11 (F : Nat → Int) (n : Int) : Prop := 64 ≤ zh_start F ∧ zh_start F ≤ zh_len F n - 1
def zh_ok12 (F : Nat → Int) (n : Int) : Prop := zh_letters F = 0 ∨ (64 ≤ zh_letters F ∧ zh_letters F + 78 ≤ zh_len F n)
def zh_ok13 (F : Nat → Int) (n : Int) : Prop := zh_ends F = 0 ∨ (64 ≤ zh_ends F ∧ ∃ j : Int, zh_ends F ≤ j ∧ j < zh_len F n ∧ F j.toNat = 0)
def zh_ok14 (F : Nat → Int) (n : Int) : Prop := zh_more F = 0 ∨ (zh_mw F n ≠ -1 ∧ 64 ≤ zh_more F ∧ zh_more F + (2 + 2 * zh_mw F n) ≤ zh_len F n)
def zh_ok15 (F : Nat → Int) (n : Int) : Prop := zh_third F n = 0 ∨ (zh_at F n (zh_third F n) ≠ -1 ∧ 64 ≤ zh_third F n ∧ zh_third F n + (1 + 2 * zh_at F n (zh_third F n)) ≤ zh_len F n)
-- bounds
theorem zh_t_b {F : Nat → Int} (hF : zi_By F) (k : Nat) : 0 ≤ zh_t F k ∧ zh_t F k ≤ 65535 := by
  have h1 := hF k
  have h2 := hF (k + 1)
  unfold zh_t
  omega
theorem zh_at_b {F : Nat → Int} (hF : zi_By F) (n p : Int) : -1 ≤ zh_at F n p ∧ zh_at F n p ≤ 255 := by
  have h1 := hF p.toNat
  unfold zh_at
  split <;> omega
theorem zh_two_b {F : Nat → Int} (hF : zi_By F) (n p : Int) : -1 ≤ zh_two F n p ∧ zh_two F n p ≤ 65535 := by
  have h1 := hF p.toNat
  have h2 := hF (p + 1).toNat
  unfold zh_two
  split <;> omega
theorem zh_scale_b (v : Int) : 2 ≤ zh_scale v ∧ zh_scale v ≤ 8 := by
  unfold zh_scale
  split
  · omega
  · split <;> omega
theorem zh_mul_b {a b x y : Int} (h1 : 0 ≤ a) (h2 : a ≤ x) (h3 : 0 ≤ b) (h4 : b ≤ y) : 0 ≤ a * b ∧ a * b ≤ x * y :=
  ⟨Int.mul_nonneg h1 h3, Int.mul_le_mul h2 h4 h3 (Int.le_trans h1 h2)⟩
theorem zh_ts_b {F : Nat → Int} (hF : zi_By F) : 0 ≤ zh_t F 26 * zh_scale (F 0) ∧ zh_t F 26 * zh_scale (F 0) ≤ 524280 := by
  have h1 := zh_t_b hF 26
  have h2 := zh_scale_b (F 0)
  have h3 := zh_mul_b h1.1 h1.2 (show 0 ≤ zh_scale (F 0) by omega) h2.2
  omega
theorem zh_len_b {F : Nat → Int} {n : Int} (hF : zi_By F) (hn : 0 ≤ n ∧ n ≤ 600) : 0 ≤ zh_len F n ∧ zh_len F n ≤ 524280 := by
  have h1 := zh_ts_b hF
  unfold zh_len
  split <;> omega
theorem zh_abs_b {a : Int} (h : -32768 ≤ a ∧ a ≤ 32767) : 0 ≤ zh_abs a ∧ zh_abs a ≤ 32768 := by
  unfold zh_abs
  split <;> omega
theorem zh_ee_b {a b : Int} (h : -32768 ≤ a ∧ a ≤ 32767) (hb : 0 ≤ b ∧ b ≤ 255) : 0 ≤ zh_abs a * b ∧ zh_abs a * b ≤ 8355840 := by
  have h1 := zh_abs_b h
  have h3 := zh_mul_b h1.1 h1.2 hb.1 hb.2
  omega
theorem zh_at_in {F : Nat → Int} {n p : Int} (h : 0 ≤ p ∧ p < n) : zh_at F n p = F p.toNat := if_pos h
theorem zh_ee_b2 {a b : Int} (h : -32768 ≤ a ∧ a ≤ 32767) (hb : -1 ≤ b ∧ b ≤ 255) : -32768 ≤ zh_abs a * b ∧ zh_abs a * b ≤ 8355840 := by
  have h1 := zh_abs_b h
  by_cases c : 0 ≤ b
  · have h2 := zh_ee_b h ⟨c, hb.2⟩
    omega
  · have e : b = -1 := by omega
    subst e
    omega
end
section
/-! What calls do to the bytes. -/
def zh_put (F : Nat → Int) (n p v : Int) : Nat → Int := if 0 ≤ p ∧ p < n then zi_up F p.toNat (v % 256) else F
theorem zh_put_By {F : Nat → Int} (hF : zi_By F) (n p v : Int) : zi_By (zh_put F n p v) := by
  unfold zh_put
  split
  · exact zi_up_By hF _ (by omega)
  · exact hF
theorem zi_shr8 {a : Int} (h : zi_R a) : zi_n a >>> (zi_n 8 &&& 31) = zi_n (a / 256) := by
  apply Int32.toInt_inj.1
  rw [pk_shr (zi_n a) (zi_n 8 &&& 31) 8 (by decide), zi_toInt h, zi_toInt ⟨by omega, by omega⟩]
  rw [Int.shiftRight_eq_div_pow]
  rfl
/-- the first 600 places of one, the rest of the other -/
def zh_cp (F G : Nat → Int) : Nat → Int := fun j => if j < 600 then F j else G j
theorem zh_cp_By {F G : Nat → Int} (hF : zi_By F) (hG : zi_By G) : zi_By (zh_cp F G) := fun j => by
  unfold zh_cp
  split
  · exact hF j
  · exact hG j
theorem zh_cp_eq (F G : Nat → Int) : va_cpy (zi_F F) (zi_F G) 0 0 600 = zi_F (zh_cp F G) := by
  funext j
  unfold va_cpy zi_F zh_cp
  by_cases h : j < 600
  · rw [if_pos ⟨Nat.zero_le _, by omega⟩, if_pos h, Nat.zero_add, Nat.sub_zero]
  · rw [if_neg (by omega), if_neg h]
/-- c bytes b more -/
def zh_fl (F : Nat → Int) (n c b : Int) : Nat → Int := fun j => if n ≤ j ∧ (j : Int) < n + c then b else F j
theorem zh_fl_By {F : Nat → Int} (hF : zi_By F) (n c : Int) {b : Int} (hb : 0 ≤ b ∧ b ≤ 255) : zi_By (zh_fl F n c b) := fun j => by
  unfold zh_fl
  split
  · exact hb
  · exact hF j
theorem zh_fl_0 (F : Nat → Int) (n b : Int) : zh_fl F n 0 b = F := by
  funext j
  unfold zh_fl
  exact if_neg (by omega)
theorem zh_fl_s {F : Nat → Int} {n i b : Int} (h : 0 ≤ n) (hi : 0 ≤ i) : zi_up (zh_fl F n i b) (n + i).toNat b = zh_fl F n (i + 1) b := by
  funext j
  unfold zi_up zh_fl
  by_cases e : j = (n + i).toNat
  · rw [if_pos e, if_pos (by omega)]
  · rw [if_neg e]
    by_cases q : n ≤ j ∧ (j : Int) < n + i
    · rw [if_pos q, if_pos (by omega)]
    · rw [if_neg q, if_neg (by omega)]
section ZS
variable {p : Program} {l : Launch} {e : Env} {R : Room} {s : State} {m : MethodId} {args : Array Value} {below : List Frame} {meth : Method} {c : Code} {H : Heap} {locs : List Loc} {cells slots : Nat} {Q : State → Prop} {cc : ByteArray} {pc : Nat} {ls : Array Slot} {rest : List Value}
theorem zr_ishr8 (hx : p.tables.exec = Jvm.exec) (hb : c.code = cc) {x : Int} (hd : decode cc pc = .ok (.ishr, 1)) (h1 : zi_R x) (k : W p l e R s m args below meth c H locs cells slots Q (F0 m (pc + 1) ls (.int (zi_n (x / 256)) :: rest))) : W p l e R s m args below meth c H locs cells slots Q (F0 m pc ls (.int (zi_n 8) :: .int (zi_n x) :: rest)) := lv_ishr hx hb hd (by rw [zi_shr8 h1]; exact k)
theorem zr_copy {D : va_G} {cl : List vw_C} {A : Nat → Prop} {a : Nat} {tys : List (ClassId × FieldType)} {ws : va_W} {H0 : Heap} (hx : p.tables.exec = Jvm.exec) (hb : c.code = cc) (hml : c.maxLocals = ls.size) {own : String} {index : Nat} (hown : s.vm.findClass own = some m.cls) (hlink : (Cond.methodLink own index arraycopyName).before args s = true) (hnat : (Cond.native arraycopyName).before args s = true) (hstat : (Cond.static arraycopyName).before args s = true) (hini : (Cond.initialized "java/lang/System").before args s = true)
    (hK : va_K D cl tys s) (hP : va_P D cl ws H) (hD : va_D A ws) (hS : va_S A H0 H locs) (q0 q1 t0 t1 : Nat) {a0 : Nat} {c0 c1 : ClassId} {f g : Nat → Int} (ha0 : ws[q0]? = some (a0, .inl (c0, 600, .inl (zi_F f)))) (ha1 : ws[q1]? = some (a, .inl (c1, 600, .inl (zi_F g)))) (ht0 : tys[t0]? = some (c0, .int)) (ht1 : tys[t1]? = some (c1, .int))
    (hframes : 1 ≤ R.frames) (hlocals : (rest.map fun v => v.category).sum + (nativeFrameWords "java/lang/System" "arraycopy" 5 + 11) ≤ R.locals) (hd : decode cc pc = .ok (.invokestatic index, 3))
    (kk : ∀ (H1 : Heap) (locs1 : List Loc), va_P D cl (ws.set q1 (a, .inl (c1, 600, .inl (zi_F (zh_cp f g))))) H1 → va_D A (ws.set q1 (a, .inl (c1, 600, .inl (zi_F (zh_cp f g))))) → va_S A H0 H1 locs1 → W p l e R s m args below meth c H1 locs1 cells slots Q (F0 m (pc + 3) ls rest)) : W p l e R s m args below meth c H locs cells slots Q (F0 m pc ls (.int (zi_n 600) :: .int (zi_n 0) :: .ref a :: .int (zi_n 0) :: .ref a0 :: rest)) :=
  va_copyi hx hb hml hown hlink hnat hstat hini hK hP hD hS q0 q1 t0 t1 ha0 ha1 ht0 ht1 rfl (by decide) (by decide) (by decide) (by decide) (by decide) (fun i _ => rfl) hframes hlocals hd (fun H1 l1 u1 u2 u3 => kk H1 l1 (by rw [← zh_cp_eq]; exact u1) (by rw [← zh_cp_eq]; exact u2) u3)
end ZS
def zh_apE (n c : Int) : Int := if 600 - n < c then -14 else n + c
def zh_apN (n c : Int) : Int := if 600 - n < c then n else n + c
def zh_apR (n rd c : Int) : Int := if 600 - n < c then rd else 0
def zh_apF (F : Nat → Int) (n c b : Int) : Nat → Int := if 600 - n < c then F else zh_fl F n c b
theorem zh_apF_By {F : Nat → Int} (hF : zi_By F) (n c : Int) {b : Int} (hb : 0 ≤ b ∧ b ≤ 255) : zi_By (zh_apF F n c b) := by
  unfold zh_apF
  split
  · exact hF
  · exact zh_fl_By hF n c hb
-- fill, octet
def zh_fiG (c b : Int) : Prop := (1 ≤ c ∧ c ≤ 600) ∧ (0 ≤ b ∧ b ≤ 255)
theorem zh_fiG_dec (c b : Int) : zh_fiG c b ∨ ¬ zh_fiG c b := by unfold zh_fiG; omega
def zh_fiE (n c b : Int) : Int := if (1 ≤ c ∧ c ≤ 600) ∧ (0 ≤ b ∧ b ≤ 255) then zh_apE n c else -12
def zh_fiN (n c b : Int) : Int := if (1 ≤ c ∧ c ≤ 600) ∧ (0 ≤ b ∧ b ≤ 255) then zh_apN n c else n
def zh_fiR (n rd c b : Int) : Int := if (1 ≤ c ∧ c ≤ 600) ∧ (0 ≤ b ∧ b ≤ 255) then zh_apR n rd c else rd
def zh_fiF (F : Nat → Int) (n c b : Int) : Nat → Int := if (1 ≤ c ∧ c ≤ 600) ∧ (0 ≤ b ∧ b ≤ 255) then zh_apF F n c b else F
theorem zh_fiF_By {F : Nat → Int} (hF : zi_By F) (n c b : Int) : zi_By (zh_fiF F n c b) := by
  unfold zh_fiF
  split
  · exact zh_apF_By hF n c (by omega)
  · exact hF
-- poke
def zh_poE (F : Nat → Int) (n p b : Int) : Int := if (0 ≤ p ∧ p < n) ∧ (0 ≤ b ∧ b ≤ 255) then F p.toNat else -12
def zh_poF (F : Nat → Int) (n p b : Int) : Nat → Int := if (0 ≤ p ∧ p < n) ∧ (0 ≤ b ∧ b ≤ 255) then zi_up F p.toNat b else F
def zh_poR (n rd p b : Int) : Int := if (0 ≤ p ∧ p < n) ∧ (0 ≤ b ∧ b ≤ 255) then 0 else rd
theorem zh_poF_By {F : Nat → Int} (hF : zi_By F) (n p b : Int) : zi_By (zh_poF F n p b) := by
  unfold zh_poF
  split
  · exact zi_up_By hF _ (by omega)
  · exact hF
-- shifts
def zh_sr (a k : Int) : Int := a / 2 ^ k.toNat
theorem zh_sr_b {a k : Int} (h : 0 ≤ a) : 0 ≤ zh_sr a k ∧ zh_sr a k ≤ a := by
  unfold zh_sr
  exact ⟨Int.ediv_nonneg h (Int.le_of_lt (Int.pow_pos (by decide))), Int.ediv_le_self _ h⟩
theorem zh_smod : ∀ j : Nat, j < 32 → ((zi_n (j : Int) &&& 31).toBitVec.smod 32).toNat = j := by decide
theorem zi_shr {a k : Int} (ha : 0 ≤ a ∧ a ≤ 2147483647) (hk : 0 ≤ k ∧ k ≤ 31) : zi_n a >>> (zi_n k &&& 31) = zi_n (zh_sr a k) := by
  have hb := zh_sr_b (k := k) ha.1
  apply Int32.toInt_inj.1
  have e : k = ((k.toNat : Nat) : Int) := by omega
  have e2 : ((zi_n k &&& 31).toBitVec.smod 32).toNat = k.toNat := by rw [e]; exact zh_smod k.toNat (by omega)
  rw [pk_shr (zi_n a) (zi_n k &&& 31) k.toNat e2, zi_toInt ⟨by omega, by omega⟩, zi_toInt ⟨by omega, by omega⟩, Int.shiftRight_eq_div_pow]
  unfold zh_sr
  congr 1
section ZS2
variable {p : Program} {l : Launch} {e : Env} {R : Room} {s : State} {m : MethodId} {args : Array Value} {below : List Frame} {meth : Method} {c : Code} {H : Heap} {locs : List Loc} {cells slots : Nat} {Q : State → Prop} {cc : ByteArray} {pc : Nat} {ls : Array Slot} {rest : List Value}
theorem zr_ishr (hx : p.tables.exec = Jvm.exec) (hb : c.code = cc) {x y : Int} (hd : decode cc pc = .ok (.ishr, 1)) (h1 : 0 ≤ x ∧ x ≤ 2147483647) (h2 : 0 ≤ y ∧ y ≤ 31) (k : W p l e R s m args below meth c H locs cells slots Q (F0 m (pc + 1) ls (.int (zi_n (zh_sr x y)) :: rest))) : W p l e R s m args below meth c H locs cells slots Q (F0 m pc ls (.int (zi_n y) :: .int (zi_n x) :: rest)) := lv_ishr hx hb hd (by rw [zi_shr h1 h2]; exact k)
end ZS2
-- rights
def zh_pb (v : Int) : Int := if 1 ≤ v ∧ v ≤ 3 then 112 else if v = 4 then 156 else if v = 6 then 191 else 157
def zh_may1 (v b st : Int) : Prop := st = 0 ∧ zh_sr (zh_pb v) b % 2 = 1
def zh_may2 (v b on st : Int) : Prop := b = 0 ∨ (b = 1 ∧ st ≠ 0 ∧ 3 ≤ v) ∨ (b = 2 ∧ v = 6 ∧ (st = 0 ∨ on = 0)) ∨ (3 ≤ b ∧ st = 0 ∧ on = 0 ∧ ((b ≤ 7 ∧ 5 ≤ v) ∨ (b = 8 ∧ v = 6)))
def zh_isF (w b : Int) : Prop := (w = 1 ∧ 0 ≤ b ∧ b ≤ 7) ∨ (w = 2 ∧ 0 ≤ b ∧ b ≤ 15)
def zh_wide (w : Int) : Prop := w = 4 ∨ w = 5 ∨ w = 10
def zh_sf (w : Int) : Int := if w ≤ 3 then 4 else if w ≤ 9 then 5 else 1
def zh_sp (w v : Int) : Int := if w = 4 then 34 else if w = 5 then 36 else if w = 6 then (if v = 5 then 38 else 39) else if w = 7 then (if v = 5 then 39 else 38) else if w = 8 then 44 else if w = 9 then 45 else if w = 10 then 50 else 30 + w
-- reads of the memory
def zh_fldE (F : Nat → Int) (n rd w : Int) : Int := if rd = 0 then -11 else if w < 0 ∨ 18 ≤ w then -12 else zh_term F n w
end
section
abbrev vwCl : List vw_C := [(RJ0, TJ0, 2), (RJx00060, TJx00060, 6), (RX0, TX0, 1), (RX2, TX2, 2), (RX3, TX3, 5), (RX4, TX4, 9)]
end
section
theorem in_X2_count_X2 : ∀ w ∈ u_ws RX2 TX2 2, w ∈ wsX2_count := by decide +kernel
set_option maxHeartbeats 4000000 in
set_option maxRecDepth 100000 in
theorem c_Row_count (l : Launch) (D : va_G) (q a : Nat) (cA : ClassId) (F : Nat → Int) (n : Int) (hF : zi_By F) (hn : 0 ≤ n ∧ n ≤ 600) : Met l yX2_count wsX2_count ({ frames := 0, cells := 0, slots := 0, locals := 0 }) (va_Pc [.ref q] (zp_Q D vwCl [(q, .inr (3, [.ref a, .int (zi_n n)])), (a, .inl (cA, 600, .inl (zi_F F)))] [(cA, .int)])) (vp_Si (fun r => r = zi_n n ∧ 0 ≤ n ∧ n ≤ 600)) 0 0 (fun _ => False) := by
  refine Met.ofW (cc := cX2_count) (maxL := 1) (ret := (some .int)) (by decide) rfl ?_
  intro p e s m args below meth c s₁ B hml hv
  obtain ⟨rfl, hP, hK⟩ := hv
  have hx := B.exec
  have hb := B.bytes
  have hr := B.returns
  have hts := atoms_spec (ws := wsX2_count) B.pre
  have hown : s.vm.findClass RX2 = some m.cls := findClass_of_methodNamed B.named
  have hlocks := B.notSynchronized
  have hl := lv_entry ([.ref q]) (n := 1) (Nat.le_of_ble_eq_true rfl)
  rw [lg_entry_eq]
  generalize (lg_sl ([.ref q]) ++ List.replicate (1 - (lg_sl ([.ref q])).length) Slot.unset).toArray = ls at hl ⊢
  have hl : lv_has ls 1 [(0, .ref q)] := hl
  refine lv_aload_n hx hb dX2_count_0 rfl (lv_at hl 0 rfl) ?_
  refine va_get (D := D) (ci := 3) (v := .int (zi_n n)) (C := RX2) (T := TX2) (N := 2) hx hb hts in_X2_count_X2 hown hK hP 0 rfl rfl 1 (by decide) (hts (.fieldLink RX2 15 "ZHeads$Row" "count" "I") (by decide +kernel)) (fun _ h9 => h9) rfl dX2_count_1 ?_
  exact W.iret (v := zi_n n) hx hb hr (fun t ht hW => ⟨_, rfl, ⟨rfl, by omega⟩, ht⟩) (fun q hq => nomatch hq) dX2_count_4

theorem in_X2_room_X2 : ∀ w ∈ u_ws RX2 TX2 2, w ∈ wsX2_room := by decide +kernel
set_option maxHeartbeats 4000000 in
set_option maxRecDepth 100000 in
theorem c_Row_room (l : Launch) (D : va_G) (q a : Nat) (cA : ClassId) (F : Nat → Int) (n : Int) (hF : zi_By F) (hn : 0 ≤ n ∧ n ≤ 600) : Met l yX2_room wsX2_room ({ frames := 0, cells := 0, slots := 0, locals := 0 }) (va_Pc [.ref q] (zp_Q D vwCl [(q, .inr (3, [.ref a, .int (zi_n n)])), (a, .inl (cA, 600, .inl (zi_F F)))] [(cA, .int)])) (vp_Si (fun r => r = zi_n (600 - n) ∧ 0 ≤ (600 - n) ∧ (600 - n) ≤ 600)) 0 0 (fun _ => False) := by
  refine Met.ofW (cc := cX2_room) (maxL := 1) (ret := (some .int)) (by decide) rfl ?_
  intro p e s m args below meth c s₁ B hml hv
  obtain ⟨rfl, hP, hK⟩ := hv
  have hx := B.exec
  have hb := B.bytes
  have hr := B.returns
  have hts := atoms_spec (ws := wsX2_room) B.pre
  have hown : s.vm.findClass RX2 = some m.cls := findClass_of_methodNamed B.named
  have hlocks := B.notSynchronized
  have hl := lv_entry ([.ref q]) (n := 1) (Nat.le_of_ble_eq_true rfl)
  rw [lg_entry_eq]
  generalize (lg_sl ([.ref q]) ++ List.replicate (1 - (lg_sl ([.ref q])).length) Slot.unset).toArray = ls at hl ⊢
  have hl : lv_has ls 1 [(0, .ref q)] := hl
  refine zr_sipush hx hb dX2_room_0 (by decide) ?_
  refine lv_aload_n hx hb dX2_room_3 rfl (lv_at hl 0 rfl) ?_
  refine va_get (D := D) (ci := 3) (v := .int (zi_n n)) (C := RX2) (T := TX2) (N := 2) hx hb hts in_X2_room_X2 hown hK hP 0 rfl rfl 1 (by decide) (hts (.fieldLink RX2 15 "ZHeads$Row" "count" "I") (by decide +kernel)) (fun _ h9 => h9) rfl dX2_room_4 ?_
  refine zr_isub hx hb dX2_room_7 ?_
  exact W.iret (v := zi_n (600 - n)) hx hb hr (fun t ht hW => ⟨_, rfl, ⟨rfl, by omega⟩, ht⟩) (fun q hq => nomatch hq) dX2_room_8

theorem in_X2_has_X2 : ∀ w ∈ u_ws RX2 TX2 2, w ∈ wsX2_has := by decide +kernel
set_option maxHeartbeats 4000000 in
set_option maxRecDepth 100000 in
theorem c_Row_has (l : Launch) (D : va_G) (q a : Nat) (cA : ClassId) (F : Nat → Int) (n : Int) (hF : zi_By F) (hn : 0 ≤ n ∧ n ≤ 600) (p0 : Int) (hp : zi_R p0) : Met l yX2_has wsX2_has ({ frames := 0, cells := 0, slots := 0, locals := 0 }) (va_Pc [.ref q, .int (zi_n p0)] (zp_Q D vwCl [(q, .inr (3, [.ref a, .int (zi_n n)])), (a, .inl (cA, 600, .inl (zi_F F)))] [(cA, .int)])) (vp_Si (fun r => (r = zi_n 1 ∧ (0 ≤ p0 ∧ p0 < n)) ∨ (r = zi_n 0 ∧ ¬ (0 ≤ p0 ∧ p0 < n)))) 0 0 (fun _ => False) := by
  refine Met.ofW (cc := cX2_has) (maxL := 2) (ret := (some .boolean)) (by decide) rfl ?_
  intro p e s m args below meth c s₁ B hml hv
  obtain ⟨rfl, hP, hK⟩ := hv
  have hx := B.exec
  have hb := B.bytes
  have hr := B.returns
  have hts := atoms_spec (ws := wsX2_has) B.pre
  have hown : s.vm.findClass RX2 = some m.cls := findClass_of_methodNamed B.named
  have hlocks := B.notSynchronized
  have hl := lv_entry ([.ref q, .int (zi_n p0)]) (n := 2) (Nat.le_of_ble_eq_true rfl)
  rw [lg_entry_eq]
  generalize (lg_sl ([.ref q, .int (zi_n p0)]) ++ List.replicate (2 - (lg_sl ([.ref q, .int (zi_n p0)])).length) Slot.unset).toArray = ls at hl ⊢
  have hl : lv_has ls 2 [(0, .ref q), (1, .int (zi_n p0))] := hl
  refine lv_iload_n hx hb dX2_has_0 rfl (lv_at hl 1 rfl) ?_
  refine zr_if_lt (tgt := 25) hx hb dX2_has_1 (by decide) (by omega) (fun c_1 => ?_) (fun c_1 => ?_)
  · refine zr_iconst hx hb dX2_has_25 ?_
    exact W.zret (v := zi_n 0) (ty := .boolean) hx hb hr zl_b0 (fun t ht hW => ⟨_, rfl, zl_f (by omega), ht⟩) (fun q hq => nomatch hq) dX2_has_26
  · refine lv_iload_n hx hb dX2_has_4 rfl (lv_at hl 1 rfl) ?_
    refine lv_aload_n hx hb dX2_has_5 rfl (lv_at hl 0 rfl) ?_
    refine va_get (D := D) (ci := 3) (v := .int (zi_n n)) (C := RX2) (T := TX2) (N := 2) hx hb hts in_X2_has_X2 hown hK hP 0 rfl rfl 1 (by decide) (hts (.fieldLink RX2 15 "ZHeads$Row" "count" "I") (by decide +kernel)) (fun _ h9 => h9) rfl dX2_has_6 ?_
    refine zr_icmp_ge (tgt := 25) hx hb dX2_has_9 (by decide) (by omega) (by omega) (fun c_2 => ?_) (fun c_2 => ?_)
    · refine zr_iconst hx hb dX2_has_25 ?_
      exact W.zret (v := zi_n 0) (ty := .boolean) hx hb hr zl_b0 (fun t ht hW => ⟨_, rfl, zl_f (by omega), ht⟩) (fun q hq => nomatch hq) dX2_has_26
    · refine lv_iload_n hx hb dX2_has_12 rfl (lv_at hl 1 rfl) ?_
      refine lv_aload_n hx hb dX2_has_13 rfl (lv_at hl 0 rfl) ?_
      refine va_get (D := D) (ci := 3) (v := .ref a) (C := RX2) (T := TX2) (N := 2) hx hb hts in_X2_has_X2 hown hK hP 0 rfl rfl 0 (by decide) (hts (.fieldLink RX2 9 "ZHeads$Row" "cells" "[I") (by decide +kernel)) (fun _ h9 => h9) rfl dX2_has_14 ?_
      refine zr_alen hx hb hK hP 1 0 rfl rfl 600 rfl dX2_has_17 ?_
      refine zr_icmp_ge (tgt := 25) hx hb dX2_has_18 (by decide) (by omega) (by omega) (fun c_3 => ?_) (fun c_3 => ?_)
      · refine zr_iconst hx hb dX2_has_25 ?_
        exact W.zret (v := zi_n 0) (ty := .boolean) hx hb hr zl_b0 (fun t ht hW => ⟨_, rfl, zl_f (by omega), ht⟩) (fun q hq => nomatch hq) dX2_has_26
      · refine zr_iconst hx hb dX2_has_21 ?_
        refine lv_goto (tgt := 26) hx hb dX2_has_22 (by decide) ?_
        exact W.zret (v := zi_n 1) (ty := .boolean) hx hb hr zl_b1 (fun t ht hW => ⟨_, rfl, zl_t (by omega), ht⟩) (fun q hq => nomatch hq) dX2_has_26

theorem in_X2_at_X2 : ∀ w ∈ u_ws RX2 TX2 2, w ∈ wsX2_at := by decide +kernel
set_option maxHeartbeats 4000000 in
set_option maxRecDepth 100000 in
theorem c_Row_at_k (l : Launch) (D : va_G) (q a : Nat) (cA : ClassId) (F : Nat → Int) (n : Int) (hF : zi_By F) (hn : 0 ≤ n ∧ n ≤ 600) (p0 : Int) (kk : Nat) (hp : p0 = (kk : Int)) (hq : p0 < n) : Met l yX2_at wsX2_at ({ frames := 0, cells := 0, slots := 0, locals := 0 }) (va_Pc [.ref q, .int (zi_n p0)] (zp_Q D vwCl [(q, .inr (3, [.ref a, .int (zi_n n)])), (a, .inl (cA, 600, .inl (zi_F F)))] [(cA, .int)])) (vp_Si (fun r => r = zi_n (F kk) ∧ 0 ≤ (F kk) ∧ (F kk) ≤ 255)) 0 0 (fun _ => False) := by
  refine Met.ofW (cc := cX2_at) (maxL := 2) (ret := (some .int)) (by decide) rfl ?_
  intro p e s m args below meth c s₁ B hml hv
  obtain ⟨rfl, hP, hK⟩ := hv
  have hx := B.exec
  have hb := B.bytes
  have hr := B.returns
  have hts := atoms_spec (ws := wsX2_at) B.pre
  have hown : s.vm.findClass RX2 = some m.cls := findClass_of_methodNamed B.named
  have hlocks := B.notSynchronized
  have hl := lv_entry ([.ref q, .int (zi_n p0)]) (n := 2) (Nat.le_of_ble_eq_true rfl)
  rw [lg_entry_eq]
  generalize (lg_sl ([.ref q, .int (zi_n p0)]) ++ List.replicate (2 - (lg_sl ([.ref q, .int (zi_n p0)])).length) Slot.unset).toArray = ls at hl ⊢
  have hl : lv_has ls 2 [(0, .ref q), (1, .int (zi_n p0))] := hl
  refine lv_iload_n hx hb dX2_at_0 rfl (lv_at hl 1 rfl) ?_
  refine zr_if_lt (tgt := 30) hx hb dX2_at_1 (by decide) (by omega) (fun c => False.elim (by omega)) (fun c_1 => ?_)
  refine lv_iload_n hx hb dX2_at_4 rfl (lv_at hl 1 rfl) ?_
  refine lv_aload_n hx hb dX2_at_5 rfl (lv_at hl 0 rfl) ?_
  refine va_get (D := D) (ci := 3) (v := .int (zi_n n)) (C := RX2) (T := TX2) (N := 2) hx hb hts in_X2_at_X2 hown hK hP 0 rfl rfl 1 (by decide) (hts (.fieldLink RX2 15 "ZHeads$Row" "count" "I") (by decide +kernel)) (fun _ h9 => h9) rfl dX2_at_6 ?_
  refine zr_icmp_ge (tgt := 30) hx hb dX2_at_9 (by decide) (by omega) (by omega) (fun c => False.elim (by omega)) (fun c_2 => ?_)
  refine lv_iload_n hx hb dX2_at_12 rfl (lv_at hl 1 rfl) ?_
  refine lv_aload_n hx hb dX2_at_13 rfl (lv_at hl 0 rfl) ?_
  refine va_get (D := D) (ci := 3) (v := .ref a) (C := RX2) (T := TX2) (N := 2) hx hb hts in_X2_at_X2 hown hK hP 0 rfl rfl 0 (by decide) (hts (.fieldLink RX2 9 "ZHeads$Row" "cells" "[I") (by decide +kernel)) (fun _ h9 => h9) rfl dX2_at_14 ?_
  refine zr_alen hx hb hK hP 1 0 rfl rfl 600 rfl dX2_at_17 ?_
  refine zr_icmp_ge (tgt := 30) hx hb dX2_at_18 (by decide) (by omega) (by omega) (fun c => False.elim (by omega)) (fun c_3 => ?_)
  refine lv_aload_n hx hb dX2_at_21 rfl (lv_at hl 0 rfl) ?_
  refine va_get (D := D) (ci := 3) (v := .ref a) (C := RX2) (T := TX2) (N := 2) hx hb hts in_X2_at_X2 hown hK hP 0 rfl rfl 0 (by decide) (hts (.fieldLink RX2 9 "ZHeads$Row" "cells" "[I") (by decide +kernel)) (fun _ h9 => h9) rfl dX2_at_22 ?_
  refine lv_iload_n hx hb dX2_at_25 rfl (lv_at hl 1 rfl) ?_
  refine zr_iald hx hb hK hP 1 0 rfl rfl (by decide) (by omega) dX2_at_26 ?_
  have b_4 := hF p0.toNat
  refine lv_goto (tgt := 31) hx hb dX2_at_27 (by decide) ?_
  exact W.iret (v := zi_n (F p0.toNat)) hx hb hr (fun t ht hW => ⟨_, rfl, zl_r (by rw [show p0.toNat = kk by omega]) (by omega), ht⟩) (fun q hq => nomatch hq) dX2_at_31

set_option maxHeartbeats 4000000 in
set_option maxRecDepth 100000 in
theorem c_Row_at (l : Launch) (D : va_G) (q a : Nat) (cA : ClassId) (F : Nat → Int) (n : Int) (hF : zi_By F) (hn : 0 ≤ n ∧ n ≤ 600) (p0 : Int) (hp : zi_R p0) : Met l yX2_at wsX2_at ({ frames := 0, cells := 0, slots := 0, locals := 0 }) (va_Pc [.ref q, .int (zi_n p0)] (zp_Q D vwCl [(q, .inr (3, [.ref a, .int (zi_n n)])), (a, .inl (cA, 600, .inl (zi_F F)))] [(cA, .int)])) (vp_Si (fun r => r = zi_n (zh_at F n p0) ∧ -1 ≤ (zh_at F n p0) ∧ (zh_at F n p0) ≤ 255)) 0 0 (fun _ => False) := by
  refine Met.ofW (cc := cX2_at) (maxL := 2) (ret := (some .int)) (by decide) rfl ?_
  intro p e s m args below meth c s₁ B hml hv
  obtain ⟨rfl, hP, hK⟩ := hv
  have hx := B.exec
  have hb := B.bytes
  have hr := B.returns
  have hts := atoms_spec (ws := wsX2_at) B.pre
  have hown : s.vm.findClass RX2 = some m.cls := findClass_of_methodNamed B.named
  have hlocks := B.notSynchronized
  have hl := lv_entry ([.ref q, .int (zi_n p0)]) (n := 2) (Nat.le_of_ble_eq_true rfl)
  rw [lg_entry_eq]
  generalize (lg_sl ([.ref q, .int (zi_n p0)]) ++ List.replicate (2 - (lg_sl ([.ref q, .int (zi_n p0)])).length) Slot.unset).toArray = ls at hl ⊢
  have hl : lv_has ls 2 [(0, .ref q), (1, .int (zi_n p0))] := hl
  refine lv_iload_n hx hb dX2_at_0 rfl (lv_at hl 1 rfl) ?_
  refine zr_if_lt (tgt := 30) hx hb dX2_at_1 (by decide) (by omega) (fun c_1 => ?_) (fun c_1 => ?_)
  · refine zr_iconst hx hb dX2_at_30 ?_
    exact W.iret (v := zi_n (-1)) hx hb hr (fun t ht hW => ⟨_, rfl, zl_r (by unfold zh_at; split <;> omega) (by omega), ht⟩) (fun q hq => nomatch hq) dX2_at_31
  · refine lv_iload_n hx hb dX2_at_4 rfl (lv_at hl 1 rfl) ?_
    refine lv_aload_n hx hb dX2_at_5 rfl (lv_at hl 0 rfl) ?_
    refine va_get (D := D) (ci := 3) (v := .int (zi_n n)) (C := RX2) (T := TX2) (N := 2) hx hb hts in_X2_at_X2 hown hK hP 0 rfl rfl 1 (by decide) (hts (.fieldLink RX2 15 "ZHeads$Row" "count" "I") (by decide +kernel)) (fun _ h9 => h9) rfl dX2_at_6 ?_
    refine zr_icmp_ge (tgt := 30) hx hb dX2_at_9 (by decide) (by omega) (by omega) (fun c_2 => ?_) (fun c_2 => ?_)
    · refine zr_iconst hx hb dX2_at_30 ?_
      exact W.iret (v := zi_n (-1)) hx hb hr (fun t ht hW => ⟨_, rfl, zl_r (by unfold zh_at; split <;> omega) (by omega), ht⟩) (fun q hq => nomatch hq) dX2_at_31
    · refine lv_iload_n hx hb dX2_at_12 rfl (lv_at hl 1 rfl) ?_
      refine lv_aload_n hx hb dX2_at_13 rfl (lv_at hl 0 rfl) ?_
      refine va_get (D := D) (ci := 3) (v := .ref a) (C := RX2) (T := TX2) (N := 2) hx hb hts in_X2_at_X2 hown hK hP 0 rfl rfl 0 (by decide) (hts (.fieldLink RX2 9 "ZHeads$Row" "cells" "[I") (by decide +kernel)) (fun _ h9 => h9) rfl dX2_at_14 ?_
      refine zr_alen hx hb hK hP 1 0 rfl rfl 600 rfl dX2_at_17 ?_
      refine zr_icmp_ge (tgt := 30) hx hb dX2_at_18 (by decide) (by omega) (by omega) (fun c_3 => ?_) (fun c_3 => ?_)
      · refine zr_iconst hx hb dX2_at_30 ?_
        exact W.iret (v := zi_n (-1)) hx hb hr (fun t ht hW => ⟨_, rfl, zl_r (by unfold zh_at; split <;> omega) (by omega), ht⟩) (fun q hq => nomatch hq) dX2_at_31
      · refine lv_aload_n hx hb dX2_at_21 rfl (lv_at hl 0 rfl) ?_
        refine va_get (D := D) (ci := 3) (v := .ref a) (C := RX2) (T := TX2) (N := 2) hx hb hts in_X2_at_X2 hown hK hP 0 rfl rfl 0 (by decide) (hts (.fieldLink RX2 9 "ZHeads$Row" "cells" "[I") (by decide +kernel)) (fun _ h9 => h9) rfl dX2_at_22 ?_
        refine lv_iload_n hx hb dX2_at_25 rfl (lv_at hl 1 rfl) ?_
        refine zr_iald hx hb hK hP 1 0 rfl rfl (by decide) (by omega) dX2_at_26 ?_
        have b_4 := hF p0.toNat
        refine lv_goto (tgt := 31) hx hb dX2_at_27 (by decide) ?_
        exact W.iret (v := zi_n (F p0.toNat)) hx hb hr (fun t ht hW => ⟨_, rfl, zl_r (by unfold zh_at; split <;> omega) (by omega), ht⟩) (fun q hq => nomatch hq) dX2_at_31

theorem in_X2_two_X2 : ∀ w ∈ u_ws RX2 TX2 2, w ∈ wsX2_two := by decide +kernel
set_option maxHeartbeats 4000000 in
set_option maxRecDepth 100000 in
theorem c_Row_two_k (l : Launch) (D : va_G) (q a : Nat) (cA : ClassId) (F : Nat → Int) (n : Int) (hF : zi_By F) (hn : 0 ≤ n ∧ n ≤ 600) (p0 : Int) (kk : Nat) (hp : p0 = (kk : Int)) (hq : p0 + 1 < n) : Met l yX2_two wsX2_two ({ frames := 0, cells := 0, slots := 0, locals := 0 }) (va_Pc [.ref q, .int (zi_n p0)] (zp_Q D vwCl [(q, .inr (3, [.ref a, .int (zi_n n)])), (a, .inl (cA, 600, .inl (zi_F F)))] [(cA, .int)])) (vp_Si (fun r => r = zi_n (zh_t F kk) ∧ 0 ≤ (zh_t F kk) ∧ (zh_t F kk) ≤ 65535)) 0 0 (fun _ => False) := by
  refine Met.ofW (cc := cX2_two) (maxL := 2) (ret := (some .int)) (by decide) rfl ?_
  intro p e s m args below meth c s₁ B hml hv
  obtain ⟨rfl, hP, hK⟩ := hv
  have hx := B.exec
  have hb := B.bytes
  have hr := B.returns
  have hts := atoms_spec (ws := wsX2_two) B.pre
  have hown : s.vm.findClass RX2 = some m.cls := findClass_of_methodNamed B.named
  have hlocks := B.notSynchronized
  have hl := lv_entry ([.ref q, .int (zi_n p0)]) (n := 2) (Nat.le_of_ble_eq_true rfl)
  rw [lg_entry_eq]
  generalize (lg_sl ([.ref q, .int (zi_n p0)]) ++ List.replicate (2 - (lg_sl ([.ref q, .int (zi_n p0)])).length) Slot.unset).toArray = ls at hl ⊢
  have hl : lv_has ls 2 [(0, .ref q), (1, .int (zi_n p0))] := hl
  refine lv_iload_n hx hb dX2_two_0 rfl (lv_at hl 1 rfl) ?_
  refine zr_if_lt (tgt := 25) hx hb dX2_two_1 (by decide) (by omega) (fun c => False.elim (by omega)) (fun c_1 => ?_)
  refine lv_iload_n hx hb dX2_two_4 rfl (lv_at hl 1 rfl) ?_
  refine lv_aload_n hx hb dX2_two_5 rfl (lv_at hl 0 rfl) ?_
  refine va_get (D := D) (ci := 3) (v := .int (zi_n n)) (C := RX2) (T := TX2) (N := 2) hx hb hts in_X2_two_X2 hown hK hP 0 rfl rfl 1 (by decide) (hts (.fieldLink RX2 15 "ZHeads$Row" "count" "I") (by decide +kernel)) (fun _ h9 => h9) rfl dX2_two_6 ?_
  refine zr_iconst hx hb dX2_two_9 ?_
  refine zr_isub hx hb dX2_two_10 ?_
  refine zr_icmp_ge (tgt := 25) hx hb dX2_two_11 (by decide) (by omega) (by omega) (fun c => False.elim (by omega)) (fun c_2 => ?_)
  refine lv_iload_n hx hb dX2_two_14 rfl (lv_at hl 1 rfl) ?_
  refine lv_aload_n hx hb dX2_two_15 rfl (lv_at hl 0 rfl) ?_
  refine va_get (D := D) (ci := 3) (v := .ref a) (C := RX2) (T := TX2) (N := 2) hx hb hts in_X2_two_X2 hown hK hP 0 rfl rfl 0 (by decide) (hts (.fieldLink RX2 9 "ZHeads$Row" "cells" "[I") (by decide +kernel)) (fun _ h9 => h9) rfl dX2_two_16 ?_
  refine zr_alen hx hb hK hP 1 0 rfl rfl 600 rfl dX2_two_19 ?_
  refine zr_iconst hx hb dX2_two_20 ?_
  refine zr_isub hx hb dX2_two_21 ?_
  refine zr_icmp_lt (tgt := 27) hx hb dX2_two_22 (by decide) (by omega) (by omega) (fun c_3 => ?_) (fun c => False.elim (by omega))
  refine lv_aload_n hx hb dX2_two_27 rfl (lv_at hl 0 rfl) ?_
  refine va_get (D := D) (ci := 3) (v := .ref a) (C := RX2) (T := TX2) (N := 2) hx hb hts in_X2_two_X2 hown hK hP 0 rfl rfl 0 (by decide) (hts (.fieldLink RX2 9 "ZHeads$Row" "cells" "[I") (by decide +kernel)) (fun _ h9 => h9) rfl dX2_two_28 ?_
  refine lv_iload_n hx hb dX2_two_31 rfl (lv_at hl 1 rfl) ?_
  refine zr_iald hx hb hK hP 1 0 rfl rfl (by decide) (by omega) dX2_two_32 ?_
  have b_4 := hF p0.toNat
  refine zr_sipush hx hb dX2_two_33 (by decide) ?_
  refine zr_imul hx hb dX2_two_36 ?_
  refine lv_aload_n hx hb dX2_two_37 rfl (lv_at hl 0 rfl) ?_
  refine va_get (D := D) (ci := 3) (v := .ref a) (C := RX2) (T := TX2) (N := 2) hx hb hts in_X2_two_X2 hown hK hP 0 rfl rfl 0 (by decide) (hts (.fieldLink RX2 9 "ZHeads$Row" "cells" "[I") (by decide +kernel)) (fun _ h9 => h9) rfl dX2_two_38 ?_
  refine lv_iload_n hx hb dX2_two_41 rfl (lv_at hl 1 rfl) ?_
  refine zr_iconst hx hb dX2_two_42 ?_
  refine zr_iadd hx hb dX2_two_43 ?_
  refine zr_iald hx hb hK hP 1 0 rfl rfl (by decide) (by omega) dX2_two_44 ?_
  have b_5 := hF (p0 + 1).toNat
  refine zr_iadd hx hb dX2_two_45 ?_
  exact W.iret (v := zi_n (((F p0.toNat) * 256) + (F (p0 + 1).toNat))) hx hb hr (fun t ht hW => ⟨_, rfl, zl_r (by rw [show p0.toNat = kk by omega, show (p0 + 1).toNat = kk + 1 by omega]; rfl) (by omega), ht⟩) (fun q hq => nomatch hq) dX2_two_46

set_option maxHeartbeats 4000000 in
set_option maxRecDepth 100000 in
theorem c_Row_two (l : Launch) (D : va_G) (q a : Nat) (cA : ClassId) (F : Nat → Int) (n : Int) (hF : zi_By F) (hn : 0 ≤ n ∧ n ≤ 600) (p0 : Int) (hp : zi_R p0) : Met l yX2_two wsX2_two ({ frames := 0, cells := 0, slots := 0, locals := 0 }) (va_Pc [.ref q, .int (zi_n p0)] (zp_Q D vwCl [(q, .inr (3, [.ref a, .int (zi_n n)])), (a, .inl (cA, 600, .inl (zi_F F)))] [(cA, .int)])) (vp_Si (fun r => r = zi_n (zh_two F n p0) ∧ -1 ≤ (zh_two F n p0) ∧ (zh_two F n p0) ≤ 65535)) 0 0 (fun _ => False) := by
  refine Met.ofW (cc := cX2_two) (maxL := 2) (ret := (some .int)) (by decide) rfl ?_
  intro p e s m args below meth c s₁ B hml hv
  obtain ⟨rfl, hP, hK⟩ := hv
  have hx := B.exec
  have hb := B.bytes
  have hr := B.returns
  have hts := atoms_spec (ws := wsX2_two) B.pre
  have hown : s.vm.findClass RX2 = some m.cls := findClass_of_methodNamed B.named
  have hlocks := B.notSynchronized
  have hl := lv_entry ([.ref q, .int (zi_n p0)]) (n := 2) (Nat.le_of_ble_eq_true rfl)
  rw [lg_entry_eq]
  generalize (lg_sl ([.ref q, .int (zi_n p0)]) ++ List.replicate (2 - (lg_sl ([.ref q, .int (zi_n p0)])).length) Slot.unset).toArray = ls at hl ⊢
  have hl : lv_has ls 2 [(0, .ref q), (1, .int (zi_n p0))] := hl
  refine lv_iload_n hx hb dX2_two_0 rfl (lv_at hl 1 rfl) ?_
  refine zr_if_lt (tgt := 25) hx hb dX2_two_1 (by decide) (by omega) (fun c_1 => ?_) (fun c_1 => ?_)
  · refine zr_iconst hx hb dX2_two_25 ?_
    exact W.iret (v := zi_n (-1)) hx hb hr (fun t ht hW => ⟨_, rfl, zl_r (by unfold zh_two; split <;> omega) (by omega), ht⟩) (fun q hq => nomatch hq) dX2_two_26
  · refine lv_iload_n hx hb dX2_two_4 rfl (lv_at hl 1 rfl) ?_
    refine lv_aload_n hx hb dX2_two_5 rfl (lv_at hl 0 rfl) ?_
    refine va_get (D := D) (ci := 3) (v := .int (zi_n n)) (C := RX2) (T := TX2) (N := 2) hx hb hts in_X2_two_X2 hown hK hP 0 rfl rfl 1 (by decide) (hts (.fieldLink RX2 15 "ZHeads$Row" "count" "I") (by decide +kernel)) (fun _ h9 => h9) rfl dX2_two_6 ?_
    refine zr_iconst hx hb dX2_two_9 ?_
    refine zr_isub hx hb dX2_two_10 ?_
    refine zr_icmp_ge (tgt := 25) hx hb dX2_two_11 (by decide) (by omega) (by omega) (fun c_2 => ?_) (fun c_2 => ?_)
    · refine zr_iconst hx hb dX2_two_25 ?_
      exact W.iret (v := zi_n (-1)) hx hb hr (fun t ht hW => ⟨_, rfl, zl_r (by unfold zh_two; split <;> omega) (by omega), ht⟩) (fun q hq => nomatch hq) dX2_two_26
    · refine lv_iload_n hx hb dX2_two_14 rfl (lv_at hl 1 rfl) ?_
      refine lv_aload_n hx hb dX2_two_15 rfl (lv_at hl 0 rfl) ?_
      refine va_get (D := D) (ci := 3) (v := .ref a) (C := RX2) (T := TX2) (N := 2) hx hb hts in_X2_two_X2 hown hK hP 0 rfl rfl 0 (by decide) (hts (.fieldLink RX2 9 "ZHeads$Row" "cells" "[I") (by decide +kernel)) (fun _ h9 => h9) rfl dX2_two_16 ?_
      refine zr_alen hx hb hK hP 1 0 rfl rfl 600 rfl dX2_two_19 ?_
      refine zr_iconst hx hb dX2_two_20 ?_
      refine zr_isub hx hb dX2_two_21 ?_
      refine zr_icmp_lt (tgt := 27) hx hb dX2_two_22 (by decide) (by omega) (by omega) (fun c_3 => ?_) (fun c_3 => ?_)
      · refine lv_aload_n hx hb dX2_two_27 rfl (lv_at hl 0 rfl) ?_
        refine va_get (D := D) (ci := 3) (v := .ref a) (C := RX2) (T := TX2) (N := 2) hx hb hts in_X2_two_X2 hown hK hP 0 rfl rfl 0 (by decide) (hts (.fieldLink RX2 9 "ZHeads$Row" "cells" "[I") (by decide +kernel)) (fun _ h9 => h9) rfl dX2_two_28 ?_
        refine lv_iload_n hx hb dX2_two_31 rfl (lv_at hl 1 rfl) ?_
        refine zr_iald hx hb hK hP 1 0 rfl rfl (by decide) (by omega) dX2_two_32 ?_
        have b_4 := hF p0.toNat
        refine zr_sipush hx hb dX2_two_33 (by decide) ?_
        refine zr_imul hx hb dX2_two_36 ?_
        refine lv_aload_n hx hb dX2_two_37 rfl (lv_at hl 0 rfl) ?_
        refine va_get (D := D) (ci := 3) (v := .ref a) (C := RX2) (T := TX2) (N := 2) hx hb hts in_X2_two_X2 hown hK hP 0 rfl rfl 0 (by decide) (hts (.fieldLink RX2 9 "ZHeads$Row" "cells" "[I") (by decide +kernel)) (fun _ h9 => h9) rfl dX2_two_38 ?_
        refine lv_iload_n hx hb dX2_two_41 rfl (lv_at hl 1 rfl) ?_
        refine zr_iconst hx hb dX2_two_42 ?_
        refine zr_iadd hx hb dX2_two_43 ?_
        refine zr_iald hx hb hK hP 1 0 rfl rfl (by decide) (by omega) dX2_two_44 ?_
        have b_5 := hF (p0 + 1).toNat
        refine zr_iadd hx hb dX2_two_45 ?_
        exact W.iret (v := zi_n (((F p0.toNat) * 256) + (F (p0 + 1).toNat))) hx hb hr (fun t ht hW => ⟨_, rfl, zl_r (by unfold zh_two; split <;> omega) (by omega), ht⟩) (fun q hq => nomatch hq) dX2_two_46
      · refine zr_iconst hx hb dX2_two_25 ?_
        exact W.iret (v := zi_n (-1)) hx hb hr (fun t ht hW => ⟨_, rfl, zl_r (by unfold zh_two; split <;> omega) (by omega), ht⟩) (fun q hq => nomatch hq) dX2_two_26
end
section
theorem in_X0_version_X0 : ∀ w ∈ u_ws RX0 TX0 1, w ∈ wsX0_version := by decide +kernel
set_option maxHeartbeats 4000000 in
set_option maxRecDepth 100000 in
theorem c_Hd_version (l : Launch) (D : va_G) (hh q a : Nat) (cA : ClassId) (F : Nat → Int) (n : Int) (hF : zi_By F) (hn : 0 ≤ n ∧ n ≤ 600) (h1 : 1 ≤ n) : Met l yX0_version wsX0_version ({ frames := 1, cells := 0, slots := 0, locals := 21 }) (va_Pc [.ref hh] (zp_Q D vwCl [(hh, .inr (2, [.ref q])), (q, .inr (3, [.ref a, .int (zi_n n)])), (a, .inl (cA, 600, .inl (zi_F F)))] [(cA, .int)])) (vp_Si (fun r => r = zi_n (F 0) ∧ 0 ≤ (F 0) ∧ (F 0) ≤ 255)) 0 0 (fun _ => False) := by
  refine Met.ofW (cc := cX0_version) (maxL := 1) (ret := (some .int)) (by decide) rfl ?_
  intro p e s m args below meth c s₁ B hml hv
  obtain ⟨rfl, hP, hK⟩ := hv
  have hx := B.exec
  have hb := B.bytes
  have hr := B.returns
  have hts := atoms_spec (ws := wsX0_version) B.pre
  have hown : s.vm.findClass RX0 = some m.cls := findClass_of_methodNamed B.named
  have hlocks := B.notSynchronized
  have hl := lv_entry ([.ref hh]) (n := 1) (Nat.le_of_ble_eq_true rfl)
  rw [lg_entry_eq]
  generalize (lg_sl ([.ref hh]) ++ List.replicate (1 - (lg_sl ([.ref hh])).length) Slot.unset).toArray = ls at hl ⊢
  have hl : lv_has ls 1 [(0, .ref hh)] := hl
  refine lv_aload_n hx hb dX0_version_0 rfl (lv_at hl 0 rfl) ?_
  refine va_get (D := D) (ci := 2) (v := .ref q) (C := RX0) (T := TX0) (N := 1) hx hb hts in_X0_version_X0 hown hK hP 0 rfl rfl 0 (by decide) (hts (.fieldLink RX0 9 "ZHeads$Head" "row" "LZHeads$Row;") (by decide +kernel)) (fun _ h9 => h9) rfl dX0_version_1 ?_
  refine zr_iconst hx hb dX0_version_4 ?_
  refine zc_V (As := [.int (zi_n 0)]) (rest := []) ⟨hx, hb, hml, hown, hts⟩ (c_Row_at_k l D q a cA F n hF (by omega) 0 0 rfl (by omega)) (cwV 1 hts gX0_version_X2_at rfl rfl rfl (by decide +kernel) ⟨(Nat.le_of_ble_eq_true rfl), (Nat.le_of_ble_eq_true rfl)⟩) hP hK [1, 2] [0] rfl rfl (ci := 3) rfl rfl rfl rfl hl.1 rfl (Nat.le_of_ble_eq_true rfl) dX0_version_5 ⟨Nat.zero_le _, Nat.zero_le _⟩ (fun r hr1 => ?_)
  obtain ⟨rfl, b_1⟩ := hr1
  exact W.iret (v := zi_n (F 0)) hx hb hr (fun t ht hW => ⟨_, rfl, ⟨rfl, by omega⟩, ht⟩) (fun q hq => nomatch hq) dX0_version_8

set_option maxHeartbeats 4000000 in
set_option maxRecDepth 100000 in
theorem c_Hd_scale (l : Launch) (D : va_G) (hh q a : Nat) (cA : ClassId) (F : Nat → Int) (n : Int) (hF : zi_By F) (hn : 0 ≤ n ∧ n ≤ 600) (h1 : 1 ≤ n) : Met l yX0_scale wsX0_scale ({ frames := 2, cells := 0, slots := 0, locals := 41 }) (va_Pc [.ref hh] (zp_Q D vwCl [(hh, .inr (2, [.ref q])), (q, .inr (3, [.ref a, .int (zi_n n)])), (a, .inl (cA, 600, .inl (zi_F F)))] [(cA, .int)])) (vp_Si (fun r => r = zi_n (zh_scale (F 0)) ∧ 2 ≤ (zh_scale (F 0)) ∧ (zh_scale (F 0)) ≤ 8)) 0 0 (fun _ => False) := by
  refine Met.ofW (cc := cX0_scale) (maxL := 2) (ret := (some .int)) (by decide) rfl ?_
  intro p e s m args below meth c s₁ B hml hv
  obtain ⟨rfl, hP, hK⟩ := hv
  have hx := B.exec
  have hb := B.bytes
  have hr := B.returns
  have hts := atoms_spec (ws := wsX0_scale) B.pre
  have hown : s.vm.findClass RX0 = some m.cls := findClass_of_methodNamed B.named
  have hlocks := B.notSynchronized
  have hl := lv_entry ([.ref hh]) (n := 2) (Nat.le_of_ble_eq_true rfl)
  rw [lg_entry_eq]
  generalize (lg_sl ([.ref hh]) ++ List.replicate (2 - (lg_sl ([.ref hh])).length) Slot.unset).toArray = ls at hl ⊢
  have hl : lv_has ls 2 [(0, .ref hh)] := hl
  refine lv_aload_n hx hb dX0_scale_0 rfl (lv_at hl 0 rfl) ?_
  refine zc_V (As := []) (rest := []) ⟨hx, hb, hml, hown, hts⟩ (c_Hd_version l D hh q a cA F n hF (by omega) (by omega)) (cwV 0 hts gX0_scale_X0_version rfl rfl rfl (by decide +kernel) ⟨(Nat.le_of_ble_eq_true rfl), (Nat.le_of_ble_eq_true rfl)⟩) hP hK [0, 1, 2] [0] rfl rfl (ci := 2) rfl rfl rfl rfl hl.1 rfl (Nat.le_of_ble_eq_true rfl) dX0_scale_1 ⟨Nat.zero_le _, Nat.zero_le _⟩ (fun r hr1 => ?_)
  obtain ⟨rfl, b_1⟩ := hr1
  refine lv_istore_n (lv' := [(1, .int (zi_n (F 0))), (0, .ref hh)]) hx hb dX0_scale_4 rfl hl (by decide) rfl (fun ls hl => ?_)
  refine lv_iload_n hx hb dX0_scale_5 rfl (lv_at hl 0 rfl) ?_
  refine zr_iconst hx hb dX0_scale_6 ?_
  refine zr_icmp_gt (tgt := 12) hx hb dX0_scale_7 (by decide) (by omega) (by omega) (fun c_2 => ?_) (fun c_2 => ?_)
  · refine lv_iload_n hx hb dX0_scale_12 rfl (lv_at hl 0 rfl) ?_
    refine zr_iconst hx hb dX0_scale_13 ?_
    refine zr_icmp_gt (tgt := 21) hx hb dX0_scale_14 (by decide) (by omega) (by omega) (fun c_3 => ?_) (fun c_3 => ?_)
    · refine zr_bipush hx hb dX0_scale_21 (by decide) ?_
      exact W.iret (v := zi_n 8) hx hb hr (fun t ht hW => ⟨_, rfl, zl_r (by unfold zh_scale; (repeat' split) <;> omega) (by omega), ht⟩) (fun q hq => nomatch hq) dX0_scale_23
    · refine zr_iconst hx hb dX0_scale_17 ?_
      refine lv_goto (tgt := 23) hx hb dX0_scale_18 (by decide) ?_
      exact W.iret (v := zi_n 4) hx hb hr (fun t ht hW => ⟨_, rfl, zl_r (by unfold zh_scale; (repeat' split) <;> omega) (by omega), ht⟩) (fun q hq => nomatch hq) dX0_scale_23
  · refine zr_iconst hx hb dX0_scale_10 ?_
    exact W.iret (v := zi_n 2) hx hb hr (fun t ht hW => ⟨_, rfl, zl_r (by unfold zh_scale; (repeat' split) <;> omega) (by omega), ht⟩) (fun q hq => nomatch hq) dX0_scale_11

theorem in_X0_length_X0 : ∀ w ∈ u_ws RX0 TX0 1, w ∈ wsX0_length := by decide +kernel
set_option maxHeartbeats 4000000 in
set_option maxRecDepth 100000 in
theorem c_Hd_length (l : Launch) (D : va_G) (hh q a : Nat) (cA : ClassId) (F : Nat → Int) (n : Int) (hF : zi_By F) (hn : 0 ≤ n ∧ n ≤ 600) (h64 : 64 ≤ n) : Met l yX0_length wsX0_length ({ frames := 3, cells := 0, slots := 0, locals := 62 }) (va_Pc [.ref hh] (zp_Q D vwCl [(hh, .inr (2, [.ref q])), (q, .inr (3, [.ref a, .int (zi_n n)])), (a, .inl (cA, 600, .inl (zi_F F)))] [(cA, .int)])) (vp_Si (fun r => r = zi_n (zh_len F n) ∧ 0 ≤ (zh_len F n) ∧ (zh_len F n) ≤ 524280)) 0 0 (fun _ => False) := by
  refine Met.ofW (cc := cX0_length) (maxL := 2) (ret := (some .int)) (by decide) rfl ?_
  intro p e s m args below meth c s₁ B hml hv
  obtain ⟨rfl, hP, hK⟩ := hv
  have hx := B.exec
  have hb := B.bytes
  have hr := B.returns
  have hts := atoms_spec (ws := wsX0_length) B.pre
  have hown : s.vm.findClass RX0 = some m.cls := findClass_of_methodNamed B.named
  have hlocks := B.notSynchronized
  have hl := lv_entry ([.ref hh]) (n := 2) (Nat.le_of_ble_eq_true rfl)
  rw [lg_entry_eq]
  generalize (lg_sl ([.ref hh]) ++ List.replicate (2 - (lg_sl ([.ref hh])).length) Slot.unset).toArray = ls at hl ⊢
  have hl : lv_has ls 2 [(0, .ref hh)] := hl
  have hm := zh_ts_b hF
  refine lv_aload_n hx hb dX0_length_0 rfl (lv_at hl 0 rfl) ?_
  refine va_get (D := D) (ci := 2) (v := .ref q) (C := RX0) (T := TX0) (N := 1) hx hb hts in_X0_length_X0 hown hK hP 0 rfl rfl 0 (by decide) (hts (.fieldLink RX0 9 "ZHeads$Head" "row" "LZHeads$Row;") (by decide +kernel)) (fun _ h9 => h9) rfl dX0_length_1 ?_
  refine zr_bipush hx hb dX0_length_4 (by decide) ?_
  refine zc_V (As := [.int (zi_n 26)]) (rest := []) ⟨hx, hb, hml, hown, hts⟩ (c_Row_two_k l D q a cA F n hF (by omega) 26 26 rfl (by omega)) (cwV 1 hts gX0_length_X2_two rfl rfl rfl (by decide +kernel) ⟨(Nat.le_of_ble_eq_true rfl), (Nat.le_of_ble_eq_true rfl)⟩) hP hK [1, 2] [0] rfl rfl (ci := 3) rfl rfl rfl rfl hl.1 rfl (Nat.le_of_ble_eq_true rfl) dX0_length_6 ⟨Nat.zero_le _, Nat.zero_le _⟩ (fun r hr1 => ?_)
  obtain ⟨rfl, b_1⟩ := hr1
  refine lv_istore_n (lv' := [(1, .int (zi_n (zh_t F 26))), (0, .ref hh)]) hx hb dX0_length_9 rfl hl (by decide) rfl (fun ls hl => ?_)
  refine lv_iload_n hx hb dX0_length_10 rfl (lv_at hl 0 rfl) ?_
  refine zr_if_ne (tgt := 32) hx hb dX0_length_11 (by decide) (by omega) (fun c_2 => ?_) (fun c_2 => ?_)
  · refine lv_iload_n hx hb dX0_length_32 rfl (lv_at hl 0 rfl) ?_
    refine lv_aload_n hx hb dX0_length_33 rfl (lv_at hl 1 rfl) ?_
    refine zc_V (As := []) (rest := [.int (zi_n (zh_t F 26))]) ⟨hx, hb, hml, hown, hts⟩ (c_Hd_scale l D hh q a cA F n hF (by omega) (by omega)) (cwV 0 hts gX0_length_X0_scale rfl rfl rfl (by decide +kernel) ⟨(Nat.le_of_ble_eq_true rfl), (Nat.le_of_ble_eq_true rfl)⟩) hP hK [0, 1, 2] [0] rfl rfl (ci := 2) rfl rfl rfl rfl hl.1 rfl (Nat.le_of_ble_eq_true rfl) dX0_length_34 ⟨Nat.zero_le _, Nat.zero_le _⟩ (fun r hr1 => ?_)
    obtain ⟨rfl, b_3⟩ := hr1
    refine zr_imul hx hb dX0_length_37 ?_
    exact W.iret (v := zi_n ((zh_t F 26) * (zh_scale (F 0)))) hx hb hr (fun t ht hW => ⟨_, rfl, zl_r (by unfold zh_len; (repeat' split) <;> omega) (by omega), ht⟩) (fun q hq => nomatch hq) dX0_length_38
  · refine lv_aload_n hx hb dX0_length_14 rfl (lv_at hl 1 rfl) ?_
    refine zc_V (As := []) (rest := []) ⟨hx, hb, hml, hown, hts⟩ (c_Hd_version l D hh q a cA F n hF (by omega) (by omega)) (cwV 0 hts gX0_length_X0_version rfl rfl rfl (by decide +kernel) ⟨(Nat.le_of_ble_eq_true rfl), (Nat.le_of_ble_eq_true rfl)⟩) hP hK [0, 1, 2] [0] rfl rfl (ci := 2) rfl rfl rfl rfl hl.1 rfl (Nat.le_of_ble_eq_true rfl) dX0_length_15 ⟨Nat.zero_le _, Nat.zero_le _⟩ (fun r hr1 => ?_)
    obtain ⟨rfl, b_4⟩ := hr1
    refine zr_iconst hx hb dX0_length_18 ?_
    refine zr_icmp_gt (tgt := 32) hx hb dX0_length_19 (by decide) (by omega) (by omega) (fun c_5 => ?_) (fun c_5 => ?_)
    · refine lv_iload_n hx hb dX0_length_32 rfl (lv_at hl 0 rfl) ?_
      refine lv_aload_n hx hb dX0_length_33 rfl (lv_at hl 1 rfl) ?_
      refine zc_V (As := []) (rest := [.int (zi_n (zh_t F 26))]) ⟨hx, hb, hml, hown, hts⟩ (c_Hd_scale l D hh q a cA F n hF (by omega) (by omega)) (cwV 0 hts gX0_length_X0_scale rfl rfl rfl (by decide +kernel) ⟨(Nat.le_of_ble_eq_true rfl), (Nat.le_of_ble_eq_true rfl)⟩) hP hK [0, 1, 2] [0] rfl rfl (ci := 2) rfl rfl rfl rfl hl.1 rfl (Nat.le_of_ble_eq_true rfl) dX0_length_34 ⟨Nat.zero_le _, Nat.zero_le _⟩ (fun r hr1 => ?_)
      obtain ⟨rfl, b_6⟩ := hr1
      refine zr_imul hx hb dX0_length_37 ?_
      exact W.iret (v := zi_n ((zh_t F 26) * (zh_scale (F 0)))) hx hb hr (fun t ht hW => ⟨_, rfl, zl_r (by unfold zh_len; (repeat' split) <;> omega) (by omega), ht⟩) (fun q hq => nomatch hq) dX0_length_38
    · refine lv_aload_n hx hb dX0_length_22 rfl (lv_at hl 1 rfl) ?_
      refine va_get (D := D) (ci := 2) (v := .ref q) (C := RX0) (T := TX0) (N := 1) hx hb hts in_X0_length_X0 hown hK hP 0 rfl rfl 0 (by decide) (hts (.fieldLink RX0 9 "ZHeads$Head" "row" "LZHeads$Row;") (by decide +kernel)) (fun _ h9 => h9) rfl dX0_length_23 ?_
      refine zc_V (As := []) (rest := []) ⟨hx, hb, hml, hown, hts⟩ (c_Row_count l D q a cA F n hF (by omega)) (cwV 0 hts gX0_length_X2_count rfl rfl rfl (by decide +kernel) ⟨(Nat.le_of_ble_eq_true rfl), (Nat.le_of_ble_eq_true rfl)⟩) hP hK [1, 2] [0] rfl rfl (ci := 3) rfl rfl rfl rfl hl.1 rfl (Nat.le_of_ble_eq_true rfl) dX0_length_26 ⟨Nat.zero_le _, Nat.zero_le _⟩ (fun r hr1 => ?_)
      obtain ⟨rfl, b_7⟩ := hr1
      refine lv_goto (tgt := 38) hx hb dX0_length_29 (by decide) ?_
      exact W.iret (v := zi_n n) hx hb hr (fun t ht hW => ⟨_, rfl, zl_r (by unfold zh_len; (repeat' split) <;> omega) (by omega), ht⟩) (fun q hq => nomatch hq) dX0_length_38

theorem in_X0_staticFrom_X0 : ∀ w ∈ u_ws RX0 TX0 1, w ∈ wsX0_staticFrom := by decide +kernel
set_option maxHeartbeats 4000000 in
set_option maxRecDepth 100000 in
theorem c_Hd_staticFrom (l : Launch) (D : va_G) (hh q a : Nat) (cA : ClassId) (F : Nat → Int) (n : Int) (hF : zi_By F) (hn : 0 ≤ n ∧ n ≤ 600) (h64 : 64 ≤ n) : Met l yX0_staticFrom wsX0_staticFrom ({ frames := 1, cells := 0, slots := 0, locals := 21 }) (va_Pc [.ref hh] (zp_Q D vwCl [(hh, .inr (2, [.ref q])), (q, .inr (3, [.ref a, .int (zi_n n)])), (a, .inl (cA, 600, .inl (zi_F F)))] [(cA, .int)])) (vp_Si (fun r => r = zi_n (zh_t F 14) ∧ 0 ≤ (zh_t F 14) ∧ (zh_t F 14) ≤ 65535)) 0 0 (fun _ => False) := by
  refine Met.ofW (cc := cX0_staticFrom) (maxL := 1) (ret := (some .int)) (by decide) rfl ?_
  intro p e s m args below meth c s₁ B hml hv
  obtain ⟨rfl, hP, hK⟩ := hv
  have hx := B.exec
  have hb := B.bytes
  have hr := B.returns
  have hts := atoms_spec (ws := wsX0_staticFrom) B.pre
  have hown : s.vm.findClass RX0 = some m.cls := findClass_of_methodNamed B.named
  have hlocks := B.notSynchronized
  have hl := lv_entry ([.ref hh]) (n := 1) (Nat.le_of_ble_eq_true rfl)
  rw [lg_entry_eq]
  generalize (lg_sl ([.ref hh]) ++ List.replicate (1 - (lg_sl ([.ref hh])).length) Slot.unset).toArray = ls at hl ⊢
  have hl : lv_has ls 1 [(0, .ref hh)] := hl
  refine lv_aload_n hx hb dX0_staticFrom_0 rfl (lv_at hl 0 rfl) ?_
  refine va_get (D := D) (ci := 2) (v := .ref q) (C := RX0) (T := TX0) (N := 1) hx hb hts in_X0_staticFrom_X0 hown hK hP 0 rfl rfl 0 (by decide) (hts (.fieldLink RX0 9 "ZHeads$Head" "row" "LZHeads$Row;") (by decide +kernel)) (fun _ h9 => h9) rfl dX0_staticFrom_1 ?_
  refine zr_bipush hx hb dX0_staticFrom_4 (by decide) ?_
  refine zc_V (As := [.int (zi_n 14)]) (rest := []) ⟨hx, hb, hml, hown, hts⟩ (c_Row_two_k l D q a cA F n hF (by omega) 14 14 rfl (by omega)) (cwV 1 hts gX0_staticFrom_X2_two rfl rfl rfl (by decide +kernel) ⟨(Nat.le_of_ble_eq_true rfl), (Nat.le_of_ble_eq_true rfl)⟩) hP hK [1, 2] [0] rfl rfl (ci := 3) rfl rfl rfl rfl hl.1 rfl (Nat.le_of_ble_eq_true rfl) dX0_staticFrom_6 ⟨Nat.zero_le _, Nat.zero_le _⟩ (fun r hr1 => ?_)
  obtain ⟨rfl, b_1⟩ := hr1
  exact W.iret (v := zi_n (zh_t F 14)) hx hb hr (fun t ht hW => ⟨_, rfl, ⟨rfl, by omega⟩, ht⟩) (fun q hq => nomatch hq) dX0_staticFrom_9

theorem in_X0_high_X0 : ∀ w ∈ u_ws RX0 TX0 1, w ∈ wsX0_high := by decide +kernel
set_option maxHeartbeats 4000000 in
set_option maxRecDepth 100000 in
theorem c_Hd_high (l : Launch) (D : va_G) (hh q a : Nat) (cA : ClassId) (F : Nat → Int) (n : Int) (hF : zi_By F) (hn : 0 ≤ n ∧ n ≤ 600) (h64 : 64 ≤ n) : Met l yX0_high wsX0_high ({ frames := 1, cells := 0, slots := 0, locals := 21 }) (va_Pc [.ref hh] (zp_Q D vwCl [(hh, .inr (2, [.ref q])), (q, .inr (3, [.ref a, .int (zi_n n)])), (a, .inl (cA, 600, .inl (zi_F F)))] [(cA, .int)])) (vp_Si (fun r => r = zi_n (zh_t F 4) ∧ 0 ≤ (zh_t F 4) ∧ (zh_t F 4) ≤ 65535)) 0 0 (fun _ => False) := by
  refine Met.ofW (cc := cX0_high) (maxL := 1) (ret := (some .int)) (by decide) rfl ?_
  intro p e s m args below meth c s₁ B hml hv
  obtain ⟨rfl, hP, hK⟩ := hv
  have hx := B.exec
  have hb := B.bytes
  have hr := B.returns
  have hts := atoms_spec (ws := wsX0_high) B.pre
  have hown : s.vm.findClass RX0 = some m.cls := findClass_of_methodNamed B.named
  have hlocks := B.notSynchronized
  have hl := lv_entry ([.ref hh]) (n := 1) (Nat.le_of_ble_eq_true rfl)
  rw [lg_entry_eq]
  generalize (lg_sl ([.ref hh]) ++ List.replicate (1 - (lg_sl ([.ref hh])).length) Slot.unset).toArray = ls at hl ⊢
  have hl : lv_has ls 1 [(0, .ref hh)] := hl
  refine lv_aload_n hx hb dX0_high_0 rfl (lv_at hl 0 rfl) ?_
  refine va_get (D := D) (ci := 2) (v := .ref q) (C := RX0) (T := TX0) (N := 1) hx hb hts in_X0_high_X0 hown hK hP 0 rfl rfl 0 (by decide) (hts (.fieldLink RX0 9 "ZHeads$Head" "row" "LZHeads$Row;") (by decide +kernel)) (fun _ h9 => h9) rfl dX0_high_1 ?_
  refine zr_iconst hx hb dX0_high_4 ?_
  refine zc_V (As := [.int (zi_n 4)]) (rest := []) ⟨hx, hb, hml, hown, hts⟩ (c_Row_two_k l D q a cA F n hF (by omega) 4 4 rfl (by omega)) (cwV 1 hts gX0_high_X2_two rfl rfl rfl (by decide +kernel) ⟨(Nat.le_of_ble_eq_true rfl), (Nat.le_of_ble_eq_true rfl)⟩) hP hK [1, 2] [0] rfl rfl (ci := 3) rfl rfl rfl rfl hl.1 rfl (Nat.le_of_ble_eq_true rfl) dX0_high_5 ⟨Nat.zero_le _, Nat.zero_le _⟩ (fun r hr1 => ?_)
  obtain ⟨rfl, b_1⟩ := hr1
  exact W.iret (v := zi_n (zh_t F 4)) hx hb hr (fun t ht hW => ⟨_, rfl, ⟨rfl, by omega⟩, ht⟩) (fun q hq => nomatch hq) dX0_high_8

theorem in_X0_globals_X0 : ∀ w ∈ u_ws RX0 TX0 1, w ∈ wsX0_globals := by decide +kernel
set_option maxHeartbeats 4000000 in
set_option maxRecDepth 100000 in
theorem c_Hd_globals (l : Launch) (D : va_G) (hh q a : Nat) (cA : ClassId) (F : Nat → Int) (n : Int) (hF : zi_By F) (hn : 0 ≤ n ∧ n ≤ 600) (h64 : 64 ≤ n) : Met l yX0_globals wsX0_globals ({ frames := 1, cells := 0, slots := 0, locals := 21 }) (va_Pc [.ref hh] (zp_Q D vwCl [(hh, .inr (2, [.ref q])), (q, .inr (3, [.ref a, .int (zi_n n)])), (a, .inl (cA, 600, .inl (zi_F F)))] [(cA, .int)])) (vp_Si (fun r => r = zi_n (zh_t F 12) ∧ 0 ≤ (zh_t F 12) ∧ (zh_t F 12) ≤ 65535)) 0 0 (fun _ => False) := by
  refine Met.ofW (cc := cX0_globals) (maxL := 1) (ret := (some .int)) (by decide) rfl ?_
  intro p e s m args below meth c s₁ B hml hv
  obtain ⟨rfl, hP, hK⟩ := hv
  have hx := B.exec
  have hb := B.bytes
  have hr := B.returns
  have hts := atoms_spec (ws := wsX0_globals) B.pre
  have hown : s.vm.findClass RX0 = some m.cls := findClass_of_methodNamed B.named
  have hlocks := B.notSynchronized
  have hl := lv_entry ([.ref hh]) (n := 1) (Nat.le_of_ble_eq_true rfl)
  rw [lg_entry_eq]
  generalize (lg_sl ([.ref hh]) ++ List.replicate (1 - (lg_sl ([.ref hh])).length) Slot.unset).toArray = ls at hl ⊢
  have hl : lv_has ls 1 [(0, .ref hh)] := hl
  refine lv_aload_n hx hb dX0_globals_0 rfl (lv_at hl 0 rfl) ?_
  refine va_get (D := D) (ci := 2) (v := .ref q) (C := RX0) (T := TX0) (N := 1) hx hb hts in_X0_globals_X0 hown hK hP 0 rfl rfl 0 (by decide) (hts (.fieldLink RX0 9 "ZHeads$Head" "row" "LZHeads$Row;") (by decide +kernel)) (fun _ h9 => h9) rfl dX0_globals_1 ?_
  refine zr_bipush hx hb dX0_globals_4 (by decide) ?_
  refine zc_V (As := [.int (zi_n 12)]) (rest := []) ⟨hx, hb, hml, hown, hts⟩ (c_Row_two_k l D q a cA F n hF (by omega) 12 12 rfl (by omega)) (cwV 1 hts gX0_globals_X2_two rfl rfl rfl (by decide +kernel) ⟨(Nat.le_of_ble_eq_true rfl), (Nat.le_of_ble_eq_true rfl)⟩) hP hK [1, 2] [0] rfl rfl (ci := 3) rfl rfl rfl rfl hl.1 rfl (Nat.le_of_ble_eq_true rfl) dX0_globals_6 ⟨Nat.zero_le _, Nat.zero_le _⟩ (fun r hr1 => ?_)
  obtain ⟨rfl, b_1⟩ := hr1
  exact W.iret (v := zi_n (zh_t F 12)) hx hb hr (fun t ht hW => ⟨_, rfl, ⟨rfl, by omega⟩, ht⟩) (fun q hq => nomatch hq) dX0_globals_9

theorem in_X0_objects_X0 : ∀ w ∈ u_ws RX0 TX0 1, w ∈ wsX0_objects := by decide +kernel
set_option maxHeartbeats 4000000 in
set_option maxRecDepth 100000 in
theorem c_Hd_objects (l : Launch) (D : va_G) (hh q a : Nat) (cA : ClassId) (F : Nat → Int) (n : Int) (hF : zi_By F) (hn : 0 ≤ n ∧ n ≤ 600) (h64 : 64 ≤ n) : Met l yX0_objects wsX0_objects ({ frames := 1, cells := 0, slots := 0, locals := 21 }) (va_Pc [.ref hh] (zp_Q D vwCl [(hh, .inr (2, [.ref q])), (q, .inr (3, [.ref a, .int (zi_n n)])), (a, .inl (cA, 600, .inl (zi_F F)))] [(cA, .int)])) (vp_Si (fun r => r = zi_n (zh_t F 10) ∧ 0 ≤ (zh_t F 10) ∧ (zh_t F 10) ≤ 65535)) 0 0 (fun _ => False) := by
  refine Met.ofW (cc := cX0_objects) (maxL := 1) (ret := (some .int)) (by decide) rfl ?_
  intro p e s m args below meth c s₁ B hml hv
  obtain ⟨rfl, hP, hK⟩ := hv
  have hx := B.exec
  have hb := B.bytes
  have hr := B.returns
  have hts := atoms_spec (ws := wsX0_objects) B.pre
  have hown : s.vm.findClass RX0 = some m.cls := findClass_of_methodNamed B.named
  have hlocks := B.notSynchronized
  have hl := lv_entry ([.ref hh]) (n := 1) (Nat.le_of_ble_eq_true rfl)
  rw [lg_entry_eq]
  generalize (lg_sl ([.ref hh]) ++ List.replicate (1 - (lg_sl ([.ref hh])).length) Slot.unset).toArray = ls at hl ⊢
  have hl : lv_has ls 1 [(0, .ref hh)] := hl
  refine lv_aload_n hx hb dX0_objects_0 rfl (lv_at hl 0 rfl) ?_
  refine va_get (D := D) (ci := 2) (v := .ref q) (C := RX0) (T := TX0) (N := 1) hx hb hts in_X0_objects_X0 hown hK hP 0 rfl rfl 0 (by decide) (hts (.fieldLink RX0 9 "ZHeads$Head" "row" "LZHeads$Row;") (by decide +kernel)) (fun _ h9 => h9) rfl dX0_objects_1 ?_
  refine zr_bipush hx hb dX0_objects_4 (by decide) ?_
  refine zc_V (As := [.int (zi_n 10)]) (rest := []) ⟨hx, hb, hml, hown, hts⟩ (c_Row_two_k l D q a cA F n hF (by omega) 10 10 rfl (by omega)) (cwV 1 hts gX0_objects_X2_two rfl rfl rfl (by decide +kernel) ⟨(Nat.le_of_ble_eq_true rfl), (Nat.le_of_ble_eq_true rfl)⟩) hP hK [1, 2] [0] rfl rfl (ci := 3) rfl rfl rfl rfl hl.1 rfl (Nat.le_of_ble_eq_true rfl) dX0_objects_6 ⟨Nat.zero_le _, Nat.zero_le _⟩ (fun r hr1 => ?_)
  obtain ⟨rfl, b_1⟩ := hr1
  exact W.iret (v := zi_n (zh_t F 10)) hx hb hr (fun t ht hW => ⟨_, rfl, ⟨rfl, by omega⟩, ht⟩) (fun q hq => nomatch hq) dX0_objects_9

theorem in_X0_words_X0 : ∀ w ∈ u_ws RX0 TX0 1, w ∈ wsX0_words := by decide +kernel
set_option maxHeartbeats 4000000 in
set_option maxRecDepth 100000 in
theorem c_Hd_words (l : Launch) (D : va_G) (hh q a : Nat) (cA : ClassId) (F : Nat → Int) (n : Int) (hF : zi_By F) (hn : 0 ≤ n ∧ n ≤ 600) (h64 : 64 ≤ n) : Met l yX0_words wsX0_words ({ frames := 1, cells := 0, slots := 0, locals := 21 }) (va_Pc [.ref hh] (zp_Q D vwCl [(hh, .inr (2, [.ref q])), (q, .inr (3, [.ref a, .int (zi_n n)])), (a, .inl (cA, 600, .inl (zi_F F)))] [(cA, .int)])) (vp_Si (fun r => r = zi_n (zh_t F 8) ∧ 0 ≤ (zh_t F 8) ∧ (zh_t F 8) ≤ 65535)) 0 0 (fun _ => False) := by
  refine Met.ofW (cc := cX0_words) (maxL := 1) (ret := (some .int)) (by decide) rfl ?_
  intro p e s m args below meth c s₁ B hml hv
  obtain ⟨rfl, hP, hK⟩ := hv
  have hx := B.exec
  have hb := B.bytes
  have hr := B.returns
  have hts := atoms_spec (ws := wsX0_words) B.pre
  have hown : s.vm.findClass RX0 = some m.cls := findClass_of_methodNamed B.named
  have hlocks := B.notSynchronized
  have hl := lv_entry ([.ref hh]) (n := 1) (Nat.le_of_ble_eq_true rfl)
  rw [lg_entry_eq]
  generalize (lg_sl ([.ref hh]) ++ List.replicate (1 - (lg_sl ([.ref hh])).length) Slot.unset).toArray = ls at hl ⊢
  have hl : lv_has ls 1 [(0, .ref hh)] := hl
  refine lv_aload_n hx hb dX0_words_0 rfl (lv_at hl 0 rfl) ?_
  refine va_get (D := D) (ci := 2) (v := .ref q) (C := RX0) (T := TX0) (N := 1) hx hb hts in_X0_words_X0 hown hK hP 0 rfl rfl 0 (by decide) (hts (.fieldLink RX0 9 "ZHeads$Head" "row" "LZHeads$Row;") (by decide +kernel)) (fun _ h9 => h9) rfl dX0_words_1 ?_
  refine zr_bipush hx hb dX0_words_4 (by decide) ?_
  refine zc_V (As := [.int (zi_n 8)]) (rest := []) ⟨hx, hb, hml, hown, hts⟩ (c_Row_two_k l D q a cA F n hF (by omega) 8 8 rfl (by omega)) (cwV 1 hts gX0_words_X2_two rfl rfl rfl (by decide +kernel) ⟨(Nat.le_of_ble_eq_true rfl), (Nat.le_of_ble_eq_true rfl)⟩) hP hK [1, 2] [0] rfl rfl (ci := 3) rfl rfl rfl rfl hl.1 rfl (Nat.le_of_ble_eq_true rfl) dX0_words_6 ⟨Nat.zero_le _, Nat.zero_le _⟩ (fun r hr1 => ?_)
  obtain ⟨rfl, b_1⟩ := hr1
  exact W.iret (v := zi_n (zh_t F 8)) hx hb hr (fun t ht hW => ⟨_, rfl, ⟨rfl, by omega⟩, ht⟩) (fun q hq => nomatch hq) dX0_words_9

theorem in_X0_signs_X0 : ∀ w ∈ u_ws RX0 TX0 1, w ∈ wsX0_signs := by decide +kernel
set_option maxHeartbeats 4000000 in
set_option maxRecDepth 100000 in
theorem c_Hd_signs (l : Launch) (D : va_G) (hh q a : Nat) (cA : ClassId) (F : Nat → Int) (n : Int) (hF : zi_By F) (hn : 0 ≤ n ∧ n ≤ 600) (h64 : 64 ≤ n) : Met l yX0_signs wsX0_signs ({ frames := 2, cells := 0, slots := 0, locals := 41 }) (va_Pc [.ref hh] (zp_Q D vwCl [(hh, .inr (2, [.ref q])), (q, .inr (3, [.ref a, .int (zi_n n)])), (a, .inl (cA, 600, .inl (zi_F F)))] [(cA, .int)])) (vp_Si (fun r => r = zi_n (zh_sg F n) ∧ -1 ≤ (zh_sg F n) ∧ (zh_sg F n) ≤ 255)) 0 0 (fun _ => False) := by
  refine Met.ofW (cc := cX0_signs) (maxL := 1) (ret := (some .int)) (by decide) rfl ?_
  intro p e s m args below meth c s₁ B hml hv
  obtain ⟨rfl, hP, hK⟩ := hv
  have hx := B.exec
  have hb := B.bytes
  have hr := B.returns
  have hts := atoms_spec (ws := wsX0_signs) B.pre
  have hown : s.vm.findClass RX0 = some m.cls := findClass_of_methodNamed B.named
  have hlocks := B.notSynchronized
  have hl := lv_entry ([.ref hh]) (n := 1) (Nat.le_of_ble_eq_true rfl)
  rw [lg_entry_eq]
  generalize (lg_sl ([.ref hh]) ++ List.replicate (1 - (lg_sl ([.ref hh])).length) Slot.unset).toArray = ls at hl ⊢
  have hl : lv_has ls 1 [(0, .ref hh)] := hl
  refine lv_aload_n hx hb dX0_signs_0 rfl (lv_at hl 0 rfl) ?_
  refine va_get (D := D) (ci := 2) (v := .ref q) (C := RX0) (T := TX0) (N := 1) hx hb hts in_X0_signs_X0 hown hK hP 0 rfl rfl 0 (by decide) (hts (.fieldLink RX0 9 "ZHeads$Head" "row" "LZHeads$Row;") (by decide +kernel)) (fun _ h9 => h9) rfl dX0_signs_1 ?_
  refine lv_aload_n hx hb dX0_signs_4 rfl (lv_at hl 0 rfl) ?_
  refine zc_V (As := []) (rest := [.ref q]) ⟨hx, hb, hml, hown, hts⟩ (c_Hd_words l D hh q a cA F n hF (by omega) (by omega)) (cwV 0 hts gX0_signs_X0_words rfl rfl rfl (by decide +kernel) ⟨(Nat.le_of_ble_eq_true rfl), (Nat.le_of_ble_eq_true rfl)⟩) hP hK [0, 1, 2] [0] rfl rfl (ci := 2) rfl rfl rfl rfl hl.1 rfl (Nat.le_of_ble_eq_true rfl) dX0_signs_5 ⟨Nat.zero_le _, Nat.zero_le _⟩ (fun r hr1 => ?_)
  obtain ⟨rfl, b_1⟩ := hr1
  refine zc_V (As := [.int (zi_n (zh_t F 8))]) (rest := []) ⟨hx, hb, hml, hown, hts⟩ (c_Row_at l D q a cA F n hF (by omega) (zh_t F 8) (by omega)) (cwV 1 hts gX0_signs_X2_at rfl rfl rfl (by decide +kernel) ⟨(Nat.le_of_ble_eq_true rfl), (Nat.le_of_ble_eq_true rfl)⟩) hP hK [1, 2] [0] rfl rfl (ci := 3) rfl rfl rfl rfl hl.1 rfl (Nat.le_of_ble_eq_true rfl) dX0_signs_8 ⟨Nat.zero_le _, Nat.zero_le _⟩ (fun r hr1 => ?_)
  obtain ⟨rfl, b_2⟩ := hr1
  exact W.iret (v := zi_n (zh_at F n (zh_t F 8))) hx hb hr (fun t ht hW => ⟨_, rfl, zl_r (by rfl) (by omega), ht⟩) (fun q hq => nomatch hq) dX0_signs_11

theorem in_X0_entryBytes_X0 : ∀ w ∈ u_ws RX0 TX0 1, w ∈ wsX0_entryBytes := by decide +kernel
set_option maxHeartbeats 4000000 in
set_option maxRecDepth 100000 in
theorem c_Hd_entryBytes (l : Launch) (D : va_G) (hh q a : Nat) (cA : ClassId) (F : Nat → Int) (n : Int) (hF : zi_By F) (hn : 0 ≤ n ∧ n ≤ 600) (h64 : 64 ≤ n) : Met l yX0_entryBytes wsX0_entryBytes ({ frames := 3, cells := 0, slots := 0, locals := 61 }) (va_Pc [.ref hh] (zp_Q D vwCl [(hh, .inr (2, [.ref q])), (q, .inr (3, [.ref a, .int (zi_n n)])), (a, .inl (cA, 600, .inl (zi_F F)))] [(cA, .int)])) (vp_Si (fun r => r = zi_n (zh_eb F n) ∧ -1 ≤ (zh_eb F n) ∧ (zh_eb F n) ≤ 255)) 0 0 (fun _ => False) := by
  refine Met.ofW (cc := cX0_entryBytes) (maxL := 1) (ret := (some .int)) (by decide) rfl ?_
  intro p e s m args below meth c s₁ B hml hv
  obtain ⟨rfl, hP, hK⟩ := hv
  have hx := B.exec
  have hb := B.bytes
  have hr := B.returns
  have hts := atoms_spec (ws := wsX0_entryBytes) B.pre
  have hown : s.vm.findClass RX0 = some m.cls := findClass_of_methodNamed B.named
  have hlocks := B.notSynchronized
  have hl := lv_entry ([.ref hh]) (n := 1) (Nat.le_of_ble_eq_true rfl)
  rw [lg_entry_eq]
  generalize (lg_sl ([.ref hh]) ++ List.replicate (1 - (lg_sl ([.ref hh])).length) Slot.unset).toArray = ls at hl ⊢
  have hl : lv_has ls 1 [(0, .ref hh)] := hl
  refine lv_aload_n hx hb dX0_entryBytes_0 rfl (lv_at hl 0 rfl) ?_
  refine va_get (D := D) (ci := 2) (v := .ref q) (C := RX0) (T := TX0) (N := 1) hx hb hts in_X0_entryBytes_X0 hown hK hP 0 rfl rfl 0 (by decide) (hts (.fieldLink RX0 9 "ZHeads$Head" "row" "LZHeads$Row;") (by decide +kernel)) (fun _ h9 => h9) rfl dX0_entryBytes_1 ?_
  refine lv_aload_n hx hb dX0_entryBytes_4 rfl (lv_at hl 0 rfl) ?_
  refine zc_V (As := []) (rest := [.ref q]) ⟨hx, hb, hml, hown, hts⟩ (c_Hd_words l D hh q a cA F n hF (by omega) (by omega)) (cwV 0 hts gX0_entryBytes_X0_words rfl rfl rfl (by decide +kernel) ⟨(Nat.le_of_ble_eq_true rfl), (Nat.le_of_ble_eq_true rfl)⟩) hP hK [0, 1, 2] [0] rfl rfl (ci := 2) rfl rfl rfl rfl hl.1 rfl (Nat.le_of_ble_eq_true rfl) dX0_entryBytes_5 ⟨Nat.zero_le _, Nat.zero_le _⟩ (fun r hr1 => ?_)
  obtain ⟨rfl, b_1⟩ := hr1
  refine zr_iconst hx hb dX0_entryBytes_8 ?_
  refine zr_iadd hx hb dX0_entryBytes_9 ?_
  refine lv_aload_n hx hb dX0_entryBytes_10 rfl (lv_at hl 0 rfl) ?_
  refine zc_V (As := []) (rest := [.int (zi_n ((zh_t F 8) + 1)), .ref q]) ⟨hx, hb, hml, hown, hts⟩ (c_Hd_signs l D hh q a cA F n hF (by omega) (by omega)) (cwV 0 hts gX0_entryBytes_X0_signs rfl rfl rfl (by decide +kernel) ⟨(Nat.le_of_ble_eq_true rfl), (Nat.le_of_ble_eq_true rfl)⟩) hP hK [0, 1, 2] [0] rfl rfl (ci := 2) rfl rfl rfl rfl hl.1 rfl (Nat.le_of_ble_eq_true rfl) dX0_entryBytes_11 ⟨Nat.zero_le _, Nat.zero_le _⟩ (fun r hr1 => ?_)
  obtain ⟨rfl, b_2⟩ := hr1
  refine zr_iadd hx hb dX0_entryBytes_14 ?_
  refine zc_V (As := [.int (zi_n (((zh_t F 8) + 1) + (zh_sg F n)))]) (rest := []) ⟨hx, hb, hml, hown, hts⟩ (c_Row_at l D q a cA F n hF (by omega) (((zh_t F 8) + 1) + (zh_sg F n)) (by omega)) (cwV 1 hts gX0_entryBytes_X2_at rfl rfl rfl (by decide +kernel) ⟨(Nat.le_of_ble_eq_true rfl), (Nat.le_of_ble_eq_true rfl)⟩) hP hK [1, 2] [0] rfl rfl (ci := 3) rfl rfl rfl rfl hl.1 rfl (Nat.le_of_ble_eq_true rfl) dX0_entryBytes_15 ⟨Nat.zero_le _, Nat.zero_le _⟩ (fun r hr1 => ?_)
  obtain ⟨rfl, b_3⟩ := hr1
  exact W.iret (v := zi_n (zh_at F n (((zh_t F 8) + 1) + (zh_sg F n)))) hx hb hr (fun t ht hW => ⟨_, rfl, zl_r (by rfl) (by omega), ht⟩) (fun q hq => nomatch hq) dX0_entryBytes_18

theorem in_X0_entries_X0 : ∀ w ∈ u_ws RX0 TX0 1, w ∈ wsX0_entries := by decide +kernel
set_option maxHeartbeats 4000000 in
set_option maxRecDepth 100000 in
theorem c_Hd_entries (l : Launch) (D : va_G) (hh q a : Nat) (cA : ClassId) (F : Nat → Int) (n : Int) (hF : zi_By F) (hn : 0 ≤ n ∧ n ≤ 600) (h64 : 64 ≤ n) : Met l yX0_entries wsX0_entries ({ frames := 3, cells := 0, slots := 0, locals := 61 }) (va_Pc [.ref hh] (zp_Q D vwCl [(hh, .inr (2, [.ref q])), (q, .inr (3, [.ref a, .int (zi_n n)])), (a, .inl (cA, 600, .inl (zi_F F)))] [(cA, .int)])) (vp_Si (fun r => r = zi_n (zh_en F n) ∧ -32768 ≤ (zh_en F n) ∧ (zh_en F n) ≤ 32767)) 0 0 (fun _ => False) := by
  refine Met.ofW (cc := cX0_entries) (maxL := 1) (ret := (some .int)) (by decide) rfl ?_
  intro p e s m args below meth c s₁ B hml hv
  obtain ⟨rfl, hP, hK⟩ := hv
  have hx := B.exec
  have hb := B.bytes
  have hr := B.returns
  have hts := atoms_spec (ws := wsX0_entries) B.pre
  have hown : s.vm.findClass RX0 = some m.cls := findClass_of_methodNamed B.named
  have hlocks := B.notSynchronized
  have hl := lv_entry ([.ref hh]) (n := 1) (Nat.le_of_ble_eq_true rfl)
  rw [lg_entry_eq]
  generalize (lg_sl ([.ref hh]) ++ List.replicate (1 - (lg_sl ([.ref hh])).length) Slot.unset).toArray = ls at hl ⊢
  have hl : lv_has ls 1 [(0, .ref hh)] := hl
  refine lv_aload_n hx hb dX0_entries_0 rfl (lv_at hl 0 rfl) ?_
  refine va_get (D := D) (ci := 2) (v := .ref q) (C := RX0) (T := TX0) (N := 1) hx hb hts in_X0_entries_X0 hown hK hP 0 rfl rfl 0 (by decide) (hts (.fieldLink RX0 9 "ZHeads$Head" "row" "LZHeads$Row;") (by decide +kernel)) (fun _ h9 => h9) rfl dX0_entries_1 ?_
  refine lv_aload_n hx hb dX0_entries_4 rfl (lv_at hl 0 rfl) ?_
  refine zc_V (As := []) (rest := [.ref q]) ⟨hx, hb, hml, hown, hts⟩ (c_Hd_words l D hh q a cA F n hF (by omega) (by omega)) (cwV 0 hts gX0_entries_X0_words rfl rfl rfl (by decide +kernel) ⟨(Nat.le_of_ble_eq_true rfl), (Nat.le_of_ble_eq_true rfl)⟩) hP hK [0, 1, 2] [0] rfl rfl (ci := 2) rfl rfl rfl rfl hl.1 rfl (Nat.le_of_ble_eq_true rfl) dX0_entries_5 ⟨Nat.zero_le _, Nat.zero_le _⟩ (fun r hr1 => ?_)
  obtain ⟨rfl, b_1⟩ := hr1
  refine zr_iconst hx hb dX0_entries_8 ?_
  refine zr_iadd hx hb dX0_entries_9 ?_
  refine lv_aload_n hx hb dX0_entries_10 rfl (lv_at hl 0 rfl) ?_
  refine zc_V (As := []) (rest := [.int (zi_n ((zh_t F 8) + 2)), .ref q]) ⟨hx, hb, hml, hown, hts⟩ (c_Hd_signs l D hh q a cA F n hF (by omega) (by omega)) (cwV 0 hts gX0_entries_X0_signs rfl rfl rfl (by decide +kernel) ⟨(Nat.le_of_ble_eq_true rfl), (Nat.le_of_ble_eq_true rfl)⟩) hP hK [0, 1, 2] [0] rfl rfl (ci := 2) rfl rfl rfl rfl hl.1 rfl (Nat.le_of_ble_eq_true rfl) dX0_entries_11 ⟨Nat.zero_le _, Nat.zero_le _⟩ (fun r hr1 => ?_)
  obtain ⟨rfl, b_2⟩ := hr1
  refine zr_iadd hx hb dX0_entries_14 ?_
  refine zc_V (As := [.int (zi_n (((zh_t F 8) + 2) + (zh_sg F n)))]) (rest := []) ⟨hx, hb, hml, hown, hts⟩ (c_Row_two l D q a cA F n hF (by omega) (((zh_t F 8) + 2) + (zh_sg F n)) (by omega)) (cwV 1 hts gX0_entries_X2_two rfl rfl rfl (by decide +kernel) ⟨(Nat.le_of_ble_eq_true rfl), (Nat.le_of_ble_eq_true rfl)⟩) hP hK [1, 2] [0] rfl rfl (ci := 3) rfl rfl rfl rfl hl.1 rfl (Nat.le_of_ble_eq_true rfl) dX0_entries_15 ⟨Nat.zero_le _, Nat.zero_le _⟩ (fun r hr1 => ?_)
  obtain ⟨rfl, b_3⟩ := hr1
  refine zr_i2s hx hb dX0_entries_18 (by omega) ?_
  exact W.iret (v := zi_n (zi_sh (zh_two F n (((zh_t F 8) + 2) + (zh_sg F n))))) hx hb hr (fun t ht hW => ⟨_, rfl, zl_r (by rfl) (zi_sh_b _), ht⟩) (fun q hq => nomatch hq) dX0_entries_19

theorem in_X0_shorts_X0 : ∀ w ∈ u_ws RX0 TX0 1, w ∈ wsX0_shorts := by decide +kernel
set_option maxHeartbeats 4000000 in
set_option maxRecDepth 100000 in
theorem c_Hd_shorts (l : Launch) (D : va_G) (hh q a : Nat) (cA : ClassId) (F : Nat → Int) (n : Int) (hF : zi_By F) (hn : 0 ≤ n ∧ n ≤ 600) (h64 : 64 ≤ n) : Met l yX0_shorts wsX0_shorts ({ frames := 2, cells := 0, slots := 0, locals := 41 }) (va_Pc [.ref hh] (zp_Q D vwCl [(hh, .inr (2, [.ref q])), (q, .inr (3, [.ref a, .int (zi_n n)])), (a, .inl (cA, 600, .inl (zi_F F)))] [(cA, .int)])) (vp_Si (fun r => r = zi_n (zh_shorts F) ∧ 0 ≤ (zh_shorts F) ∧ (zh_shorts F) ≤ 65535)) 0 0 (fun _ => False) := by
  refine Met.ofW (cc := cX0_shorts) (maxL := 1) (ret := (some .int)) (by decide) rfl ?_
  intro p e s m args below meth c s₁ B hml hv
  obtain ⟨rfl, hP, hK⟩ := hv
  have hx := B.exec
  have hb := B.bytes
  have hr := B.returns
  have hts := atoms_spec (ws := wsX0_shorts) B.pre
  have hown : s.vm.findClass RX0 = some m.cls := findClass_of_methodNamed B.named
  have hlocks := B.notSynchronized
  have hl := lv_entry ([.ref hh]) (n := 1) (Nat.le_of_ble_eq_true rfl)
  rw [lg_entry_eq]
  generalize (lg_sl ([.ref hh]) ++ List.replicate (1 - (lg_sl ([.ref hh])).length) Slot.unset).toArray = ls at hl ⊢
  have hl : lv_has ls 1 [(0, .ref hh)] := hl
  refine lv_aload_n hx hb dX0_shorts_0 rfl (lv_at hl 0 rfl) ?_
  refine zc_V (As := []) (rest := []) ⟨hx, hb, hml, hown, hts⟩ (c_Hd_version l D hh q a cA F n hF (by omega) (by omega)) (cwV 0 hts gX0_shorts_X0_version rfl rfl rfl (by decide +kernel) ⟨(Nat.le_of_ble_eq_true rfl), (Nat.le_of_ble_eq_true rfl)⟩) hP hK [0, 1, 2] [0] rfl rfl (ci := 2) rfl rfl rfl rfl hl.1 rfl (Nat.le_of_ble_eq_true rfl) dX0_shorts_1 ⟨Nat.zero_le _, Nat.zero_le _⟩ (fun r hr1 => ?_)
  obtain ⟨rfl, b_1⟩ := hr1
  refine zr_iconst hx hb dX0_shorts_4 ?_
  refine zr_icmp_ne (tgt := 12) hx hb dX0_shorts_5 (by decide) (by omega) (by omega) (fun c_2 => ?_) (fun c_2 => ?_)
  · refine lv_aload_n hx hb dX0_shorts_12 rfl (lv_at hl 0 rfl) ?_
    refine va_get (D := D) (ci := 2) (v := .ref q) (C := RX0) (T := TX0) (N := 1) hx hb hts in_X0_shorts_X0 hown hK hP 0 rfl rfl 0 (by decide) (hts (.fieldLink RX0 9 "ZHeads$Head" "row" "LZHeads$Row;") (by decide +kernel)) (fun _ h9 => h9) rfl dX0_shorts_13 ?_
    refine zr_bipush hx hb dX0_shorts_16 (by decide) ?_
    refine zc_V (As := [.int (zi_n 24)]) (rest := []) ⟨hx, hb, hml, hown, hts⟩ (c_Row_two_k l D q a cA F n hF (by omega) 24 24 rfl (by omega)) (cwV 1 hts gX0_shorts_X2_two rfl rfl rfl (by decide +kernel) ⟨(Nat.le_of_ble_eq_true rfl), (Nat.le_of_ble_eq_true rfl)⟩) hP hK [1, 2] [0] rfl rfl (ci := 3) rfl rfl rfl rfl hl.1 rfl (Nat.le_of_ble_eq_true rfl) dX0_shorts_18 ⟨Nat.zero_le _, Nat.zero_le _⟩ (fun r hr1 => ?_)
    obtain ⟨rfl, b_3⟩ := hr1
    exact W.iret (v := zi_n (zh_t F 24)) hx hb hr (fun t ht hW => ⟨_, rfl, zl_r (by unfold zh_shorts; (repeat' split) <;> omega) (by omega), ht⟩) (fun q hq => nomatch hq) dX0_shorts_21
  · refine zr_iconst hx hb dX0_shorts_8 ?_
    refine lv_goto (tgt := 21) hx hb dX0_shorts_9 (by decide) ?_
    exact W.iret (v := zi_n 0) hx hb hr (fun t ht hW => ⟨_, rfl, zl_r (by unfold zh_shorts; (repeat' split) <;> omega) (by omega), ht⟩) (fun q hq => nomatch hq) dX0_shorts_21

theorem in_X0_start_X0 : ∀ w ∈ u_ws RX0 TX0 1, w ∈ wsX0_start := by decide +kernel
set_option maxHeartbeats 4000000 in
set_option maxRecDepth 100000 in
theorem c_Hd_start (l : Launch) (D : va_G) (hh q a : Nat) (cA : ClassId) (F : Nat → Int) (n : Int) (hF : zi_By F) (hn : 0 ≤ n ∧ n ≤ 600) (h64 : 64 ≤ n) : Met l yX0_start wsX0_start ({ frames := 2, cells := 0, slots := 0, locals := 41 }) (va_Pc [.ref hh] (zp_Q D vwCl [(hh, .inr (2, [.ref q])), (q, .inr (3, [.ref a, .int (zi_n n)])), (a, .inl (cA, 600, .inl (zi_F F)))] [(cA, .int)])) (vp_Si (fun r => r = zi_n (zh_start F) ∧ 0 ≤ (zh_start F) ∧ (zh_start F) ≤ 786420)) 0 0 (fun _ => False) := by
  refine Met.ofW (cc := cX0_start) (maxL := 1) (ret := (some .int)) (by decide) rfl ?_
  intro p e s m args below meth c s₁ B hml hv
  obtain ⟨rfl, hP, hK⟩ := hv
  have hx := B.exec
  have hb := B.bytes
  have hr := B.returns
  have hts := atoms_spec (ws := wsX0_start) B.pre
  have hown : s.vm.findClass RX0 = some m.cls := findClass_of_methodNamed B.named
  have hlocks := B.notSynchronized
  have hl := lv_entry ([.ref hh]) (n := 1) (Nat.le_of_ble_eq_true rfl)
  rw [lg_entry_eq]
  generalize (lg_sl ([.ref hh]) ++ List.replicate (1 - (lg_sl ([.ref hh])).length) Slot.unset).toArray = ls at hl ⊢
  have hl : lv_has ls 1 [(0, .ref hh)] := hl
  refine lv_aload_n hx hb dX0_start_0 rfl (lv_at hl 0 rfl) ?_
  refine zc_V (As := []) (rest := []) ⟨hx, hb, hml, hown, hts⟩ (c_Hd_version l D hh q a cA F n hF (by omega) (by omega)) (cwV 0 hts gX0_start_X0_version rfl rfl rfl (by decide +kernel) ⟨(Nat.le_of_ble_eq_true rfl), (Nat.le_of_ble_eq_true rfl)⟩) hP hK [0, 1, 2] [0] rfl rfl (ci := 2) rfl rfl rfl rfl hl.1 rfl (Nat.le_of_ble_eq_true rfl) dX0_start_1 ⟨Nat.zero_le _, Nat.zero_le _⟩ (fun r hr1 => ?_)
  obtain ⟨rfl, b_1⟩ := hr1
  refine zr_bipush hx hb dX0_start_4 (by decide) ?_
  refine zr_icmp_ne (tgt := 36) hx hb dX0_start_6 (by decide) (by omega) (by omega) (fun c_2 => ?_) (fun c_2 => ?_)
  · refine lv_aload_n hx hb dX0_start_36 rfl (lv_at hl 0 rfl) ?_
    refine va_get (D := D) (ci := 2) (v := .ref q) (C := RX0) (T := TX0) (N := 1) hx hb hts in_X0_start_X0 hown hK hP 0 rfl rfl 0 (by decide) (hts (.fieldLink RX0 9 "ZHeads$Head" "row" "LZHeads$Row;") (by decide +kernel)) (fun _ h9 => h9) rfl dX0_start_37 ?_
    refine zr_bipush hx hb dX0_start_40 (by decide) ?_
    refine zc_V (As := [.int (zi_n 6)]) (rest := []) ⟨hx, hb, hml, hown, hts⟩ (c_Row_two_k l D q a cA F n hF (by omega) 6 6 rfl (by omega)) (cwV 1 hts gX0_start_X2_two rfl rfl rfl (by decide +kernel) ⟨(Nat.le_of_ble_eq_true rfl), (Nat.le_of_ble_eq_true rfl)⟩) hP hK [1, 2] [0] rfl rfl (ci := 3) rfl rfl rfl rfl hl.1 rfl (Nat.le_of_ble_eq_true rfl) dX0_start_42 ⟨Nat.zero_le _, Nat.zero_le _⟩ (fun r hr1 => ?_)
    obtain ⟨rfl, b_3⟩ := hr1
    exact W.iret (v := zi_n (zh_t F 6)) hx hb hr (fun t ht hW => ⟨_, rfl, zl_r (by unfold zh_start; (repeat' split) <;> omega) (by omega), ht⟩) (fun q hq => nomatch hq) dX0_start_45
  · refine zr_iconst hx hb dX0_start_9 ?_
    refine lv_aload_n hx hb dX0_start_10 rfl (lv_at hl 0 rfl) ?_
    refine va_get (D := D) (ci := 2) (v := .ref q) (C := RX0) (T := TX0) (N := 1) hx hb hts in_X0_start_X0 hown hK hP 0 rfl rfl 0 (by decide) (hts (.fieldLink RX0 9 "ZHeads$Head" "row" "LZHeads$Row;") (by decide +kernel)) (fun _ h9 => h9) rfl dX0_start_11 ?_
    refine zr_bipush hx hb dX0_start_14 (by decide) ?_
    refine zc_V (As := [.int (zi_n 6)]) (rest := [.int (zi_n 4)]) ⟨hx, hb, hml, hown, hts⟩ (c_Row_two_k l D q a cA F n hF (by omega) 6 6 rfl (by omega)) (cwV 1 hts gX0_start_X2_two rfl rfl rfl (by decide +kernel) ⟨(Nat.le_of_ble_eq_true rfl), (Nat.le_of_ble_eq_true rfl)⟩) hP hK [1, 2] [0] rfl rfl (ci := 3) rfl rfl rfl rfl hl.1 rfl (Nat.le_of_ble_eq_true rfl) dX0_start_16 ⟨Nat.zero_le _, Nat.zero_le _⟩ (fun r hr1 => ?_)
    obtain ⟨rfl, b_4⟩ := hr1
    refine zr_imul hx hb dX0_start_19 ?_
    refine zr_bipush hx hb dX0_start_20 (by decide) ?_
    refine lv_aload_n hx hb dX0_start_22 rfl (lv_at hl 0 rfl) ?_
    refine va_get (D := D) (ci := 2) (v := .ref q) (C := RX0) (T := TX0) (N := 1) hx hb hts in_X0_start_X0 hown hK hP 0 rfl rfl 0 (by decide) (hts (.fieldLink RX0 9 "ZHeads$Head" "row" "LZHeads$Row;") (by decide +kernel)) (fun _ h9 => h9) rfl dX0_start_23 ?_
    refine zr_bipush hx hb dX0_start_26 (by decide) ?_
    refine zc_V (As := [.int (zi_n 40)]) (rest := [.int (zi_n 8), .int (zi_n (4 * (zh_t F 6)))]) ⟨hx, hb, hml, hown, hts⟩ (c_Row_two_k l D q a cA F n hF (by omega) 40 40 rfl (by omega)) (cwV 1 hts gX0_start_X2_two rfl rfl rfl (by decide +kernel) ⟨(Nat.le_of_ble_eq_true rfl), (Nat.le_of_ble_eq_true rfl)⟩) hP hK [1, 2] [0] rfl rfl (ci := 3) rfl rfl rfl rfl hl.1 rfl (Nat.le_of_ble_eq_true rfl) dX0_start_28 ⟨Nat.zero_le _, Nat.zero_le _⟩ (fun r hr1 => ?_)
    obtain ⟨rfl, b_5⟩ := hr1
    refine zr_imul hx hb dX0_start_31 ?_
    refine zr_iadd hx hb dX0_start_32 ?_
    refine lv_goto (tgt := 45) hx hb dX0_start_33 (by decide) ?_
    exact W.iret (v := zi_n ((4 * (zh_t F 6)) + (8 * (zh_t F 40)))) hx hb hr (fun t ht hW => ⟨_, rfl, zl_r (by unfold zh_start; (repeat' split) <;> omega) (by omega), ht⟩) (fun q hq => nomatch hq) dX0_start_45

theorem in_X0_letters_X0 : ∀ w ∈ u_ws RX0 TX0 1, w ∈ wsX0_letters := by decide +kernel
set_option maxHeartbeats 4000000 in
set_option maxRecDepth 100000 in
theorem c_Hd_letters (l : Launch) (D : va_G) (hh q a : Nat) (cA : ClassId) (F : Nat → Int) (n : Int) (hF : zi_By F) (hn : 0 ≤ n ∧ n ≤ 600) (h64 : 64 ≤ n) : Met l yX0_letters wsX0_letters ({ frames := 2, cells := 0, slots := 0, locals := 41 }) (va_Pc [.ref hh] (zp_Q D vwCl [(hh, .inr (2, [.ref q])), (q, .inr (3, [.ref a, .int (zi_n n)])), (a, .inl (cA, 600, .inl (zi_F F)))] [(cA, .int)])) (vp_Si (fun r => r = zi_n (zh_letters F) ∧ 0 ≤ (zh_letters F) ∧ (zh_letters F) ≤ 65535)) 0 0 (fun _ => False) := by
  refine Met.ofW (cc := cX0_letters) (maxL := 1) (ret := (some .int)) (by decide) rfl ?_
  intro p e s m args below meth c s₁ B hml hv
  obtain ⟨rfl, hP, hK⟩ := hv
  have hx := B.exec
  have hb := B.bytes
  have hr := B.returns
  have hts := atoms_spec (ws := wsX0_letters) B.pre
  have hown : s.vm.findClass RX0 = some m.cls := findClass_of_methodNamed B.named
  have hlocks := B.notSynchronized
  have hl := lv_entry ([.ref hh]) (n := 1) (Nat.le_of_ble_eq_true rfl)
  rw [lg_entry_eq]
  generalize (lg_sl ([.ref hh]) ++ List.replicate (1 - (lg_sl ([.ref hh])).length) Slot.unset).toArray = ls at hl ⊢
  have hl : lv_has ls 1 [(0, .ref hh)] := hl
  refine lv_aload_n hx hb dX0_letters_0 rfl (lv_at hl 0 rfl) ?_
  refine zc_V (As := []) (rest := []) ⟨hx, hb, hml, hown, hts⟩ (c_Hd_version l D hh q a cA F n hF (by omega) (by omega)) (cwV 0 hts gX0_letters_X0_version rfl rfl rfl (by decide +kernel) ⟨(Nat.le_of_ble_eq_true rfl), (Nat.le_of_ble_eq_true rfl)⟩) hP hK [0, 1, 2] [0] rfl rfl (ci := 2) rfl rfl rfl rfl hl.1 rfl (Nat.le_of_ble_eq_true rfl) dX0_letters_1 ⟨Nat.zero_le _, Nat.zero_le _⟩ (fun r hr1 => ?_)
  obtain ⟨rfl, b_1⟩ := hr1
  refine zr_iconst hx hb dX0_letters_4 ?_
  refine zr_icmp_ge (tgt := 12) hx hb dX0_letters_5 (by decide) (by omega) (by omega) (fun c_2 => ?_) (fun c_2 => ?_)
  · refine lv_aload_n hx hb dX0_letters_12 rfl (lv_at hl 0 rfl) ?_
    refine va_get (D := D) (ci := 2) (v := .ref q) (C := RX0) (T := TX0) (N := 1) hx hb hts in_X0_letters_X0 hown hK hP 0 rfl rfl 0 (by decide) (hts (.fieldLink RX0 9 "ZHeads$Head" "row" "LZHeads$Row;") (by decide +kernel)) (fun _ h9 => h9) rfl dX0_letters_13 ?_
    refine zr_bipush hx hb dX0_letters_16 (by decide) ?_
    refine zc_V (As := [.int (zi_n 52)]) (rest := []) ⟨hx, hb, hml, hown, hts⟩ (c_Row_two_k l D q a cA F n hF (by omega) 52 52 rfl (by omega)) (cwV 1 hts gX0_letters_X2_two rfl rfl rfl (by decide +kernel) ⟨(Nat.le_of_ble_eq_true rfl), (Nat.le_of_ble_eq_true rfl)⟩) hP hK [1, 2] [0] rfl rfl (ci := 3) rfl rfl rfl rfl hl.1 rfl (Nat.le_of_ble_eq_true rfl) dX0_letters_18 ⟨Nat.zero_le _, Nat.zero_le _⟩ (fun r hr1 => ?_)
    obtain ⟨rfl, b_3⟩ := hr1
    exact W.iret (v := zi_n (zh_t F 52)) hx hb hr (fun t ht hW => ⟨_, rfl, zl_r (by unfold zh_letters; (repeat' split) <;> omega) (by omega), ht⟩) (fun q hq => nomatch hq) dX0_letters_21
  · refine zr_iconst hx hb dX0_letters_8 ?_
    refine lv_goto (tgt := 21) hx hb dX0_letters_9 (by decide) ?_
    exact W.iret (v := zi_n 0) hx hb hr (fun t ht hW => ⟨_, rfl, zl_r (by unfold zh_letters; (repeat' split) <;> omega) (by omega), ht⟩) (fun q hq => nomatch hq) dX0_letters_21

theorem in_X0_ends_X0 : ∀ w ∈ u_ws RX0 TX0 1, w ∈ wsX0_ends := by decide +kernel
set_option maxHeartbeats 4000000 in
set_option maxRecDepth 100000 in
theorem c_Hd_ends (l : Launch) (D : va_G) (hh q a : Nat) (cA : ClassId) (F : Nat → Int) (n : Int) (hF : zi_By F) (hn : 0 ≤ n ∧ n ≤ 600) (h64 : 64 ≤ n) : Met l yX0_ends wsX0_ends ({ frames := 2, cells := 0, slots := 0, locals := 41 }) (va_Pc [.ref hh] (zp_Q D vwCl [(hh, .inr (2, [.ref q])), (q, .inr (3, [.ref a, .int (zi_n n)])), (a, .inl (cA, 600, .inl (zi_F F)))] [(cA, .int)])) (vp_Si (fun r => r = zi_n (zh_ends F) ∧ 0 ≤ (zh_ends F) ∧ (zh_ends F) ≤ 65535)) 0 0 (fun _ => False) := by
  refine Met.ofW (cc := cX0_ends) (maxL := 1) (ret := (some .int)) (by decide) rfl ?_
  intro p e s m args below meth c s₁ B hml hv
  obtain ⟨rfl, hP, hK⟩ := hv
  have hx := B.exec
  have hb := B.bytes
  have hr := B.returns
  have hts := atoms_spec (ws := wsX0_ends) B.pre
  have hown : s.vm.findClass RX0 = some m.cls := findClass_of_methodNamed B.named
  have hlocks := B.notSynchronized
  have hl := lv_entry ([.ref hh]) (n := 1) (Nat.le_of_ble_eq_true rfl)
  rw [lg_entry_eq]
  generalize (lg_sl ([.ref hh]) ++ List.replicate (1 - (lg_sl ([.ref hh])).length) Slot.unset).toArray = ls at hl ⊢
  have hl : lv_has ls 1 [(0, .ref hh)] := hl
  refine lv_aload_n hx hb dX0_ends_0 rfl (lv_at hl 0 rfl) ?_
  refine zc_V (As := []) (rest := []) ⟨hx, hb, hml, hown, hts⟩ (c_Hd_version l D hh q a cA F n hF (by omega) (by omega)) (cwV 0 hts gX0_ends_X0_version rfl rfl rfl (by decide +kernel) ⟨(Nat.le_of_ble_eq_true rfl), (Nat.le_of_ble_eq_true rfl)⟩) hP hK [0, 1, 2] [0] rfl rfl (ci := 2) rfl rfl rfl rfl hl.1 rfl (Nat.le_of_ble_eq_true rfl) dX0_ends_1 ⟨Nat.zero_le _, Nat.zero_le _⟩ (fun r hr1 => ?_)
  obtain ⟨rfl, b_1⟩ := hr1
  refine zr_iconst hx hb dX0_ends_4 ?_
  refine zr_icmp_ge (tgt := 12) hx hb dX0_ends_5 (by decide) (by omega) (by omega) (fun c_2 => ?_) (fun c_2 => ?_)
  · refine lv_aload_n hx hb dX0_ends_12 rfl (lv_at hl 0 rfl) ?_
    refine va_get (D := D) (ci := 2) (v := .ref q) (C := RX0) (T := TX0) (N := 1) hx hb hts in_X0_ends_X0 hown hK hP 0 rfl rfl 0 (by decide) (hts (.fieldLink RX0 9 "ZHeads$Head" "row" "LZHeads$Row;") (by decide +kernel)) (fun _ h9 => h9) rfl dX0_ends_13 ?_
    refine zr_bipush hx hb dX0_ends_16 (by decide) ?_
    refine zc_V (As := [.int (zi_n 46)]) (rest := []) ⟨hx, hb, hml, hown, hts⟩ (c_Row_two_k l D q a cA F n hF (by omega) 46 46 rfl (by omega)) (cwV 1 hts gX0_ends_X2_two rfl rfl rfl (by decide +kernel) ⟨(Nat.le_of_ble_eq_true rfl), (Nat.le_of_ble_eq_true rfl)⟩) hP hK [1, 2] [0] rfl rfl (ci := 3) rfl rfl rfl rfl hl.1 rfl (Nat.le_of_ble_eq_true rfl) dX0_ends_18 ⟨Nat.zero_le _, Nat.zero_le _⟩ (fun r hr1 => ?_)
    obtain ⟨rfl, b_3⟩ := hr1
    exact W.iret (v := zi_n (zh_t F 46)) hx hb hr (fun t ht hW => ⟨_, rfl, zl_r (by unfold zh_ends; (repeat' split) <;> omega) (by omega), ht⟩) (fun q hq => nomatch hq) dX0_ends_21
  · refine zr_iconst hx hb dX0_ends_8 ?_
    refine lv_goto (tgt := 21) hx hb dX0_ends_9 (by decide) ?_
    exact W.iret (v := zi_n 0) hx hb hr (fun t ht hW => ⟨_, rfl, zl_r (by unfold zh_ends; (repeat' split) <;> omega) (by omega), ht⟩) (fun q hq => nomatch hq) dX0_ends_21

theorem in_X0_more_X0 : ∀ w ∈ u_ws RX0 TX0 1, w ∈ wsX0_more := by decide +kernel
set_option maxHeartbeats 4000000 in
set_option maxRecDepth 100000 in
theorem c_Hd_more (l : Launch) (D : va_G) (hh q a : Nat) (cA : ClassId) (F : Nat → Int) (n : Int) (hF : zi_By F) (hn : 0 ≤ n ∧ n ≤ 600) (h64 : 64 ≤ n) : Met l yX0_more wsX0_more ({ frames := 2, cells := 0, slots := 0, locals := 41 }) (va_Pc [.ref hh] (zp_Q D vwCl [(hh, .inr (2, [.ref q])), (q, .inr (3, [.ref a, .int (zi_n n)])), (a, .inl (cA, 600, .inl (zi_F F)))] [(cA, .int)])) (vp_Si (fun r => r = zi_n (zh_more F) ∧ 0 ≤ (zh_more F) ∧ (zh_more F) ≤ 65535)) 0 0 (fun _ => False) := by
  refine Met.ofW (cc := cX0_more) (maxL := 1) (ret := (some .int)) (by decide) rfl ?_
  intro p e s m args below meth c s₁ B hml hv
  obtain ⟨rfl, hP, hK⟩ := hv
  have hx := B.exec
  have hb := B.bytes
  have hr := B.returns
  have hts := atoms_spec (ws := wsX0_more) B.pre
  have hown : s.vm.findClass RX0 = some m.cls := findClass_of_methodNamed B.named
  have hlocks := B.notSynchronized
  have hl := lv_entry ([.ref hh]) (n := 1) (Nat.le_of_ble_eq_true rfl)
  rw [lg_entry_eq]
  generalize (lg_sl ([.ref hh]) ++ List.replicate (1 - (lg_sl ([.ref hh])).length) Slot.unset).toArray = ls at hl ⊢
  have hl : lv_has ls 1 [(0, .ref hh)] := hl
  refine lv_aload_n hx hb dX0_more_0 rfl (lv_at hl 0 rfl) ?_
  refine zc_V (As := []) (rest := []) ⟨hx, hb, hml, hown, hts⟩ (c_Hd_version l D hh q a cA F n hF (by omega) (by omega)) (cwV 0 hts gX0_more_X0_version rfl rfl rfl (by decide +kernel) ⟨(Nat.le_of_ble_eq_true rfl), (Nat.le_of_ble_eq_true rfl)⟩) hP hK [0, 1, 2] [0] rfl rfl (ci := 2) rfl rfl rfl rfl hl.1 rfl (Nat.le_of_ble_eq_true rfl) dX0_more_1 ⟨Nat.zero_le _, Nat.zero_le _⟩ (fun r hr1 => ?_)
  obtain ⟨rfl, b_1⟩ := hr1
  refine zr_iconst hx hb dX0_more_4 ?_
  refine zr_icmp_ge (tgt := 12) hx hb dX0_more_5 (by decide) (by omega) (by omega) (fun c_2 => ?_) (fun c_2 => ?_)
  · refine lv_aload_n hx hb dX0_more_12 rfl (lv_at hl 0 rfl) ?_
    refine va_get (D := D) (ci := 2) (v := .ref q) (C := RX0) (T := TX0) (N := 1) hx hb hts in_X0_more_X0 hown hK hP 0 rfl rfl 0 (by decide) (hts (.fieldLink RX0 9 "ZHeads$Head" "row" "LZHeads$Row;") (by decide +kernel)) (fun _ h9 => h9) rfl dX0_more_13 ?_
    refine zr_bipush hx hb dX0_more_16 (by decide) ?_
    refine zc_V (As := [.int (zi_n 54)]) (rest := []) ⟨hx, hb, hml, hown, hts⟩ (c_Row_two_k l D q a cA F n hF (by omega) 54 54 rfl (by omega)) (cwV 1 hts gX0_more_X2_two rfl rfl rfl (by decide +kernel) ⟨(Nat.le_of_ble_eq_true rfl), (Nat.le_of_ble_eq_true rfl)⟩) hP hK [1, 2] [0] rfl rfl (ci := 3) rfl rfl rfl rfl hl.1 rfl (Nat.le_of_ble_eq_true rfl) dX0_more_18 ⟨Nat.zero_le _, Nat.zero_le _⟩ (fun r hr1 => ?_)
    obtain ⟨rfl, b_3⟩ := hr1
    exact W.iret (v := zi_n (zh_t F 54)) hx hb hr (fun t ht hW => ⟨_, rfl, zl_r (by unfold zh_more; (repeat' split) <;> omega) (by omega), ht⟩) (fun q hq => nomatch hq) dX0_more_21
  · refine zr_iconst hx hb dX0_more_8 ?_
    refine lv_goto (tgt := 21) hx hb dX0_more_9 (by decide) ?_
    exact W.iret (v := zi_n 0) hx hb hr (fun t ht hW => ⟨_, rfl, zl_r (by unfold zh_more; (repeat' split) <;> omega) (by omega), ht⟩) (fun q hq => nomatch hq) dX0_more_21

theorem in_X0_moreWords_X0 : ∀ w ∈ u_ws RX0 TX0 1, w ∈ wsX0_moreWords := by decide +kernel
set_option maxHeartbeats 4000000 in
set_option maxRecDepth 100000 in
theorem c_Hd_moreWords (l : Launch) (D : va_G) (hh q a : Nat) (cA : ClassId) (F : Nat → Int) (n : Int) (hF : zi_By F) (hn : 0 ≤ n ∧ n ≤ 600) (h64 : 64 ≤ n) : Met l yX0_moreWords wsX0_moreWords ({ frames := 3, cells := 0, slots := 0, locals := 61 }) (va_Pc [.ref hh] (zp_Q D vwCl [(hh, .inr (2, [.ref q])), (q, .inr (3, [.ref a, .int (zi_n n)])), (a, .inl (cA, 600, .inl (zi_F F)))] [(cA, .int)])) (vp_Si (fun r => r = zi_n (zh_mw F n) ∧ -1 ≤ (zh_mw F n) ∧ (zh_mw F n) ≤ 65535)) 0 0 (fun _ => False) := by
  refine Met.ofW (cc := cX0_moreWords) (maxL := 2) (ret := (some .int)) (by decide) rfl ?_
  intro p e s m args below meth c s₁ B hml hv
  obtain ⟨rfl, hP, hK⟩ := hv
  have hx := B.exec
  have hb := B.bytes
  have hr := B.returns
  have hts := atoms_spec (ws := wsX0_moreWords) B.pre
  have hown : s.vm.findClass RX0 = some m.cls := findClass_of_methodNamed B.named
  have hlocks := B.notSynchronized
  have hl := lv_entry ([.ref hh]) (n := 2) (Nat.le_of_ble_eq_true rfl)
  rw [lg_entry_eq]
  generalize (lg_sl ([.ref hh]) ++ List.replicate (2 - (lg_sl ([.ref hh])).length) Slot.unset).toArray = ls at hl ⊢
  have hl : lv_has ls 2 [(0, .ref hh)] := hl
  refine lv_aload_n hx hb dX0_moreWords_0 rfl (lv_at hl 0 rfl) ?_
  refine zc_V (As := []) (rest := []) ⟨hx, hb, hml, hown, hts⟩ (c_Hd_more l D hh q a cA F n hF (by omega) (by omega)) (cwV 0 hts gX0_moreWords_X0_more rfl rfl rfl (by decide +kernel) ⟨(Nat.le_of_ble_eq_true rfl), (Nat.le_of_ble_eq_true rfl)⟩) hP hK [0, 1, 2] [0] rfl rfl (ci := 2) rfl rfl rfl rfl hl.1 rfl (Nat.le_of_ble_eq_true rfl) dX0_moreWords_1 ⟨Nat.zero_le _, Nat.zero_le _⟩ (fun r hr1 => ?_)
  obtain ⟨rfl, b_1⟩ := hr1
  refine lv_istore_n (lv' := [(1, .int (zi_n (zh_more F))), (0, .ref hh)]) hx hb dX0_moreWords_4 rfl hl (by decide) rfl (fun ls hl => ?_)
  refine lv_iload_n hx hb dX0_moreWords_5 rfl (lv_at hl 0 rfl) ?_
  refine zr_if_ne (tgt := 13) hx hb dX0_moreWords_6 (by decide) (by omega) (fun c_2 => ?_) (fun c_2 => ?_)
  · refine lv_aload_n hx hb dX0_moreWords_13 rfl (lv_at hl 1 rfl) ?_
    refine va_get (D := D) (ci := 2) (v := .ref q) (C := RX0) (T := TX0) (N := 1) hx hb hts in_X0_moreWords_X0 hown hK hP 0 rfl rfl 0 (by decide) (hts (.fieldLink RX0 9 "ZHeads$Head" "row" "LZHeads$Row;") (by decide +kernel)) (fun _ h9 => h9) rfl dX0_moreWords_14 ?_
    refine lv_iload_n hx hb dX0_moreWords_17 rfl (lv_at hl 0 rfl) ?_
    refine zc_V (As := [.int (zi_n (zh_more F))]) (rest := []) ⟨hx, hb, hml, hown, hts⟩ (c_Row_two l D q a cA F n hF (by omega) (zh_more F) (by omega)) (cwV 1 hts gX0_moreWords_X2_two rfl rfl rfl (by decide +kernel) ⟨(Nat.le_of_ble_eq_true rfl), (Nat.le_of_ble_eq_true rfl)⟩) hP hK [1, 2] [0] rfl rfl (ci := 3) rfl rfl rfl rfl hl.1 rfl (Nat.le_of_ble_eq_true rfl) dX0_moreWords_18 ⟨Nat.zero_le _, Nat.zero_le _⟩ (fun r hr1 => ?_)
    obtain ⟨rfl, b_3⟩ := hr1
    exact W.iret (v := zi_n (zh_two F n (zh_more F))) hx hb hr (fun t ht hW => ⟨_, rfl, zl_r (by unfold zh_mw; (repeat' split) <;> omega) (by omega), ht⟩) (fun q hq => nomatch hq) dX0_moreWords_21
  · refine zr_iconst hx hb dX0_moreWords_9 ?_
    refine lv_goto (tgt := 21) hx hb dX0_moreWords_10 (by decide) ?_
    exact W.iret (v := zi_n 0) hx hb hr (fun t ht hW => ⟨_, rfl, zl_r (by unfold zh_mw; (repeat' split) <;> omega) (by omega), ht⟩) (fun q hq => nomatch hq) dX0_moreWords_21

theorem in_X0_thirdWord_X0 : ∀ w ∈ u_ws RX0 TX0 1, w ∈ wsX0_thirdWord := by decide +kernel
set_option maxHeartbeats 4000000 in
set_option maxRecDepth 100000 in
theorem c_Hd_thirdWord (l : Launch) (D : va_G) (hh q a : Nat) (cA : ClassId) (F : Nat → Int) (n : Int) (hF : zi_By F) (hn : 0 ≤ n ∧ n ≤ 600) (h64 : 64 ≤ n) : Met l yX0_thirdWord wsX0_thirdWord ({ frames := 3, cells := 0, slots := 0, locals := 61 }) (va_Pc [.ref hh] (zp_Q D vwCl [(hh, .inr (2, [.ref q])), (q, .inr (3, [.ref a, .int (zi_n n)])), (a, .inl (cA, 600, .inl (zi_F F)))] [(cA, .int)])) (vp_Si (fun r => r = zi_n (zh_third F n) ∧ -1 ≤ (zh_third F n) ∧ (zh_third F n) ≤ 65535)) 0 0 (fun _ => False) := by
  refine Met.ofW (cc := cX0_thirdWord) (maxL := 2) (ret := (some .int)) (by decide) rfl ?_
  intro p e s m args below meth c s₁ B hml hv
  obtain ⟨rfl, hP, hK⟩ := hv
  have hx := B.exec
  have hb := B.bytes
  have hr := B.returns
  have hts := atoms_spec (ws := wsX0_thirdWord) B.pre
  have hown : s.vm.findClass RX0 = some m.cls := findClass_of_methodNamed B.named
  have hlocks := B.notSynchronized
  have hl := lv_entry ([.ref hh]) (n := 2) (Nat.le_of_ble_eq_true rfl)
  rw [lg_entry_eq]
  generalize (lg_sl ([.ref hh]) ++ List.replicate (2 - (lg_sl ([.ref hh])).length) Slot.unset).toArray = ls at hl ⊢
  have hl : lv_has ls 2 [(0, .ref hh)] := hl
  refine lv_aload_n hx hb dX0_thirdWord_0 rfl (lv_at hl 0 rfl) ?_
  refine zc_V (As := []) (rest := []) ⟨hx, hb, hml, hown, hts⟩ (c_Hd_more l D hh q a cA F n hF (by omega) (by omega)) (cwV 0 hts gX0_thirdWord_X0_more rfl rfl rfl (by decide +kernel) ⟨(Nat.le_of_ble_eq_true rfl), (Nat.le_of_ble_eq_true rfl)⟩) hP hK [0, 1, 2] [0] rfl rfl (ci := 2) rfl rfl rfl rfl hl.1 rfl (Nat.le_of_ble_eq_true rfl) dX0_thirdWord_1 ⟨Nat.zero_le _, Nat.zero_le _⟩ (fun r hr1 => ?_)
  obtain ⟨rfl, b_1⟩ := hr1
  refine lv_istore_n (lv' := [(1, .int (zi_n (zh_more F))), (0, .ref hh)]) hx hb dX0_thirdWord_4 rfl hl (by decide) rfl (fun ls hl => ?_)
  refine lv_iload_n hx hb dX0_thirdWord_5 rfl (lv_at hl 0 rfl) ?_
  refine zr_if_eq (tgt := 21) hx hb dX0_thirdWord_6 (by decide) (by omega) (fun c_2 => ?_) (fun c_2 => ?_)
  · refine zr_iconst hx hb dX0_thirdWord_21 ?_
    refine lv_goto (tgt := 36) hx hb dX0_thirdWord_22 (by decide) ?_
    exact W.iret (v := zi_n 0) hx hb hr (fun t ht hW => ⟨_, rfl, zl_r (by unfold zh_third; (repeat' split) <;> omega) (by omega), ht⟩) (fun q hq => nomatch hq) dX0_thirdWord_36
  · refine lv_aload_n hx hb dX0_thirdWord_9 rfl (lv_at hl 1 rfl) ?_
    refine va_get (D := D) (ci := 2) (v := .ref q) (C := RX0) (T := TX0) (N := 1) hx hb hts in_X0_thirdWord_X0 hown hK hP 0 rfl rfl 0 (by decide) (hts (.fieldLink RX0 9 "ZHeads$Head" "row" "LZHeads$Row;") (by decide +kernel)) (fun _ h9 => h9) rfl dX0_thirdWord_10 ?_
    refine lv_iload_n hx hb dX0_thirdWord_13 rfl (lv_at hl 0 rfl) ?_
    refine zc_V (As := [.int (zi_n (zh_more F))]) (rest := []) ⟨hx, hb, hml, hown, hts⟩ (c_Row_two l D q a cA F n hF (by omega) (zh_more F) (by omega)) (cwV 1 hts gX0_thirdWord_X2_two rfl rfl rfl (by decide +kernel) ⟨(Nat.le_of_ble_eq_true rfl), (Nat.le_of_ble_eq_true rfl)⟩) hP hK [1, 2] [0] rfl rfl (ci := 3) rfl rfl rfl rfl hl.1 rfl (Nat.le_of_ble_eq_true rfl) dX0_thirdWord_14 ⟨Nat.zero_le _, Nat.zero_le _⟩ (fun r hr1 => ?_)
    obtain ⟨rfl, b_3⟩ := hr1
    refine zr_iconst hx hb dX0_thirdWord_17 ?_
    refine zr_icmp_ge (tgt := 25) hx hb dX0_thirdWord_18 (by decide) (by omega) (by omega) (fun c_4 => ?_) (fun c_4 => ?_)
    · refine lv_aload_n hx hb dX0_thirdWord_25 rfl (lv_at hl 1 rfl) ?_
      refine va_get (D := D) (ci := 2) (v := .ref q) (C := RX0) (T := TX0) (N := 1) hx hb hts in_X0_thirdWord_X0 hown hK hP 0 rfl rfl 0 (by decide) (hts (.fieldLink RX0 9 "ZHeads$Head" "row" "LZHeads$Row;") (by decide +kernel)) (fun _ h9 => h9) rfl dX0_thirdWord_26 ?_
      refine lv_iload_n hx hb dX0_thirdWord_29 rfl (lv_at hl 0 rfl) ?_
      refine zr_bipush hx hb dX0_thirdWord_30 (by decide) ?_
      refine zr_iadd hx hb dX0_thirdWord_32 ?_
      refine zc_V (As := [.int (zi_n ((zh_more F) + 6))]) (rest := []) ⟨hx, hb, hml, hown, hts⟩ (c_Row_two l D q a cA F n hF (by omega) ((zh_more F) + 6) (by omega)) (cwV 1 hts gX0_thirdWord_X2_two rfl rfl rfl (by decide +kernel) ⟨(Nat.le_of_ble_eq_true rfl), (Nat.le_of_ble_eq_true rfl)⟩) hP hK [1, 2] [0] rfl rfl (ci := 3) rfl rfl rfl rfl hl.1 rfl (Nat.le_of_ble_eq_true rfl) dX0_thirdWord_33 ⟨Nat.zero_le _, Nat.zero_le _⟩ (fun r hr1 => ?_)
      obtain ⟨rfl, b_5⟩ := hr1
      exact W.iret (v := zi_n (zh_two F n ((zh_more F) + 6))) hx hb hr (fun t ht hW => ⟨_, rfl, zl_r (by unfold zh_third; (repeat' split) <;> omega) (by omega), ht⟩) (fun q hq => nomatch hq) dX0_thirdWord_36
    · refine zr_iconst hx hb dX0_thirdWord_21 ?_
      refine lv_goto (tgt := 36) hx hb dX0_thirdWord_22 (by decide) ?_
      exact W.iret (v := zi_n 0) hx hb hr (fun t ht hW => ⟨_, rfl, zl_r (by unfold zh_third; (repeat' split) <;> omega) (by omega), ht⟩) (fun q hq => nomatch hq) dX0_thirdWord_36

theorem in_X0_unpacked_X0 : ∀ w ∈ u_ws RX0 TX0 1, w ∈ wsX0_unpacked := by decide +kernel
set_option maxHeartbeats 4000000 in
set_option maxRecDepth 100000 in
theorem c_Hd_unpacked (l : Launch) (D : va_G) (hh q a : Nat) (cA : ClassId) (F : Nat → Int) (n : Int) (hF : zi_By F) (hn : 0 ≤ n ∧ n ≤ 600) (p0 : Int) (p1 : Int) (h64 : 64 ≤ n) (hp : 0 ≤ p0 ∧ p0 ≤ 65535) (hq : p1 = 0 ∨ p1 = 1) : Met l yX0_unpacked wsX0_unpacked ({ frames := 2, cells := 0, slots := 0, locals := 41 }) (va_Pc [.ref hh, .int (zi_n p0), .int (zi_n p1)] (zp_Q D vwCl [(hh, .inr (2, [.ref q])), (q, .inr (3, [.ref a, .int (zi_n n)])), (a, .inl (cA, 600, .inl (zi_F F)))] [(cA, .int)])) (vp_Si (fun r => r = zi_n (zh_unp F p0 p1) ∧ 0 ≤ (zh_unp F p0 p1) ∧ (zh_unp F p0 p1) ≤ 786420)) 0 0 (fun _ => False) := by
  refine Met.ofW (cc := cX0_unpacked) (maxL := 4) (ret := (some .int)) (by decide) rfl ?_
  intro p e s m args below meth c s₁ B hml hv
  obtain ⟨rfl, hP, hK⟩ := hv
  have hx := B.exec
  have hb := B.bytes
  have hr := B.returns
  have hts := atoms_spec (ws := wsX0_unpacked) B.pre
  have hown : s.vm.findClass RX0 = some m.cls := findClass_of_methodNamed B.named
  have hlocks := B.notSynchronized
  have hl := lv_entry ([.ref hh, .int (zi_n p0), .int (zi_n p1)]) (n := 4) (Nat.le_of_ble_eq_true rfl)
  rw [lg_entry_eq]
  generalize (lg_sl ([.ref hh, .int (zi_n p0), .int (zi_n p1)]) ++ List.replicate (4 - (lg_sl ([.ref hh, .int (zi_n p0), .int (zi_n p1)])).length) Slot.unset).toArray = ls at hl ⊢
  have hl : lv_has ls 4 [(0, .ref hh), (1, .int (zi_n p0)), (2, .int (zi_n p1))] := hl
  refine lv_aload_n hx hb dX0_unpacked_0 rfl (lv_at hl 0 rfl) ?_
  refine zc_V (As := []) (rest := []) ⟨hx, hb, hml, hown, hts⟩ (c_Hd_version l D hh q a cA F n hF (by omega) (by omega)) (cwV 0 hts gX0_unpacked_X0_version rfl rfl rfl (by decide +kernel) ⟨(Nat.le_of_ble_eq_true rfl), (Nat.le_of_ble_eq_true rfl)⟩) hP hK [0, 1, 2] [0] rfl rfl (ci := 2) rfl rfl rfl rfl hl.1 rfl (Nat.le_of_ble_eq_true rfl) dX0_unpacked_1 ⟨Nat.zero_le _, Nat.zero_le _⟩ (fun r hr1 => ?_)
  obtain ⟨rfl, b_1⟩ := hr1
  refine lv_istore_n (lv' := [(3, .int (zi_n (F 0))), (0, .ref hh), (1, .int (zi_n p0)), (2, .int (zi_n p1))]) hx hb dX0_unpacked_4 rfl hl (by decide) rfl (fun ls hl => ?_)
  refine lv_iload_n hx hb dX0_unpacked_5 rfl (lv_at hl 0 rfl) ?_
  refine zr_iconst hx hb dX0_unpacked_6 ?_
  refine zr_icmp_gt (tgt := 14) hx hb dX0_unpacked_7 (by decide) (by omega) (by omega) (fun c_2 => ?_) (fun c_2 => ?_)
  · refine lv_iload_n hx hb dX0_unpacked_14 rfl (lv_at hl 0 rfl) ?_
    refine zr_iconst hx hb dX0_unpacked_15 ?_
    refine zr_icmp_gt (tgt := 23) hx hb dX0_unpacked_16 (by decide) (by omega) (by omega) (fun c_3 => ?_) (fun c_3 => ?_)
    · refine lv_iload_n hx hb dX0_unpacked_23 rfl (lv_at hl 0 rfl) ?_
      refine zr_bipush hx hb dX0_unpacked_24 (by decide) ?_
      refine zr_icmp_ne (tgt := 36) hx hb dX0_unpacked_26 (by decide) (by omega) (by omega) (fun c_4 => ?_) (fun c_4 => ?_)
      · refine zr_iconst hx hb dX0_unpacked_36 ?_
        refine lv_iload_n hx hb dX0_unpacked_37 rfl (lv_at hl 2 rfl) ?_
        refine zr_imul hx hb dX0_unpacked_38 ?_
        refine zr_bipush hx hb dX0_unpacked_39 (by decide) ?_
        refine lv_aload_n hx hb dX0_unpacked_41 rfl (lv_at hl 1 rfl) ?_
        refine va_get (D := D) (ci := 2) (v := .ref q) (C := RX0) (T := TX0) (N := 1) hx hb hts in_X0_unpacked_X0 hown hK hP 0 rfl rfl 0 (by decide) (hts (.fieldLink RX0 9 "ZHeads$Head" "row" "LZHeads$Row;") (by decide +kernel)) (fun _ h9 => h9) rfl dX0_unpacked_42 ?_
        refine lv_iload_n hx hb dX0_unpacked_45 rfl (lv_at hl 3 rfl) ?_
        refine zr_if_eq (tgt := 54) hx hb dX0_unpacked_46 (by decide) (by omega) (fun c_5 => ?_) (fun c_5 => ?_)
        · refine zr_bipush hx hb dX0_unpacked_54 (by decide) ?_
          refine zc_V (As := [.int (zi_n 40)]) (rest := [.int (zi_n 8), .int (zi_n (4 * p0))]) ⟨hx, hb, hml, hown, hts⟩ (c_Row_two_k l D q a cA F n hF (by omega) 40 40 rfl (by omega)) (cwV 1 hts gX0_unpacked_X2_two rfl rfl rfl (by decide +kernel) ⟨(Nat.le_of_ble_eq_true rfl), (Nat.le_of_ble_eq_true rfl)⟩) hP hK [1, 2] [0] rfl rfl (ci := 3) rfl rfl rfl rfl hl.1 rfl (Nat.le_of_ble_eq_true rfl) dX0_unpacked_56 ⟨Nat.zero_le _, Nat.zero_le _⟩ (fun r hr1 => ?_)
          obtain ⟨rfl, b_6⟩ := hr1
          refine zr_imul hx hb dX0_unpacked_59 ?_
          refine zr_iadd hx hb dX0_unpacked_60 ?_
          exact W.iret (v := zi_n ((4 * p0) + (8 * (zh_t F 40)))) hx hb hr (fun t ht hW => ⟨_, rfl, zl_r (by unfold zh_unp; (repeat' split) <;> omega) (by omega), ht⟩) (fun q hq => nomatch hq) dX0_unpacked_61
        · refine zr_bipush hx hb dX0_unpacked_49 (by decide) ?_
          refine lv_goto (tgt := 56) hx hb dX0_unpacked_51 (by decide) ?_
          refine zc_V (As := [.int (zi_n 42)]) (rest := [.int (zi_n 8), .int (zi_n (4 * p0))]) ⟨hx, hb, hml, hown, hts⟩ (c_Row_two_k l D q a cA F n hF (by omega) 42 42 rfl (by omega)) (cwV 1 hts gX0_unpacked_X2_two rfl rfl rfl (by decide +kernel) ⟨(Nat.le_of_ble_eq_true rfl), (Nat.le_of_ble_eq_true rfl)⟩) hP hK [1, 2] [0] rfl rfl (ci := 3) rfl rfl rfl rfl hl.1 rfl (Nat.le_of_ble_eq_true rfl) dX0_unpacked_56 ⟨Nat.zero_le _, Nat.zero_le _⟩ (fun r hr1 => ?_)
          obtain ⟨rfl, b_7⟩ := hr1
          refine zr_imul hx hb dX0_unpacked_59 ?_
          refine zr_iadd hx hb dX0_unpacked_60 ?_
          exact W.iret (v := zi_n ((4 * p0) + (8 * (zh_t F 42)))) hx hb hr (fun t ht hW => ⟨_, rfl, zl_r (by unfold zh_unp; (repeat' split) <;> omega) (by omega), ht⟩) (fun q hq => nomatch hq) dX0_unpacked_61
      · refine zr_bipush hx hb dX0_unpacked_29 (by decide) ?_
        refine lv_iload_n hx hb dX0_unpacked_31 rfl (lv_at hl 2 rfl) ?_
        refine zr_imul hx hb dX0_unpacked_32 ?_
        refine lv_goto (tgt := 61) hx hb dX0_unpacked_33 (by decide) ?_
        exact W.iret (v := zi_n (8 * p0)) hx hb hr (fun t ht hW => ⟨_, rfl, zl_r (by unfold zh_unp; (repeat' split) <;> omega) (by omega), ht⟩) (fun q hq => nomatch hq) dX0_unpacked_61
    · refine zr_iconst hx hb dX0_unpacked_19 ?_
      refine lv_iload_n hx hb dX0_unpacked_20 rfl (lv_at hl 2 rfl) ?_
      refine zr_imul hx hb dX0_unpacked_21 ?_
      exact W.iret (v := zi_n (4 * p0)) hx hb hr (fun t ht hW => ⟨_, rfl, zl_r (by unfold zh_unp; (repeat' split) <;> omega) (by omega), ht⟩) (fun q hq => nomatch hq) dX0_unpacked_22
  · refine zr_iconst hx hb dX0_unpacked_10 ?_
    refine lv_iload_n hx hb dX0_unpacked_11 rfl (lv_at hl 2 rfl) ?_
    refine zr_imul hx hb dX0_unpacked_12 ?_
    exact W.iret (v := zi_n (2 * p0)) hx hb hr (fun t ht hW => ⟨_, rfl, zl_r (by unfold zh_unp; (repeat' split) <;> omega) (by omega), ht⟩) (fun q hq => nomatch hq) dX0_unpacked_13

set_option maxHeartbeats 4000000 in
set_option maxRecDepth 100000 in
theorem c_Hd_isWithin (l : Launch) (p0 : Int) (p1 : Int) (p2 : Int) (h0 : zi_R p0) (h1 : zi_R p1) (h2 : zi_R p2) : Met l yX0_isWithin wsX0_isWithin ({ frames := 0, cells := 0, slots := 0, locals := 0 }) (va_Pc [.int (zi_n p0), .int (zi_n p1), .int (zi_n p2)] (fun _ => True)) (vp_Si (fun r => (r = zi_n 1 ∧ (p1 ≤ p0 ∧ p0 ≤ p2)) ∨ (r = zi_n 0 ∧ ¬ (p1 ≤ p0 ∧ p0 ≤ p2)))) 0 0 (fun _ => False) := by
  refine Met.ofW (cc := cX0_isWithin) (maxL := 3) (ret := (some .boolean)) (by decide) rfl ?_
  intro p e s m args below meth c s₁ B hml hv
  obtain ⟨rfl, -⟩ := hv
  have hx := B.exec
  have hb := B.bytes
  have hr := B.returns
  have hts := atoms_spec (ws := wsX0_isWithin) B.pre
  have hown : s.vm.findClass RX0 = some m.cls := findClass_of_methodNamed B.named
  have hlocks := B.notSynchronized
  have hl := lv_entry ([.int (zi_n p0), .int (zi_n p1), .int (zi_n p2)]) (n := 3) (Nat.le_of_ble_eq_true rfl)
  rw [lg_entry_eq]
  generalize (lg_sl ([.int (zi_n p0), .int (zi_n p1), .int (zi_n p2)]) ++ List.replicate (3 - (lg_sl ([.int (zi_n p0), .int (zi_n p1), .int (zi_n p2)])).length) Slot.unset).toArray = ls at hl ⊢
  have hl : lv_has ls 3 [(0, .int (zi_n p0)), (1, .int (zi_n p1)), (2, .int (zi_n p2))] := hl
  refine lv_iload_n hx hb dX0_isWithin_0 rfl (lv_at hl 0 rfl) ?_
  refine lv_iload_n hx hb dX0_isWithin_1 rfl (lv_at hl 1 rfl) ?_
  refine zr_icmp_lt (tgt := 14) hx hb dX0_isWithin_2 (by decide) (by omega) (by omega) (fun c_1 => ?_) (fun c_1 => ?_)
  · refine zr_iconst hx hb dX0_isWithin_14 ?_
    exact W.zret (v := zi_n 0) (ty := .boolean) hx hb hr zl_b0 (fun t ht hW => ⟨_, rfl, zl_f (by omega), ht⟩) (fun q hq => nomatch hq) dX0_isWithin_15
  · refine lv_iload_n hx hb dX0_isWithin_5 rfl (lv_at hl 0 rfl) ?_
    refine lv_iload_n hx hb dX0_isWithin_6 rfl (lv_at hl 2 rfl) ?_
    refine zr_icmp_gt (tgt := 14) hx hb dX0_isWithin_7 (by decide) (by omega) (by omega) (fun c_2 => ?_) (fun c_2 => ?_)
    · refine zr_iconst hx hb dX0_isWithin_14 ?_
      exact W.zret (v := zi_n 0) (ty := .boolean) hx hb hr zl_b0 (fun t ht hW => ⟨_, rfl, zl_f (by omega), ht⟩) (fun q hq => nomatch hq) dX0_isWithin_15
    · refine zr_iconst hx hb dX0_isWithin_10 ?_
      refine lv_goto (tgt := 15) hx hb dX0_isWithin_11 (by decide) ?_
      exact W.zret (v := zi_n 1) (ty := .boolean) hx hb hr zl_b1 (fun t ht hW => ⟨_, rfl, zl_t (by omega), ht⟩) (fun q hq => nomatch hq) dX0_isWithin_15

set_option maxHeartbeats 4000000 in
set_option maxRecDepth 100000 in
theorem c_Hd_fits (l : Launch) (p0 : Int) (p1 : Int) (p2 : Int) (h0 : zi_R p0) (h1 : zi_R p1) (h2 : zi_R p2) (h3 : zi_R (p0 + p1)) : Met l yX0_fits wsX0_fits ({ frames := 0, cells := 0, slots := 0, locals := 0 }) (va_Pc [.int (zi_n p0), .int (zi_n p1), .int (zi_n p2)] (fun _ => True)) (vp_Si (fun r => (r = zi_n 1 ∧ (64 ≤ p0 ∧ p0 + p1 ≤ p2)) ∨ (r = zi_n 0 ∧ ¬ (64 ≤ p0 ∧ p0 + p1 ≤ p2)))) 0 0 (fun _ => False) := by
  refine Met.ofW (cc := cX0_fits) (maxL := 3) (ret := (some .boolean)) (by decide) rfl ?_
  intro p e s m args below meth c s₁ B hml hv
  obtain ⟨rfl, -⟩ := hv
  have hx := B.exec
  have hb := B.bytes
  have hr := B.returns
  have hts := atoms_spec (ws := wsX0_fits) B.pre
  have hown : s.vm.findClass RX0 = some m.cls := findClass_of_methodNamed B.named
  have hlocks := B.notSynchronized
  have hl := lv_entry ([.int (zi_n p0), .int (zi_n p1), .int (zi_n p2)]) (n := 3) (Nat.le_of_ble_eq_true rfl)
  rw [lg_entry_eq]
  generalize (lg_sl ([.int (zi_n p0), .int (zi_n p1), .int (zi_n p2)]) ++ List.replicate (3 - (lg_sl ([.int (zi_n p0), .int (zi_n p1), .int (zi_n p2)])).length) Slot.unset).toArray = ls at hl ⊢
  have hl : lv_has ls 3 [(0, .int (zi_n p0)), (1, .int (zi_n p1)), (2, .int (zi_n p2))] := hl
  refine lv_iload_n hx hb dX0_fits_0 rfl (lv_at hl 0 rfl) ?_
  refine zr_bipush hx hb dX0_fits_1 (by decide) ?_
  refine zr_icmp_lt (tgt := 17) hx hb dX0_fits_3 (by decide) (by omega) (by omega) (fun c_1 => ?_) (fun c_1 => ?_)
  · refine zr_iconst hx hb dX0_fits_17 ?_
    exact W.zret (v := zi_n 0) (ty := .boolean) hx hb hr zl_b0 (fun t ht hW => ⟨_, rfl, zl_f (by omega), ht⟩) (fun q hq => nomatch hq) dX0_fits_18
  · refine lv_iload_n hx hb dX0_fits_6 rfl (lv_at hl 0 rfl) ?_
    refine lv_iload_n hx hb dX0_fits_7 rfl (lv_at hl 1 rfl) ?_
    refine zr_iadd hx hb dX0_fits_8 ?_
    refine lv_iload_n hx hb dX0_fits_9 rfl (lv_at hl 2 rfl) ?_
    refine zr_icmp_gt (tgt := 17) hx hb dX0_fits_10 (by decide) (by omega) (by omega) (fun c_2 => ?_) (fun c_2 => ?_)
    · refine zr_iconst hx hb dX0_fits_17 ?_
      exact W.zret (v := zi_n 0) (ty := .boolean) hx hb hr zl_b0 (fun t ht hW => ⟨_, rfl, zl_f (by omega), ht⟩) (fun q hq => nomatch hq) dX0_fits_18
    · refine zr_iconst hx hb dX0_fits_13 ?_
      refine lv_goto (tgt := 18) hx hb dX0_fits_14 (by decide) ?_
      exact W.zret (v := zi_n 1) (ty := .boolean) hx hb hr zl_b1 (fun t ht hW => ⟨_, rfl, zl_t (by omega), ht⟩) (fun q hq => nomatch hq) dX0_fits_18
end
section
theorem in_X0_wordsHold_X0 : ∀ w ∈ u_ws RX0 TX0 1, w ∈ wsX0_wordsHold := by decide +kernel
set_option maxHeartbeats 4000000 in
set_option maxRecDepth 100000 in
theorem c_Hd_wordsHold (l : Launch) (D : va_G) (hh q a : Nat) (cA : ClassId) (F : Nat → Int) (n : Int) (hF : zi_By F) (hn : 0 ≤ n ∧ n ≤ 600) (h64 : 64 ≤ n) : Met l yX0_wordsHold wsX0_wordsHold ({ frames := 4, cells := 0, slots := 0, locals := 83 }) (va_Pc [.ref hh] (zp_Q D vwCl [(hh, .inr (2, [.ref q])), (q, .inr (3, [.ref a, .int (zi_n n)])), (a, .inl (cA, 600, .inl (zi_F F)))] [(cA, .int)])) (vp_Si (fun r => (r = zi_n 1 ∧ (zh_ok9 F n)) ∨ (r = zi_n 0 ∧ ¬ (zh_ok9 F n)))) 0 0 (fun _ => False) := by
  refine Met.ofW (cc := cX0_wordsHold) (maxL := 6) (ret := (some .boolean)) (by decide) rfl ?_
  intro p e s m args below meth c s₁ B hml hv
  obtain ⟨rfl, hP, hK⟩ := hv
  have hx := B.exec
  have hb := B.bytes
  have hr := B.returns
  have hts := atoms_spec (ws := wsX0_wordsHold) B.pre
  have hown : s.vm.findClass RX0 = some m.cls := findClass_of_methodNamed B.named
  have hlocks := B.notSynchronized
  have hl := lv_entry ([.ref hh]) (n := 6) (Nat.le_of_ble_eq_true rfl)
  rw [lg_entry_eq]
  generalize (lg_sl ([.ref hh]) ++ List.replicate (6 - (lg_sl ([.ref hh])).length) Slot.unset).toArray = ls at hl ⊢
  have hl : lv_has ls 6 [(0, .ref hh)] := hl
  have e1 : zh_sg F n = zh_at F n (zh_t F 8) := rfl
  have e2 : zh_eb F n = zh_at F n ((zh_t F 8 + 1) + zh_at F n (zh_t F 8)) := rfl
  have e3 : zh_told F n = zh_two F n ((zh_t F 8 + 2) + zh_at F n (zh_t F 8)) := rfl
  have e4 : zh_abs (zi_sh (zh_told F n)) * zh_eb F n = (if 0 ≤ zi_sh (zh_two F n ((zh_t F 8 + 2) + zh_at F n (zh_t F 8))) then zi_sh (zh_two F n ((zh_t F 8 + 2) + zh_at F n (zh_t F 8))) else -(zi_sh (zh_two F n ((zh_t F 8 + 2) + zh_at F n (zh_t F 8))))) * zh_at F n ((zh_t F 8 + 1) + zh_at F n (zh_t F 8)) := rfl
  have hm := zh_ee_b2 (zi_sh_b (zh_told F n)) (zh_at_b hF n (zh_t F 8 + 1 + zh_sg F n))
  have e5 : zh_eb F n = zh_at F n (zh_t F 8 + 1 + zh_sg F n) := rfl
  rw [← e5] at hm
  rw [e4] at hm
  have hs5 := zi_sh_b (zh_two F n ((zh_t F 8 + 2) + zh_at F n (zh_t F 8)))
  refine lv_aload_n hx hb dX0_wordsHold_0 rfl (lv_at hl 0 rfl) ?_
  refine zc_V (As := []) (rest := []) ⟨hx, hb, hml, hown, hts⟩ (c_Hd_words l D hh q a cA F n hF (by omega) (by omega)) (cwV 0 hts gX0_wordsHold_X0_words rfl rfl rfl (by decide +kernel) ⟨(Nat.le_of_ble_eq_true rfl), (Nat.le_of_ble_eq_true rfl)⟩) hP hK [0, 1, 2] [0] rfl rfl (ci := 2) rfl rfl rfl rfl hl.1 rfl (Nat.le_of_ble_eq_true rfl) dX0_wordsHold_1 ⟨Nat.zero_le _, Nat.zero_le _⟩ (fun r hr1 => ?_)
  obtain ⟨rfl, b_1⟩ := hr1
  refine lv_istore_n (lv' := [(1, .int (zi_n (zh_t F 8))), (0, .ref hh)]) hx hb dX0_wordsHold_4 rfl hl (by decide) rfl (fun ls hl => ?_)
  refine lv_aload_n hx hb dX0_wordsHold_5 rfl (lv_at hl 1 rfl) ?_
  refine va_get (D := D) (ci := 2) (v := .ref q) (C := RX0) (T := TX0) (N := 1) hx hb hts in_X0_wordsHold_X0 hown hK hP 0 rfl rfl 0 (by decide) (hts (.fieldLink RX0 9 "ZHeads$Head" "row" "LZHeads$Row;") (by decide +kernel)) (fun _ h9 => h9) rfl dX0_wordsHold_6 ?_
  refine lv_iload_n hx hb dX0_wordsHold_9 rfl (lv_at hl 0 rfl) ?_
  refine zc_V (As := [.int (zi_n (zh_t F 8))]) (rest := []) ⟨hx, hb, hml, hown, hts⟩ (c_Row_at l D q a cA F n hF (by omega) (zh_t F 8) (by omega)) (cwV 1 hts gX0_wordsHold_X2_at rfl rfl rfl (by decide +kernel) ⟨(Nat.le_of_ble_eq_true rfl), (Nat.le_of_ble_eq_true rfl)⟩) hP hK [1, 2] [0] rfl rfl (ci := 3) rfl rfl rfl rfl hl.1 rfl (Nat.le_of_ble_eq_true rfl) dX0_wordsHold_10 ⟨Nat.zero_le _, Nat.zero_le _⟩ (fun r hr1 => ?_)
  obtain ⟨rfl, b_2⟩ := hr1
  refine lv_istore_n (lv' := [(2, .int (zi_n (zh_at F n (zh_t F 8)))), (1, .int (zi_n (zh_t F 8))), (0, .ref hh)]) hx hb dX0_wordsHold_13 rfl hl (by decide) rfl (fun ls hl => ?_)
  refine lv_iload_n hx hb dX0_wordsHold_14 rfl (lv_at hl 1 rfl) ?_
  refine zr_bipush hx hb dX0_wordsHold_15 (by decide) ?_
  refine zr_icmp_lt (tgt := 25) hx hb dX0_wordsHold_17 (by decide) (by omega) (by omega) (fun c_3 => ?_) (fun c_3 => ?_)
  · refine zr_iconst hx hb dX0_wordsHold_25 ?_
    exact W.zret (v := zi_n 0) (ty := .boolean) hx hb hr zl_b0 (fun t ht hW => ⟨_, rfl, zl_f (by unfold zh_ok9; split <;> omega), ht⟩) (fun q hq => nomatch hq) dX0_wordsHold_26
  · refine lv_iload_n hx hb dX0_wordsHold_20 rfl (lv_at hl 0 rfl) ?_
    refine zr_iconst hx hb dX0_wordsHold_21 ?_
    refine zr_icmp_ne (tgt := 27) hx hb dX0_wordsHold_22 (by decide) (by omega) (by omega) (fun c_4 => ?_) (fun c_4 => ?_)
    · refine lv_aload_n hx hb dX0_wordsHold_27 rfl (lv_at hl 2 rfl) ?_
      refine va_get (D := D) (ci := 2) (v := .ref q) (C := RX0) (T := TX0) (N := 1) hx hb hts in_X0_wordsHold_X0 hown hK hP 0 rfl rfl 0 (by decide) (hts (.fieldLink RX0 9 "ZHeads$Head" "row" "LZHeads$Row;") (by decide +kernel)) (fun _ h9 => h9) rfl dX0_wordsHold_28 ?_
      refine lv_iload_n hx hb dX0_wordsHold_31 rfl (lv_at hl 1 rfl) ?_
      refine zr_iconst hx hb dX0_wordsHold_32 ?_
      refine zr_iadd hx hb dX0_wordsHold_33 ?_
      refine lv_iload_n hx hb dX0_wordsHold_34 rfl (lv_at hl 0 rfl) ?_
      refine zr_iadd hx hb dX0_wordsHold_35 ?_
      refine zc_V (As := [.int (zi_n (((zh_t F 8) + 1) + (zh_at F n (zh_t F 8))))]) (rest := []) ⟨hx, hb, hml, hown, hts⟩ (c_Row_at l D q a cA F n hF (by omega) (((zh_t F 8) + 1) + (zh_at F n (zh_t F 8))) (by omega)) (cwV 1 hts gX0_wordsHold_X2_at rfl rfl rfl (by decide +kernel) ⟨(Nat.le_of_ble_eq_true rfl), (Nat.le_of_ble_eq_true rfl)⟩) hP hK [1, 2] [0] rfl rfl (ci := 3) rfl rfl rfl rfl hl.1 rfl (Nat.le_of_ble_eq_true rfl) dX0_wordsHold_36 ⟨Nat.zero_le _, Nat.zero_le _⟩ (fun r hr1 => ?_)
      obtain ⟨rfl, b_5⟩ := hr1
      refine lv_istore_n (lv' := [(3, .int (zi_n (zh_at F n (((zh_t F 8) + 1) + (zh_at F n (zh_t F 8)))))), (2, .int (zi_n (zh_at F n (zh_t F 8)))), (1, .int (zi_n (zh_t F 8))), (0, .ref hh)]) hx hb dX0_wordsHold_39 rfl hl (by decide) rfl (fun ls hl => ?_)
      refine lv_aload_n hx hb dX0_wordsHold_40 rfl (lv_at hl 3 rfl) ?_
      refine va_get (D := D) (ci := 2) (v := .ref q) (C := RX0) (T := TX0) (N := 1) hx hb hts in_X0_wordsHold_X0 hown hK hP 0 rfl rfl 0 (by decide) (hts (.fieldLink RX0 9 "ZHeads$Head" "row" "LZHeads$Row;") (by decide +kernel)) (fun _ h9 => h9) rfl dX0_wordsHold_41 ?_
      refine lv_iload_n hx hb dX0_wordsHold_44 rfl (lv_at hl 2 rfl) ?_
      refine zr_iconst hx hb dX0_wordsHold_45 ?_
      refine zr_iadd hx hb dX0_wordsHold_46 ?_
      refine lv_iload_n hx hb dX0_wordsHold_47 rfl (lv_at hl 1 rfl) ?_
      refine zr_iadd hx hb dX0_wordsHold_48 ?_
      refine zc_V (As := [.int (zi_n (((zh_t F 8) + 2) + (zh_at F n (zh_t F 8))))]) (rest := []) ⟨hx, hb, hml, hown, hts⟩ (c_Row_two l D q a cA F n hF (by omega) (((zh_t F 8) + 2) + (zh_at F n (zh_t F 8))) (by omega)) (cwV 1 hts gX0_wordsHold_X2_two rfl rfl rfl (by decide +kernel) ⟨(Nat.le_of_ble_eq_true rfl), (Nat.le_of_ble_eq_true rfl)⟩) hP hK [1, 2] [0] rfl rfl (ci := 3) rfl rfl rfl rfl hl.1 rfl (Nat.le_of_ble_eq_true rfl) dX0_wordsHold_49 ⟨Nat.zero_le _, Nat.zero_le _⟩ (fun r hr1 => ?_)
      obtain ⟨rfl, b_6⟩ := hr1
      refine lv_istore (lv' := [(4, .int (zi_n (zh_two F n (((zh_t F 8) + 2) + (zh_at F n (zh_t F 8)))))), (3, .int (zi_n (zh_at F n (((zh_t F 8) + 1) + (zh_at F n (zh_t F 8)))))), (2, .int (zi_n (zh_at F n (zh_t F 8)))), (1, .int (zi_n (zh_t F 8))), (0, .ref hh)]) hx hb dX0_wordsHold_52 hl (by decide) rfl (fun ls hl => ?_)
      refine lv_iload_n hx hb dX0_wordsHold_54 rfl (lv_at hl 1 rfl) ?_
      refine lv_aload_n hx hb dX0_wordsHold_55 rfl (lv_at hl 4 rfl) ?_
      refine zc_V (As := []) (rest := [.int (zi_n (zh_at F n (((zh_t F 8) + 1) + (zh_at F n (zh_t F 8)))))]) ⟨hx, hb, hml, hown, hts⟩ (c_Hd_version l D hh q a cA F n hF (by omega) (by omega)) (cwV 0 hts gX0_wordsHold_X0_version rfl rfl rfl (by decide +kernel) ⟨(Nat.le_of_ble_eq_true rfl), (Nat.le_of_ble_eq_true rfl)⟩) hP hK [0, 1, 2] [0] rfl rfl (ci := 2) rfl rfl rfl rfl hl.1 rfl (Nat.le_of_ble_eq_true rfl) dX0_wordsHold_56 ⟨Nat.zero_le _, Nat.zero_le _⟩ (fun r hr1 => ?_)
      obtain ⟨rfl, b_7⟩ := hr1
      refine zr_iconst hx hb dX0_wordsHold_59 ?_
      refine zr_icmp_gt (tgt := 67) hx hb dX0_wordsHold_60 (by decide) (by omega) (by omega) (fun c_8 => ?_) (fun c_8 => ?_)
      · refine zr_bipush hx hb dX0_wordsHold_67 (by decide) ?_
        refine zr_icmp_lt (tgt := 78) hx hb dX0_wordsHold_69 (by decide) (by omega) (by omega) (fun c_9 => ?_) (fun c_9 => ?_)
        · refine zr_iconst hx hb dX0_wordsHold_78 ?_
          exact W.zret (v := zi_n 0) (ty := .boolean) hx hb hr zl_b0 (fun t ht hW => ⟨_, rfl, zl_f (by unfold zh_ok9; split <;> omega), ht⟩) (fun q hq => nomatch hq) dX0_wordsHold_79
        · refine lv_iload hx hb dX0_wordsHold_72 (lv_at hl 0 rfl) ?_
          refine zr_iconst hx hb dX0_wordsHold_74 ?_
          refine zr_icmp_ne (tgt := 80) hx hb dX0_wordsHold_75 (by decide) (by omega) (by omega) (fun c_10 => ?_) (fun c_10 => ?_)
          · refine lv_iload hx hb dX0_wordsHold_80 (lv_at hl 0 rfl) ?_
            refine zr_i2s hx hb dX0_wordsHold_82 (by omega) ?_
            refine zr_mabs hx hb (by rw [hml]; exact hl.1.symm) hown (hts (.methodLink RX0 106 Lib.Math.abs.name) (by decide +kernel)) (hts (.static Lib.Math.abs.name) (by decide +kernel)) (hts (.initialized "java/lang/Math") (by decide +kernel)) (hts _ (by decide +kernel)) (Nat.le_of_ble_eq_true rfl) (Nat.le_of_ble_eq_true rfl) (Nat.zero_le _) (Nat.zero_le _) (by omega) (by omega) dX0_wordsHold_83 ?_
            refine lv_istore (lv' := [(5, .int (zi_n (if 0 ≤ zi_sh (zh_two F n (((zh_t F 8) + 2) + (zh_at F n (zh_t F 8)))) then (zi_sh (zh_two F n (((zh_t F 8) + 2) + (zh_at F n (zh_t F 8))))) else -(zi_sh (zh_two F n (((zh_t F 8) + 2) + (zh_at F n (zh_t F 8)))))))), (4, .int (zi_n (zh_two F n (((zh_t F 8) + 2) + (zh_at F n (zh_t F 8)))))), (3, .int (zi_n (zh_at F n (((zh_t F 8) + 1) + (zh_at F n (zh_t F 8)))))), (2, .int (zi_n (zh_at F n (zh_t F 8)))), (1, .int (zi_n (zh_t F 8))), (0, .ref hh)]) hx hb dX0_wordsHold_86 hl (by decide) rfl (fun ls hl => ?_)
            refine lv_iload_n hx hb dX0_wordsHold_88 rfl (lv_at hl 4 rfl) ?_
            refine zr_iconst hx hb dX0_wordsHold_89 ?_
            refine zr_iadd hx hb dX0_wordsHold_90 ?_
            refine lv_iload_n hx hb dX0_wordsHold_91 rfl (lv_at hl 3 rfl) ?_
            refine zr_iadd hx hb dX0_wordsHold_92 ?_
            refine lv_iload hx hb dX0_wordsHold_93 (lv_at hl 0 rfl) ?_
            refine lv_iload_n hx hb dX0_wordsHold_95 rfl (lv_at hl 2 rfl) ?_
            refine zr_imul hx hb dX0_wordsHold_96 ?_
            refine zr_iadd hx hb dX0_wordsHold_97 ?_
            refine lv_aload_n hx hb dX0_wordsHold_98 rfl (lv_at hl 5 rfl) ?_
            refine zc_V (As := []) (rest := [.int (zi_n ((((zh_t F 8) + 4) + (zh_at F n (zh_t F 8))) + ((if 0 ≤ zi_sh (zh_two F n (((zh_t F 8) + 2) + (zh_at F n (zh_t F 8)))) then (zi_sh (zh_two F n (((zh_t F 8) + 2) + (zh_at F n (zh_t F 8))))) else -(zi_sh (zh_two F n (((zh_t F 8) + 2) + (zh_at F n (zh_t F 8)))))) * (zh_at F n (((zh_t F 8) + 1) + (zh_at F n (zh_t F 8)))))))]) ⟨hx, hb, hml, hown, hts⟩ (c_Hd_length l D hh q a cA F n hF (by omega) (by omega)) (cwV 0 hts gX0_wordsHold_X0_length rfl rfl rfl (by decide +kernel) ⟨(Nat.le_of_ble_eq_true rfl), (Nat.le_of_ble_eq_true rfl)⟩) hP hK [0, 1, 2] [0] rfl rfl (ci := 2) rfl rfl rfl rfl hl.1 rfl (Nat.le_of_ble_eq_true rfl) dX0_wordsHold_99 ⟨Nat.zero_le _, Nat.zero_le _⟩ (fun r hr1 => ?_)
            obtain ⟨rfl, b_11⟩ := hr1
            refine zr_icmp_gt (tgt := 109) hx hb dX0_wordsHold_102 (by decide) (by omega) (by omega) (fun c_12 => ?_) (fun c_12 => ?_)
            · refine zr_iconst hx hb dX0_wordsHold_109 ?_
              exact W.zret (v := zi_n 0) (ty := .boolean) hx hb hr zl_b0 (fun t ht hW => ⟨_, rfl, zl_f (by unfold zh_ok9; split <;> omega), ht⟩) (fun q hq => nomatch hq) dX0_wordsHold_110
            · refine zr_iconst hx hb dX0_wordsHold_105 ?_
              refine lv_goto (tgt := 110) hx hb dX0_wordsHold_106 (by decide) ?_
              exact W.zret (v := zi_n 1) (ty := .boolean) hx hb hr zl_b1 (fun t ht hW => ⟨_, rfl, zl_t (by unfold zh_ok9; split <;> omega), ht⟩) (fun q hq => nomatch hq) dX0_wordsHold_110
          · refine zr_iconst hx hb dX0_wordsHold_78 ?_
            exact W.zret (v := zi_n 0) (ty := .boolean) hx hb hr zl_b0 (fun t ht hW => ⟨_, rfl, zl_f (by unfold zh_ok9; split <;> omega), ht⟩) (fun q hq => nomatch hq) dX0_wordsHold_79
      · refine zr_iconst hx hb dX0_wordsHold_63 ?_
        refine lv_goto (tgt := 69) hx hb dX0_wordsHold_64 (by decide) ?_
        refine zr_icmp_lt (tgt := 78) hx hb dX0_wordsHold_69 (by decide) (by omega) (by omega) (fun c_13 => ?_) (fun c_13 => ?_)
        · refine zr_iconst hx hb dX0_wordsHold_78 ?_
          exact W.zret (v := zi_n 0) (ty := .boolean) hx hb hr zl_b0 (fun t ht hW => ⟨_, rfl, zl_f (by unfold zh_ok9; split <;> omega), ht⟩) (fun q hq => nomatch hq) dX0_wordsHold_79
        · refine lv_iload hx hb dX0_wordsHold_72 (lv_at hl 0 rfl) ?_
          refine zr_iconst hx hb dX0_wordsHold_74 ?_
          refine zr_icmp_ne (tgt := 80) hx hb dX0_wordsHold_75 (by decide) (by omega) (by omega) (fun c_14 => ?_) (fun c_14 => ?_)
          · refine lv_iload hx hb dX0_wordsHold_80 (lv_at hl 0 rfl) ?_
            refine zr_i2s hx hb dX0_wordsHold_82 (by omega) ?_
            refine zr_mabs hx hb (by rw [hml]; exact hl.1.symm) hown (hts (.methodLink RX0 106 Lib.Math.abs.name) (by decide +kernel)) (hts (.static Lib.Math.abs.name) (by decide +kernel)) (hts (.initialized "java/lang/Math") (by decide +kernel)) (hts _ (by decide +kernel)) (Nat.le_of_ble_eq_true rfl) (Nat.le_of_ble_eq_true rfl) (Nat.zero_le _) (Nat.zero_le _) (by omega) (by omega) dX0_wordsHold_83 ?_
            refine lv_istore (lv' := [(5, .int (zi_n (if 0 ≤ zi_sh (zh_two F n (((zh_t F 8) + 2) + (zh_at F n (zh_t F 8)))) then (zi_sh (zh_two F n (((zh_t F 8) + 2) + (zh_at F n (zh_t F 8))))) else -(zi_sh (zh_two F n (((zh_t F 8) + 2) + (zh_at F n (zh_t F 8)))))))), (4, .int (zi_n (zh_two F n (((zh_t F 8) + 2) + (zh_at F n (zh_t F 8)))))), (3, .int (zi_n (zh_at F n (((zh_t F 8) + 1) + (zh_at F n (zh_t F 8)))))), (2, .int (zi_n (zh_at F n (zh_t F 8)))), (1, .int (zi_n (zh_t F 8))), (0, .ref hh)]) hx hb dX0_wordsHold_86 hl (by decide) rfl (fun ls hl => ?_)
            refine lv_iload_n hx hb dX0_wordsHold_88 rfl (lv_at hl 4 rfl) ?_
            refine zr_iconst hx hb dX0_wordsHold_89 ?_
            refine zr_iadd hx hb dX0_wordsHold_90 ?_
            refine lv_iload_n hx hb dX0_wordsHold_91 rfl (lv_at hl 3 rfl) ?_
            refine zr_iadd hx hb dX0_wordsHold_92 ?_
            refine lv_iload hx hb dX0_wordsHold_93 (lv_at hl 0 rfl) ?_
            refine lv_iload_n hx hb dX0_wordsHold_95 rfl (lv_at hl 2 rfl) ?_
            refine zr_imul hx hb dX0_wordsHold_96 ?_
            refine zr_iadd hx hb dX0_wordsHold_97 ?_
            refine lv_aload_n hx hb dX0_wordsHold_98 rfl (lv_at hl 5 rfl) ?_
            refine zc_V (As := []) (rest := [.int (zi_n ((((zh_t F 8) + 4) + (zh_at F n (zh_t F 8))) + ((if 0 ≤ zi_sh (zh_two F n (((zh_t F 8) + 2) + (zh_at F n (zh_t F 8)))) then (zi_sh (zh_two F n (((zh_t F 8) + 2) + (zh_at F n (zh_t F 8))))) else -(zi_sh (zh_two F n (((zh_t F 8) + 2) + (zh_at F n (zh_t F 8)))))) * (zh_at F n (((zh_t F 8) + 1) + (zh_at F n (zh_t F 8)))))))]) ⟨hx, hb, hml, hown, hts⟩ (c_Hd_length l D hh q a cA F n hF (by omega) (by omega)) (cwV 0 hts gX0_wordsHold_X0_length rfl rfl rfl (by decide +kernel) ⟨(Nat.le_of_ble_eq_true rfl), (Nat.le_of_ble_eq_true rfl)⟩) hP hK [0, 1, 2] [0] rfl rfl (ci := 2) rfl rfl rfl rfl hl.1 rfl (Nat.le_of_ble_eq_true rfl) dX0_wordsHold_99 ⟨Nat.zero_le _, Nat.zero_le _⟩ (fun r hr1 => ?_)
            obtain ⟨rfl, b_15⟩ := hr1
            refine zr_icmp_gt (tgt := 109) hx hb dX0_wordsHold_102 (by decide) (by omega) (by omega) (fun c_16 => ?_) (fun c_16 => ?_)
            · refine zr_iconst hx hb dX0_wordsHold_109 ?_
              exact W.zret (v := zi_n 0) (ty := .boolean) hx hb hr zl_b0 (fun t ht hW => ⟨_, rfl, zl_f (by unfold zh_ok9; split <;> omega), ht⟩) (fun q hq => nomatch hq) dX0_wordsHold_110
            · refine zr_iconst hx hb dX0_wordsHold_105 ?_
              refine lv_goto (tgt := 110) hx hb dX0_wordsHold_106 (by decide) ?_
              exact W.zret (v := zi_n 1) (ty := .boolean) hx hb hr zl_b1 (fun t ht hW => ⟨_, rfl, zl_t (by unfold zh_ok9; split <;> omega), ht⟩) (fun q hq => nomatch hq) dX0_wordsHold_110
          · refine zr_iconst hx hb dX0_wordsHold_78 ?_
            exact W.zret (v := zi_n 0) (ty := .boolean) hx hb hr zl_b0 (fun t ht hW => ⟨_, rfl, zl_f (by unfold zh_ok9; split <;> omega), ht⟩) (fun q hq => nomatch hq) dX0_wordsHold_79
    · refine zr_iconst hx hb dX0_wordsHold_25 ?_
      exact W.zret (v := zi_n 0) (ty := .boolean) hx hb hr zl_b0 (fun t ht hW => ⟨_, rfl, zl_f (by unfold zh_ok9; split <;> omega), ht⟩) (fun q hq => nomatch hq) dX0_wordsHold_26

theorem in_X0_endsHold_X0 : ∀ w ∈ u_ws RX0 TX0 1, w ∈ wsX0_endsHold := by decide +kernel
set_option maxHeartbeats 4000000 in
set_option maxRecDepth 100000 in
theorem c_Hd_endsHold (l : Launch) (D : va_G) (hh q a : Nat) (cA : ClassId) (F : Nat → Int) (n : Int) (hF : zi_By F) (hn : 0 ≤ n ∧ n ≤ 600) (h64 : 64 ≤ n) (hL : zh_len F n ≤ n) : Met l yX0_endsHold wsX0_endsHold ({ frames := 4, cells := 0, slots := 0, locals := 83 }) (va_Pc [.ref hh] (zp_Q D vwCl [(hh, .inr (2, [.ref q])), (q, .inr (3, [.ref a, .int (zi_n n)])), (a, .inl (cA, 600, .inl (zi_F F)))] [(cA, .int)])) (vp_Si (fun r => (r = zi_n 1 ∧ (64 ≤ zh_ends F ∧ ∃ j : Int, zh_ends F ≤ j ∧ j < zh_len F n ∧ F j.toNat = 0)) ∨ (r = zi_n 0 ∧ ¬ (64 ≤ zh_ends F ∧ ∃ j : Int, zh_ends F ≤ j ∧ j < zh_len F n ∧ F j.toNat = 0)))) 0 0 (fun _ => False) := by
  refine Met.ofW (cc := cX0_endsHold) (maxL := 4) (ret := (some .boolean)) (by decide) rfl ?_
  intro p e s m args below meth c s₁ B hml hv
  obtain ⟨rfl, hP, hK⟩ := hv
  have hx := B.exec
  have hb := B.bytes
  have hr := B.returns
  have hts := atoms_spec (ws := wsX0_endsHold) B.pre
  have hown : s.vm.findClass RX0 = some m.cls := findClass_of_methodNamed B.named
  have hlocks := B.notSynchronized
  have hl := lv_entry ([.ref hh]) (n := 4) (Nat.le_of_ble_eq_true rfl)
  rw [lg_entry_eq]
  generalize (lg_sl ([.ref hh]) ++ List.replicate (4 - (lg_sl ([.ref hh])).length) Slot.unset).toArray = ls at hl ⊢
  have hl : lv_has ls 4 [(0, .ref hh)] := hl
  refine lv_aload_n hx hb dX0_endsHold_0 rfl (lv_at hl 0 rfl) ?_
  refine zc_V (As := []) (rest := []) ⟨hx, hb, hml, hown, hts⟩ (c_Hd_ends l D hh q a cA F n hF (by omega) (by omega)) (cwV 0 hts gX0_endsHold_X0_ends rfl rfl rfl (by decide +kernel) ⟨(Nat.le_of_ble_eq_true rfl), (Nat.le_of_ble_eq_true rfl)⟩) hP hK [0, 1, 2] [0] rfl rfl (ci := 2) rfl rfl rfl rfl hl.1 rfl (Nat.le_of_ble_eq_true rfl) dX0_endsHold_1 ⟨Nat.zero_le _, Nat.zero_le _⟩ (fun r hr1 => ?_)
  obtain ⟨rfl, b_1⟩ := hr1
  refine lv_istore_n (lv' := [(1, .int (zi_n (zh_ends F))), (0, .ref hh)]) hx hb dX0_endsHold_4 rfl hl (by decide) rfl (fun ls hl => ?_)
  refine lv_aload_n hx hb dX0_endsHold_5 rfl (lv_at hl 1 rfl) ?_
  refine zc_V (As := []) (rest := []) ⟨hx, hb, hml, hown, hts⟩ (c_Hd_length l D hh q a cA F n hF (by omega) (by omega)) (cwV 0 hts gX0_endsHold_X0_length rfl rfl rfl (by decide +kernel) ⟨(Nat.le_of_ble_eq_true rfl), (Nat.le_of_ble_eq_true rfl)⟩) hP hK [0, 1, 2] [0] rfl rfl (ci := 2) rfl rfl rfl rfl hl.1 rfl (Nat.le_of_ble_eq_true rfl) dX0_endsHold_6 ⟨Nat.zero_le _, Nat.zero_le _⟩ (fun r hr1 => ?_)
  obtain ⟨rfl, b_2⟩ := hr1
  refine lv_istore_n (lv' := [(2, .int (zi_n (zh_len F n))), (1, .int (zi_n (zh_ends F))), (0, .ref hh)]) hx hb dX0_endsHold_9 rfl hl (by decide) rfl (fun ls hl => ?_)
  refine lv_iload_n hx hb dX0_endsHold_10 rfl (lv_at hl 1 rfl) ?_
  refine zr_bipush hx hb dX0_endsHold_11 (by decide) ?_
  refine zr_icmp_ge (tgt := 18) hx hb dX0_endsHold_13 (by decide) (by omega) (by omega) (fun c_3 => ?_) (fun c_3 => ?_)
  · refine lv_iload_n hx hb dX0_endsHold_18 rfl (lv_at hl 1 rfl) ?_
    refine lv_istore_n (lv' := [(3, .int (zi_n (zh_ends F))), (2, .int (zi_n (zh_len F n))), (1, .int (zi_n (zh_ends F))), (0, .ref hh)]) hx hb dX0_endsHold_19 rfl hl (by decide) rfl (fun ls hl => ?_)
    have key : ∀ (N : Nat) (i : Int), (zh_ends F ≤ i) → (∀ j : Int, zh_ends F ≤ j → j < i → F j.toNat ≠ 0) → (i ≤ 70000) → 70000 - i < N → ∀ ls : Array Slot, lv_has ls 4 [(3, .int (zi_n i)), (2, .int (zi_n (zh_len F n))), (1, .int (zi_n (zh_ends F))), (0, .ref hh)] → W p l e (headSpec wsX0_endsHold ({ frames := 4, cells := 0, slots := 0, locals := 83 })).room s m ([.ref hh] : List Value).toArray below meth c s.heap [] 0 0 (MQ below (vp_Si (fun r => (r = zi_n 1 ∧ (64 ≤ zh_ends F ∧ ∃ j : Int, zh_ends F ≤ j ∧ j < zh_len F n ∧ F j.toNat = 0)) ∨ (r = zi_n 0 ∧ ¬ (64 ≤ zh_ends F ∧ ∃ j : Int, zh_ends F ≤ j ∧ j < zh_len F n ∧ F j.toNat = 0)))) ([.ref hh] : List Value).toArray s 0 0 (fun _ => False)) (F0 m 20 ls []) := by
      intro N
      induction N with
      | zero => intro i h1 h2 h3 hm ls hl; exfalso; omega
      | succ N ih =>
        intro i h1 h2 h3 hm ls hl
        refine lv_iload_n hx hb dX0_endsHold_20 rfl (lv_at hl 0 rfl) ?_
        refine lv_iload_n hx hb dX0_endsHold_21 rfl (lv_at hl 1 rfl) ?_
        refine zr_icmp_ge (tgt := 44) hx hb dX0_endsHold_22 (by decide) (by omega) (by omega) (fun c_4 => ?_) (fun c_4 => ?_)
        · refine zr_iconst hx hb dX0_endsHold_44 ?_
          exact W.zret (v := zi_n 0) (ty := .boolean) hx hb hr zl_b0 (fun t ht hW => ⟨_, rfl, zl_f (fun ⟨_, j, j1, j2, j3⟩ => h2 j j1 (by omega) j3), ht⟩) (fun q hq => nomatch hq) dX0_endsHold_45
        · refine lv_aload_n hx hb dX0_endsHold_25 rfl (lv_at hl 3 rfl) ?_
          refine va_get (D := D) (ci := 2) (v := .ref q) (C := RX0) (T := TX0) (N := 1) hx hb hts in_X0_endsHold_X0 hown hK hP 0 rfl rfl 0 (by decide) (hts (.fieldLink RX0 9 "ZHeads$Head" "row" "LZHeads$Row;") (by decide +kernel)) (fun _ h9 => h9) rfl dX0_endsHold_26 ?_
          refine lv_iload_n hx hb dX0_endsHold_29 rfl (lv_at hl 0 rfl) ?_
          refine zc_V (As := [.int (zi_n i)]) (rest := []) ⟨hx, hb, hml, hown, hts⟩ (c_Row_at l D q a cA F n hF (by omega) i (by omega)) (cwV 1 hts gX0_endsHold_X2_at rfl rfl rfl (by decide +kernel) ⟨(Nat.le_of_ble_eq_true rfl), (Nat.le_of_ble_eq_true rfl)⟩) hP hK [1, 2] [0] rfl rfl (ci := 3) rfl rfl rfl rfl hl.1 rfl (Nat.le_of_ble_eq_true rfl) dX0_endsHold_30 ⟨Nat.zero_le _, Nat.zero_le _⟩ (fun r hr1 => ?_)
          obtain ⟨rfl, b_5⟩ := hr1
          refine zr_if_ne (tgt := 38) hx hb dX0_endsHold_33 (by decide) (by omega) (fun c_6 => ?_) (fun c_6 => ?_)
          · refine zr_iinc (lv' := [(3, .int (zi_n (i + 1))), (2, .int (zi_n (zh_len F n))), (1, .int (zi_n (zh_ends F))), (0, .ref hh)]) hx hb dX0_endsHold_38 hl (k := 0) rfl (by decide) rfl (fun ls hl => ?_)
            refine lv_goto (tgt := 20) hx hb dX0_endsHold_41 (by decide) ?_
            exact ih (i + 1) (by omega) (fun j a b => by
      rcases (show j < i ∨ j = i by omega) with q | q
      · exact h2 j a q
      · subst q; rw [zh_at_in ⟨by omega, by omega⟩] at c_6; exact c_6) (by omega) (by omega) _ (lv_sub hl [0, 1, 2, 3] rfl)
          · refine zr_iconst hx hb dX0_endsHold_36 ?_
            exact W.zret (v := zi_n 1) (ty := .boolean) hx hb hr zl_b1 (fun t ht hW => ⟨_, rfl, zl_t ⟨by omega, i, by omega, by omega, by rw [zh_at_in ⟨by omega, by omega⟩] at c_6; exact c_6⟩, ht⟩) (fun q hq => nomatch hq) dX0_endsHold_37
    exact key 70001 (zh_ends F) (by omega) (fun j a b => by omega) (by omega) (by omega) _ hl
  · refine zr_iconst hx hb dX0_endsHold_16 ?_
    exact W.zret (v := zi_n 0) (ty := .boolean) hx hb hr zl_b0 (fun t ht hW => ⟨_, rfl, zl_f (fun h => by omega), ht⟩) (fun q hq => nomatch hq) dX0_endsHold_17

set_option maxHeartbeats 4000000 in
set_option maxRecDepth 100000 in
theorem c_Hd_moreHolds (l : Launch) (D : va_G) (hh q a : Nat) (cA : ClassId) (F : Nat → Int) (n : Int) (hF : zi_By F) (hn : 0 ≤ n ∧ n ≤ 600) (h64 : 64 ≤ n) : Met l yX0_moreHolds wsX0_moreHolds ({ frames := 4, cells := 0, slots := 0, locals := 83 }) (va_Pc [.ref hh] (zp_Q D vwCl [(hh, .inr (2, [.ref q])), (q, .inr (3, [.ref a, .int (zi_n n)])), (a, .inl (cA, 600, .inl (zi_F F)))] [(cA, .int)])) (vp_Si (fun r => (r = zi_n 1 ∧ (zh_mw F n ≠ -1 ∧ 64 ≤ zh_more F ∧ zh_more F + (2 + 2 * zh_mw F n) ≤ zh_len F n)) ∨ (r = zi_n 0 ∧ ¬ (zh_mw F n ≠ -1 ∧ 64 ≤ zh_more F ∧ zh_more F + (2 + 2 * zh_mw F n) ≤ zh_len F n)))) 0 0 (fun _ => False) := by
  refine Met.ofW (cc := cX0_moreHolds) (maxL := 2) (ret := (some .boolean)) (by decide) rfl ?_
  intro p e s m args below meth c s₁ B hml hv
  obtain ⟨rfl, hP, hK⟩ := hv
  have hx := B.exec
  have hb := B.bytes
  have hr := B.returns
  have hts := atoms_spec (ws := wsX0_moreHolds) B.pre
  have hown : s.vm.findClass RX0 = some m.cls := findClass_of_methodNamed B.named
  have hlocks := B.notSynchronized
  have hl := lv_entry ([.ref hh]) (n := 2) (Nat.le_of_ble_eq_true rfl)
  rw [lg_entry_eq]
  generalize (lg_sl ([.ref hh]) ++ List.replicate (2 - (lg_sl ([.ref hh])).length) Slot.unset).toArray = ls at hl ⊢
  have hl : lv_has ls 2 [(0, .ref hh)] := hl
  refine lv_aload_n hx hb dX0_moreHolds_0 rfl (lv_at hl 0 rfl) ?_
  refine zc_V (As := []) (rest := []) ⟨hx, hb, hml, hown, hts⟩ (c_Hd_moreWords l D hh q a cA F n hF (by omega) (by omega)) (cwV 0 hts gX0_moreHolds_X0_moreWords rfl rfl rfl (by decide +kernel) ⟨(Nat.le_of_ble_eq_true rfl), (Nat.le_of_ble_eq_true rfl)⟩) hP hK [0, 1, 2] [0] rfl rfl (ci := 2) rfl rfl rfl rfl hl.1 rfl (Nat.le_of_ble_eq_true rfl) dX0_moreHolds_1 ⟨Nat.zero_le _, Nat.zero_le _⟩ (fun r hr1 => ?_)
  obtain ⟨rfl, b_1⟩ := hr1
  refine lv_istore_n (lv' := [(1, .int (zi_n (zh_mw F n))), (0, .ref hh)]) hx hb dX0_moreHolds_4 rfl hl (by decide) rfl (fun ls hl => ?_)
  refine lv_iload_n hx hb dX0_moreHolds_5 rfl (lv_at hl 0 rfl) ?_
  refine zr_iconst hx hb dX0_moreHolds_6 ?_
  refine zr_icmp_eq (tgt := 33) hx hb dX0_moreHolds_7 (by decide) (by omega) (by omega) (fun c_2 => ?_) (fun c_2 => ?_)
  · refine zr_iconst hx hb dX0_moreHolds_33 ?_
    exact W.zret (v := zi_n 0) (ty := .boolean) hx hb hr zl_b0 (fun t ht hW => ⟨_, rfl, zl_f (by omega), ht⟩) (fun q hq => nomatch hq) dX0_moreHolds_34
  · refine lv_aload_n hx hb dX0_moreHolds_10 rfl (lv_at hl 1 rfl) ?_
    refine zc_V (As := []) (rest := []) ⟨hx, hb, hml, hown, hts⟩ (c_Hd_more l D hh q a cA F n hF (by omega) (by omega)) (cwV 0 hts gX0_moreHolds_X0_more rfl rfl rfl (by decide +kernel) ⟨(Nat.le_of_ble_eq_true rfl), (Nat.le_of_ble_eq_true rfl)⟩) hP hK [0, 1, 2] [0] rfl rfl (ci := 2) rfl rfl rfl rfl hl.1 rfl (Nat.le_of_ble_eq_true rfl) dX0_moreHolds_11 ⟨Nat.zero_le _, Nat.zero_le _⟩ (fun r hr1 => ?_)
    obtain ⟨rfl, b_3⟩ := hr1
    refine zr_iconst hx hb dX0_moreHolds_14 ?_
    refine zr_iconst hx hb dX0_moreHolds_15 ?_
    refine lv_iload_n hx hb dX0_moreHolds_16 rfl (lv_at hl 0 rfl) ?_
    refine zr_imul hx hb dX0_moreHolds_17 ?_
    refine zr_iadd hx hb dX0_moreHolds_18 ?_
    refine lv_aload_n hx hb dX0_moreHolds_19 rfl (lv_at hl 1 rfl) ?_
    refine zc_V (As := []) (rest := [.int (zi_n (2 + (2 * (zh_mw F n)))), .int (zi_n (zh_more F))]) ⟨hx, hb, hml, hown, hts⟩ (c_Hd_length l D hh q a cA F n hF (by omega) (by omega)) (cwV 0 hts gX0_moreHolds_X0_length rfl rfl rfl (by decide +kernel) ⟨(Nat.le_of_ble_eq_true rfl), (Nat.le_of_ble_eq_true rfl)⟩) hP hK [0, 1, 2] [0] rfl rfl (ci := 2) rfl rfl rfl rfl hl.1 rfl (Nat.le_of_ble_eq_true rfl) dX0_moreHolds_20 ⟨Nat.zero_le _, Nat.zero_le _⟩ (fun r hr1 => ?_)
    obtain ⟨rfl, b_4⟩ := hr1
    refine zc_S (As := [.int (zi_n (zh_more F)), .int (zi_n (2 + (2 * (zh_mw F n)))), .int (zi_n (zh_len F n))]) (rest := []) ⟨hx, hb, hml, hown, hts⟩ (c_Hd_fits l (zh_more F) (2 + (2 * (zh_mw F n))) (zh_len F n) (by omega) (by omega) (by omega) (by omega)) (va_cwS 3 hts gX0_moreHolds_X0_fits rfl rfl rfl (by decide +kernel) ⟨(Nat.le_of_ble_eq_true rfl), (Nat.le_of_ble_eq_true rfl)⟩) rfl hl.1 rfl (Nat.le_of_ble_eq_true rfl) dX0_moreHolds_23 ⟨Nat.zero_le _, Nat.zero_le _⟩ (fun r hr1 => ?_)
    rcases hr1 with ⟨rfl, c_5⟩ | ⟨rfl, c_5⟩
    · refine zr_if_eq (tgt := 33) hx hb dX0_moreHolds_26 (by decide) (by omega) (fun c => absurd c (by decide)) (fun c_6 => ?_)
      refine zr_iconst hx hb dX0_moreHolds_29 ?_
      refine lv_goto (tgt := 34) hx hb dX0_moreHolds_30 (by decide) ?_
      exact W.zret (v := zi_n 1) (ty := .boolean) hx hb hr zl_b1 (fun t ht hW => ⟨_, rfl, zl_t (by omega), ht⟩) (fun q hq => nomatch hq) dX0_moreHolds_34
    · refine zr_if_eq (tgt := 33) hx hb dX0_moreHolds_26 (by decide) (by omega) (fun c_7 => ?_) (fun c => absurd c (by decide))
      refine zr_iconst hx hb dX0_moreHolds_33 ?_
      exact W.zret (v := zi_n 0) (ty := .boolean) hx hb hr zl_b0 (fun t ht hW => ⟨_, rfl, zl_f (by omega), ht⟩) (fun q hq => nomatch hq) dX0_moreHolds_34

theorem in_X0_thirdHolds_X0 : ∀ w ∈ u_ws RX0 TX0 1, w ∈ wsX0_thirdHolds := by decide +kernel
set_option maxHeartbeats 4000000 in
set_option maxRecDepth 100000 in
theorem c_Hd_thirdHolds (l : Launch) (D : va_G) (hh q a : Nat) (cA : ClassId) (F : Nat → Int) (n : Int) (hF : zi_By F) (hn : 0 ≤ n ∧ n ≤ 600) (h64 : 64 ≤ n) : Met l yX0_thirdHolds wsX0_thirdHolds ({ frames := 4, cells := 0, slots := 0, locals := 83 }) (va_Pc [.ref hh] (zp_Q D vwCl [(hh, .inr (2, [.ref q])), (q, .inr (3, [.ref a, .int (zi_n n)])), (a, .inl (cA, 600, .inl (zi_F F)))] [(cA, .int)])) (vp_Si (fun r => (r = zi_n 1 ∧ (zh_at F n (zh_third F n) ≠ -1 ∧ 64 ≤ zh_third F n ∧ zh_third F n + (1 + 2 * zh_at F n (zh_third F n)) ≤ zh_len F n)) ∨ (r = zi_n 0 ∧ ¬ (zh_at F n (zh_third F n) ≠ -1 ∧ 64 ≤ zh_third F n ∧ zh_third F n + (1 + 2 * zh_at F n (zh_third F n)) ≤ zh_len F n)))) 0 0 (fun _ => False) := by
  refine Met.ofW (cc := cX0_thirdHolds) (maxL := 3) (ret := (some .boolean)) (by decide) rfl ?_
  intro p e s m args below meth c s₁ B hml hv
  obtain ⟨rfl, hP, hK⟩ := hv
  have hx := B.exec
  have hb := B.bytes
  have hr := B.returns
  have hts := atoms_spec (ws := wsX0_thirdHolds) B.pre
  have hown : s.vm.findClass RX0 = some m.cls := findClass_of_methodNamed B.named
  have hlocks := B.notSynchronized
  have hl := lv_entry ([.ref hh]) (n := 3) (Nat.le_of_ble_eq_true rfl)
  rw [lg_entry_eq]
  generalize (lg_sl ([.ref hh]) ++ List.replicate (3 - (lg_sl ([.ref hh])).length) Slot.unset).toArray = ls at hl ⊢
  have hl : lv_has ls 3 [(0, .ref hh)] := hl
  refine lv_aload_n hx hb dX0_thirdHolds_0 rfl (lv_at hl 0 rfl) ?_
  refine zc_V (As := []) (rest := []) ⟨hx, hb, hml, hown, hts⟩ (c_Hd_thirdWord l D hh q a cA F n hF (by omega) (by omega)) (cwV 0 hts gX0_thirdHolds_X0_thirdWord rfl rfl rfl (by decide +kernel) ⟨(Nat.le_of_ble_eq_true rfl), (Nat.le_of_ble_eq_true rfl)⟩) hP hK [0, 1, 2] [0] rfl rfl (ci := 2) rfl rfl rfl rfl hl.1 rfl (Nat.le_of_ble_eq_true rfl) dX0_thirdHolds_1 ⟨Nat.zero_le _, Nat.zero_le _⟩ (fun r hr1 => ?_)
  obtain ⟨rfl, b_1⟩ := hr1
  refine lv_istore_n (lv' := [(1, .int (zi_n (zh_third F n))), (0, .ref hh)]) hx hb dX0_thirdHolds_4 rfl hl (by decide) rfl (fun ls hl => ?_)
  refine lv_aload_n hx hb dX0_thirdHolds_5 rfl (lv_at hl 1 rfl) ?_
  refine va_get (D := D) (ci := 2) (v := .ref q) (C := RX0) (T := TX0) (N := 1) hx hb hts in_X0_thirdHolds_X0 hown hK hP 0 rfl rfl 0 (by decide) (hts (.fieldLink RX0 9 "ZHeads$Head" "row" "LZHeads$Row;") (by decide +kernel)) (fun _ h9 => h9) rfl dX0_thirdHolds_6 ?_
  refine lv_iload_n hx hb dX0_thirdHolds_9 rfl (lv_at hl 0 rfl) ?_
  refine zc_V (As := [.int (zi_n (zh_third F n))]) (rest := []) ⟨hx, hb, hml, hown, hts⟩ (c_Row_at l D q a cA F n hF (by omega) (zh_third F n) (by omega)) (cwV 1 hts gX0_thirdHolds_X2_at rfl rfl rfl (by decide +kernel) ⟨(Nat.le_of_ble_eq_true rfl), (Nat.le_of_ble_eq_true rfl)⟩) hP hK [1, 2] [0] rfl rfl (ci := 3) rfl rfl rfl rfl hl.1 rfl (Nat.le_of_ble_eq_true rfl) dX0_thirdHolds_10 ⟨Nat.zero_le _, Nat.zero_le _⟩ (fun r hr1 => ?_)
  obtain ⟨rfl, b_2⟩ := hr1
  refine lv_istore_n (lv' := [(2, .int (zi_n (zh_at F n (zh_third F n)))), (1, .int (zi_n (zh_third F n))), (0, .ref hh)]) hx hb dX0_thirdHolds_13 rfl hl (by decide) rfl (fun ls hl => ?_)
  refine lv_iload_n hx hb dX0_thirdHolds_14 rfl (lv_at hl 0 rfl) ?_
  refine zr_iconst hx hb dX0_thirdHolds_15 ?_
  refine zr_icmp_eq (tgt := 39) hx hb dX0_thirdHolds_16 (by decide) (by omega) (by omega) (fun c_3 => ?_) (fun c_3 => ?_)
  · refine zr_iconst hx hb dX0_thirdHolds_39 ?_
    exact W.zret (v := zi_n 0) (ty := .boolean) hx hb hr zl_b0 (fun t ht hW => ⟨_, rfl, zl_f (by omega), ht⟩) (fun q hq => nomatch hq) dX0_thirdHolds_40
  · refine lv_iload_n hx hb dX0_thirdHolds_19 rfl (lv_at hl 1 rfl) ?_
    refine zr_iconst hx hb dX0_thirdHolds_20 ?_
    refine zr_iconst hx hb dX0_thirdHolds_21 ?_
    refine lv_iload_n hx hb dX0_thirdHolds_22 rfl (lv_at hl 0 rfl) ?_
    refine zr_imul hx hb dX0_thirdHolds_23 ?_
    refine zr_iadd hx hb dX0_thirdHolds_24 ?_
    refine lv_aload_n hx hb dX0_thirdHolds_25 rfl (lv_at hl 2 rfl) ?_
    refine zc_V (As := []) (rest := [.int (zi_n (1 + (2 * (zh_at F n (zh_third F n))))), .int (zi_n (zh_third F n))]) ⟨hx, hb, hml, hown, hts⟩ (c_Hd_length l D hh q a cA F n hF (by omega) (by omega)) (cwV 0 hts gX0_thirdHolds_X0_length rfl rfl rfl (by decide +kernel) ⟨(Nat.le_of_ble_eq_true rfl), (Nat.le_of_ble_eq_true rfl)⟩) hP hK [0, 1, 2] [0] rfl rfl (ci := 2) rfl rfl rfl rfl hl.1 rfl (Nat.le_of_ble_eq_true rfl) dX0_thirdHolds_26 ⟨Nat.zero_le _, Nat.zero_le _⟩ (fun r hr1 => ?_)
    obtain ⟨rfl, b_4⟩ := hr1
    refine zc_S (As := [.int (zi_n (zh_third F n)), .int (zi_n (1 + (2 * (zh_at F n (zh_third F n))))), .int (zi_n (zh_len F n))]) (rest := []) ⟨hx, hb, hml, hown, hts⟩ (c_Hd_fits l (zh_third F n) (1 + (2 * (zh_at F n (zh_third F n)))) (zh_len F n) (by omega) (by omega) (by omega) (by omega)) (va_cwS 3 hts gX0_thirdHolds_X0_fits rfl rfl rfl (by decide +kernel) ⟨(Nat.le_of_ble_eq_true rfl), (Nat.le_of_ble_eq_true rfl)⟩) rfl hl.1 rfl (Nat.le_of_ble_eq_true rfl) dX0_thirdHolds_29 ⟨Nat.zero_le _, Nat.zero_le _⟩ (fun r hr1 => ?_)
    rcases hr1 with ⟨rfl, c_5⟩ | ⟨rfl, c_5⟩
    · refine zr_if_eq (tgt := 39) hx hb dX0_thirdHolds_32 (by decide) (by omega) (fun c => absurd c (by decide)) (fun c_6 => ?_)
      refine zr_iconst hx hb dX0_thirdHolds_35 ?_
      refine lv_goto (tgt := 40) hx hb dX0_thirdHolds_36 (by decide) ?_
      exact W.zret (v := zi_n 1) (ty := .boolean) hx hb hr zl_b1 (fun t ht hW => ⟨_, rfl, zl_t (by omega), ht⟩) (fun q hq => nomatch hq) dX0_thirdHolds_40
    · refine zr_if_eq (tgt := 39) hx hb dX0_thirdHolds_32 (by decide) (by omega) (fun c_7 => ?_) (fun c => absurd c (by decide))
      refine zr_iconst hx hb dX0_thirdHolds_39 ?_
      exact W.zret (v := zi_n 0) (ty := .boolean) hx hb hr zl_b0 (fun t ht hW => ⟨_, rfl, zl_f (by omega), ht⟩) (fun q hq => nomatch hq) dX0_thirdHolds_40
end
section
theorem in_X0_holds_X0 : ∀ w ∈ u_ws RX0 TX0 1, w ∈ wsX0_holds := by decide +kernel
set_option maxHeartbeats 4000000 in
set_option maxRecDepth 100000 in
theorem c_Hd_holds1 (l : Launch) (D : va_G) (hh q a : Nat) (cA : ClassId) (F : Nat → Int) (n : Int) (hF : zi_By F) (hn : 0 ≤ n ∧ n ≤ 600) : Met l yX0_holds wsX0_holds ({ frames := 1, cells := 0, slots := 0, locals := 21 }) (va_Pc [.ref hh, .int (zi_n 1)] (zp_Q D vwCl [(hh, .inr (2, [.ref q])), (q, .inr (3, [.ref a, .int (zi_n n)])), (a, .inl (cA, 600, .inl (zi_F F)))] [(cA, .int)])) (vp_Si (fun r => (r = zi_n 1 ∧ (zh_ok1 F n)) ∨ (r = zi_n 0 ∧ ¬ (zh_ok1 F n)))) 0 0 (fun _ => False) := by
  refine Met.ofW (cc := cX0_holds) (maxL := 2) (ret := (some .boolean)) (by decide) rfl ?_
  intro p e s m args below meth c s₁ B hml hv
  obtain ⟨rfl, hP, hK⟩ := hv
  have hx := B.exec
  have hb := B.bytes
  have hr := B.returns
  have hts := atoms_spec (ws := wsX0_holds) B.pre
  have hown : s.vm.findClass RX0 = some m.cls := findClass_of_methodNamed B.named
  have hlocks := B.notSynchronized
  have hl := lv_entry ([.ref hh, .int (zi_n 1)]) (n := 2) (Nat.le_of_ble_eq_true rfl)
  rw [lg_entry_eq]
  generalize (lg_sl ([.ref hh, .int (zi_n 1)]) ++ List.replicate (2 - (lg_sl ([.ref hh, .int (zi_n 1)])).length) Slot.unset).toArray = ls at hl ⊢
  have hl : lv_has ls 2 [(0, .ref hh), (1, .int (zi_n 1))] := hl
  refine lv_iload_n hx hb dX0_holds_0 rfl (lv_at hl 1 rfl) ?_
  refine zr_tabIn (tgt := 72) hx hb dX0_holds_1 (by decide) (by decide) (by decide) rfl (by decide) ?_
  refine lv_aload_n hx hb dX0_holds_72 rfl (lv_at hl 0 rfl) ?_
  refine va_get (D := D) (ci := 2) (v := .ref q) (C := RX0) (T := TX0) (N := 1) hx hb hts in_X0_holds_X0 hown hK hP 0 rfl rfl 0 (by decide) (hts (.fieldLink RX0 9 "ZHeads$Head" "row" "LZHeads$Row;") (by decide +kernel)) (fun _ h9 => h9) rfl dX0_holds_73 ?_
  refine zr_iconst hx hb dX0_holds_76 ?_
  refine zc_V (As := [.int (zi_n 0)]) (rest := []) ⟨hx, hb, hml, hown, hts⟩ (c_Row_has l D q a cA F n hF (by omega) 0 (by omega)) (cwV 1 hts gX0_holds_X2_has rfl rfl rfl (by decide +kernel) ⟨(Nat.le_of_ble_eq_true rfl), (Nat.le_of_ble_eq_true rfl)⟩) hP hK [1, 2] [0] rfl rfl (ci := 3) rfl rfl rfl rfl hl.1 rfl (Nat.le_of_ble_eq_true rfl) dX0_holds_77 ⟨Nat.zero_le _, Nat.zero_le _⟩ (fun r hr1 => ?_)
  rcases hr1 with ⟨rfl, c_1⟩ | ⟨rfl, c_1⟩
  · exact W.zret (v := zi_n 1) (ty := .boolean) hx hb hr zl_b1 (fun t ht hW => ⟨_, rfl, zl_t (by first | assumption | (unfold zh_ok1; omega) | (unfold zh_ok1; (repeat' split) <;> omega) | (unfold zh_ok1; exact Or.inr (by assumption)) | (unfold zh_ok1; exact Or.inl (by assumption)) | (unfold zh_ok1; intro h; rcases h with h | h <;> first | omega | contradiction)), ht⟩) (fun q hq => nomatch hq) dX0_holds_80
  · exact W.zret (v := zi_n 0) (ty := .boolean) hx hb hr zl_b0 (fun t ht hW => ⟨_, rfl, zl_f (by first | assumption | (unfold zh_ok1; omega) | (unfold zh_ok1; (repeat' split) <;> omega) | (unfold zh_ok1; exact Or.inr (by assumption)) | (unfold zh_ok1; exact Or.inl (by assumption)) | (unfold zh_ok1; intro h; rcases h with h | h <;> first | omega | contradiction)), ht⟩) (fun q hq => nomatch hq) dX0_holds_80

set_option maxHeartbeats 4000000 in
set_option maxRecDepth 100000 in
theorem c_Hd_holds2 (l : Launch) (D : va_G) (hh q a : Nat) (cA : ClassId) (F : Nat → Int) (n : Int) (hF : zi_By F) (hn : 0 ≤ n ∧ n ≤ 600) (h1 : 1 ≤ n) : Met l yX0_holds wsX0_holds ({ frames := 2, cells := 0, slots := 0, locals := 41 }) (va_Pc [.ref hh, .int (zi_n 2)] (zp_Q D vwCl [(hh, .inr (2, [.ref q])), (q, .inr (3, [.ref a, .int (zi_n n)])), (a, .inl (cA, 600, .inl (zi_F F)))] [(cA, .int)])) (vp_Si (fun r => (r = zi_n 1 ∧ (zh_ok2 F n)) ∨ (r = zi_n 0 ∧ ¬ (zh_ok2 F n)))) 0 0 (fun _ => False) := by
  refine Met.ofW (cc := cX0_holds) (maxL := 2) (ret := (some .boolean)) (by decide) rfl ?_
  intro p e s m args below meth c s₁ B hml hv
  obtain ⟨rfl, hP, hK⟩ := hv
  have hx := B.exec
  have hb := B.bytes
  have hr := B.returns
  have hts := atoms_spec (ws := wsX0_holds) B.pre
  have hown : s.vm.findClass RX0 = some m.cls := findClass_of_methodNamed B.named
  have hlocks := B.notSynchronized
  have hl := lv_entry ([.ref hh, .int (zi_n 2)]) (n := 2) (Nat.le_of_ble_eq_true rfl)
  rw [lg_entry_eq]
  generalize (lg_sl ([.ref hh, .int (zi_n 2)]) ++ List.replicate (2 - (lg_sl ([.ref hh, .int (zi_n 2)])).length) Slot.unset).toArray = ls at hl ⊢
  have hl : lv_has ls 2 [(0, .ref hh), (1, .int (zi_n 2))] := hl
  refine lv_iload_n hx hb dX0_holds_0 rfl (lv_at hl 1 rfl) ?_
  refine zr_tabIn (tgt := 81) hx hb dX0_holds_1 (by decide) (by decide) (by decide) rfl (by decide) ?_
  refine lv_aload_n hx hb dX0_holds_81 rfl (lv_at hl 0 rfl) ?_
  refine zc_V (As := []) (rest := []) ⟨hx, hb, hml, hown, hts⟩ (c_Hd_version l D hh q a cA F n hF (by omega) (by omega)) (cwV 0 hts gX0_holds_X0_version rfl rfl rfl (by decide +kernel) ⟨(Nat.le_of_ble_eq_true rfl), (Nat.le_of_ble_eq_true rfl)⟩) hP hK [0, 1, 2] [0] rfl rfl (ci := 2) rfl rfl rfl rfl hl.1 rfl (Nat.le_of_ble_eq_true rfl) dX0_holds_82 ⟨Nat.zero_le _, Nat.zero_le _⟩ (fun r hr1 => ?_)
  obtain ⟨rfl, b_1⟩ := hr1
  refine zr_iconst hx hb dX0_holds_85 ?_
  refine zr_bipush hx hb dX0_holds_86 (by decide) ?_
  refine zc_S (As := [.int (zi_n (F 0)), .int (zi_n 1), .int (zi_n 8)]) (rest := []) ⟨hx, hb, hml, hown, hts⟩ (c_Hd_isWithin l (F 0) 1 8 (by omega) (by omega) (by omega)) (va_cwS 3 hts gX0_holds_X0_isWithin rfl rfl rfl (by decide +kernel) ⟨(Nat.le_of_ble_eq_true rfl), (Nat.le_of_ble_eq_true rfl)⟩) rfl hl.1 rfl (Nat.le_of_ble_eq_true rfl) dX0_holds_88 ⟨Nat.zero_le _, Nat.zero_le _⟩ (fun r hr1 => ?_)
  rcases hr1 with ⟨rfl, c_2⟩ | ⟨rfl, c_2⟩
  · exact W.zret (v := zi_n 1) (ty := .boolean) hx hb hr zl_b1 (fun t ht hW => ⟨_, rfl, zl_t (by first | assumption | (unfold zh_ok2; omega) | (unfold zh_ok2; (repeat' split) <;> omega) | (unfold zh_ok2; exact Or.inr (by assumption)) | (unfold zh_ok2; exact Or.inl (by assumption)) | (unfold zh_ok2; intro h; rcases h with h | h <;> first | omega | contradiction)), ht⟩) (fun q hq => nomatch hq) dX0_holds_91
  · exact W.zret (v := zi_n 0) (ty := .boolean) hx hb hr zl_b0 (fun t ht hW => ⟨_, rfl, zl_f (by first | assumption | (unfold zh_ok2; omega) | (unfold zh_ok2; (repeat' split) <;> omega) | (unfold zh_ok2; exact Or.inr (by assumption)) | (unfold zh_ok2; exact Or.inl (by assumption)) | (unfold zh_ok2; intro h; rcases h with h | h <;> first | omega | contradiction)), ht⟩) (fun q hq => nomatch hq) dX0_holds_91

set_option maxHeartbeats 4000000 in
set_option maxRecDepth 100000 in
theorem c_Hd_holds3 (l : Launch) (D : va_G) (hh q a : Nat) (cA : ClassId) (F : Nat → Int) (n : Int) (hF : zi_By F) (hn : 0 ≤ n ∧ n ≤ 600) : Met l yX0_holds wsX0_holds ({ frames := 1, cells := 0, slots := 0, locals := 20 }) (va_Pc [.ref hh, .int (zi_n 3)] (zp_Q D vwCl [(hh, .inr (2, [.ref q])), (q, .inr (3, [.ref a, .int (zi_n n)])), (a, .inl (cA, 600, .inl (zi_F F)))] [(cA, .int)])) (vp_Si (fun r => (r = zi_n 1 ∧ (zh_ok3 F n)) ∨ (r = zi_n 0 ∧ ¬ (zh_ok3 F n)))) 0 0 (fun _ => False) := by
  refine Met.ofW (cc := cX0_holds) (maxL := 2) (ret := (some .boolean)) (by decide) rfl ?_
  intro p e s m args below meth c s₁ B hml hv
  obtain ⟨rfl, hP, hK⟩ := hv
  have hx := B.exec
  have hb := B.bytes
  have hr := B.returns
  have hts := atoms_spec (ws := wsX0_holds) B.pre
  have hown : s.vm.findClass RX0 = some m.cls := findClass_of_methodNamed B.named
  have hlocks := B.notSynchronized
  have hl := lv_entry ([.ref hh, .int (zi_n 3)]) (n := 2) (Nat.le_of_ble_eq_true rfl)
  rw [lg_entry_eq]
  generalize (lg_sl ([.ref hh, .int (zi_n 3)]) ++ List.replicate (2 - (lg_sl ([.ref hh, .int (zi_n 3)])).length) Slot.unset).toArray = ls at hl ⊢
  have hl : lv_has ls 2 [(0, .ref hh), (1, .int (zi_n 3))] := hl
  refine lv_iload_n hx hb dX0_holds_0 rfl (lv_at hl 1 rfl) ?_
  refine zr_tabIn (tgt := 92) hx hb dX0_holds_1 (by decide) (by decide) (by decide) rfl (by decide) ?_
  refine lv_aload_n hx hb dX0_holds_92 rfl (lv_at hl 0 rfl) ?_
  refine va_get (D := D) (ci := 2) (v := .ref q) (C := RX0) (T := TX0) (N := 1) hx hb hts in_X0_holds_X0 hown hK hP 0 rfl rfl 0 (by decide) (hts (.fieldLink RX0 9 "ZHeads$Head" "row" "LZHeads$Row;") (by decide +kernel)) (fun _ h9 => h9) rfl dX0_holds_93 ?_
  refine zc_V (As := []) (rest := []) ⟨hx, hb, hml, hown, hts⟩ (c_Row_count l D q a cA F n hF (by omega)) (cwV 0 hts gX0_holds_X2_count rfl rfl rfl (by decide +kernel) ⟨(Nat.le_of_ble_eq_true rfl), (Nat.le_of_ble_eq_true rfl)⟩) hP hK [1, 2] [0] rfl rfl (ci := 3) rfl rfl rfl rfl hl.1 rfl (Nat.le_of_ble_eq_true rfl) dX0_holds_96 ⟨Nat.zero_le _, Nat.zero_le _⟩ (fun r hr1 => ?_)
  obtain ⟨rfl, b_1⟩ := hr1
  refine zr_bipush hx hb dX0_holds_99 (by decide) ?_
  refine zr_icmp_lt (tgt := 108) hx hb dX0_holds_101 (by decide) (by omega) (by omega) (fun c_2 => ?_) (fun c_2 => ?_)
  · refine zr_iconst hx hb dX0_holds_108 ?_
    exact W.zret (v := zi_n 0) (ty := .boolean) hx hb hr zl_b0 (fun t ht hW => ⟨_, rfl, zl_f (by first | assumption | (unfold zh_ok3; omega) | (unfold zh_ok3; (repeat' split) <;> omega) | (unfold zh_ok3; exact Or.inr (by assumption)) | (unfold zh_ok3; exact Or.inl (by assumption)) | (unfold zh_ok3; intro h; rcases h with h | h <;> first | omega | contradiction)), ht⟩) (fun q hq => nomatch hq) dX0_holds_109
  · refine zr_iconst hx hb dX0_holds_104 ?_
    refine lv_goto (tgt := 109) hx hb dX0_holds_105 (by decide) ?_
    exact W.zret (v := zi_n 1) (ty := .boolean) hx hb hr zl_b1 (fun t ht hW => ⟨_, rfl, zl_t (by first | assumption | (unfold zh_ok3; omega) | (unfold zh_ok3; (repeat' split) <;> omega) | (unfold zh_ok3; exact Or.inr (by assumption)) | (unfold zh_ok3; exact Or.inl (by assumption)) | (unfold zh_ok3; intro h; rcases h with h | h <;> first | omega | contradiction)), ht⟩) (fun q hq => nomatch hq) dX0_holds_109

set_option maxHeartbeats 4000000 in
set_option maxRecDepth 100000 in
theorem c_Hd_holds4 (l : Launch) (D : va_G) (hh q a : Nat) (cA : ClassId) (F : Nat → Int) (n : Int) (hF : zi_By F) (hn : 0 ≤ n ∧ n ≤ 600) (h64 : 64 ≤ n) : Met l yX0_holds wsX0_holds ({ frames := 4, cells := 0, slots := 0, locals := 83 }) (va_Pc [.ref hh, .int (zi_n 4)] (zp_Q D vwCl [(hh, .inr (2, [.ref q])), (q, .inr (3, [.ref a, .int (zi_n n)])), (a, .inl (cA, 600, .inl (zi_F F)))] [(cA, .int)])) (vp_Si (fun r => (r = zi_n 1 ∧ (zh_ok4 F n)) ∨ (r = zi_n 0 ∧ ¬ (zh_ok4 F n)))) 0 0 (fun _ => False) := by
  refine Met.ofW (cc := cX0_holds) (maxL := 2) (ret := (some .boolean)) (by decide) rfl ?_
  intro p e s m args below meth c s₁ B hml hv
  obtain ⟨rfl, hP, hK⟩ := hv
  have hx := B.exec
  have hb := B.bytes
  have hr := B.returns
  have hts := atoms_spec (ws := wsX0_holds) B.pre
  have hown : s.vm.findClass RX0 = some m.cls := findClass_of_methodNamed B.named
  have hlocks := B.notSynchronized
  have hl := lv_entry ([.ref hh, .int (zi_n 4)]) (n := 2) (Nat.le_of_ble_eq_true rfl)
  rw [lg_entry_eq]
  generalize (lg_sl ([.ref hh, .int (zi_n 4)]) ++ List.replicate (2 - (lg_sl ([.ref hh, .int (zi_n 4)])).length) Slot.unset).toArray = ls at hl ⊢
  have hl : lv_has ls 2 [(0, .ref hh), (1, .int (zi_n 4))] := hl
  refine lv_iload_n hx hb dX0_holds_0 rfl (lv_at hl 1 rfl) ?_
  refine zr_tabIn (tgt := 110) hx hb dX0_holds_1 (by decide) (by decide) (by decide) rfl (by decide) ?_
  refine lv_aload_n hx hb dX0_holds_110 rfl (lv_at hl 0 rfl) ?_
  refine zc_V (As := []) (rest := []) ⟨hx, hb, hml, hown, hts⟩ (c_Hd_length l D hh q a cA F n hF (by omega) (by omega)) (cwV 0 hts gX0_holds_X0_length rfl rfl rfl (by decide +kernel) ⟨(Nat.le_of_ble_eq_true rfl), (Nat.le_of_ble_eq_true rfl)⟩) hP hK [0, 1, 2] [0] rfl rfl (ci := 2) rfl rfl rfl rfl hl.1 rfl (Nat.le_of_ble_eq_true rfl) dX0_holds_111 ⟨Nat.zero_le _, Nat.zero_le _⟩ (fun r hr1 => ?_)
  obtain ⟨rfl, b_1⟩ := hr1
  refine zr_bipush hx hb dX0_holds_114 (by decide) ?_
  refine lv_aload_n hx hb dX0_holds_116 rfl (lv_at hl 0 rfl) ?_
  refine va_get (D := D) (ci := 2) (v := .ref q) (C := RX0) (T := TX0) (N := 1) hx hb hts in_X0_holds_X0 hown hK hP 0 rfl rfl 0 (by decide) (hts (.fieldLink RX0 9 "ZHeads$Head" "row" "LZHeads$Row;") (by decide +kernel)) (fun _ h9 => h9) rfl dX0_holds_117 ?_
  refine zc_V (As := []) (rest := [.int (zi_n 64), .int (zi_n (zh_len F n))]) ⟨hx, hb, hml, hown, hts⟩ (c_Row_count l D q a cA F n hF (by omega)) (cwV 0 hts gX0_holds_X2_count rfl rfl rfl (by decide +kernel) ⟨(Nat.le_of_ble_eq_true rfl), (Nat.le_of_ble_eq_true rfl)⟩) hP hK [1, 2] [0] rfl rfl (ci := 3) rfl rfl rfl rfl hl.1 rfl (Nat.le_of_ble_eq_true rfl) dX0_holds_120 ⟨Nat.zero_le _, Nat.zero_le _⟩ (fun r hr1 => ?_)
  obtain ⟨rfl, b_2⟩ := hr1
  refine zc_S (As := [.int (zi_n (zh_len F n)), .int (zi_n 64), .int (zi_n n)]) (rest := []) ⟨hx, hb, hml, hown, hts⟩ (c_Hd_isWithin l (zh_len F n) 64 n (by omega) (by omega) (by omega)) (va_cwS 3 hts gX0_holds_X0_isWithin rfl rfl rfl (by decide +kernel) ⟨(Nat.le_of_ble_eq_true rfl), (Nat.le_of_ble_eq_true rfl)⟩) rfl hl.1 rfl (Nat.le_of_ble_eq_true rfl) dX0_holds_123 ⟨Nat.zero_le _, Nat.zero_le _⟩ (fun r hr1 => ?_)
  rcases hr1 with ⟨rfl, c_3⟩ | ⟨rfl, c_3⟩
  · exact W.zret (v := zi_n 1) (ty := .boolean) hx hb hr zl_b1 (fun t ht hW => ⟨_, rfl, zl_t (by first | assumption | (unfold zh_ok4; omega) | (unfold zh_ok4; (repeat' split) <;> omega) | (unfold zh_ok4; exact Or.inr (by assumption)) | (unfold zh_ok4; exact Or.inl (by assumption)) | (unfold zh_ok4; intro h; rcases h with h | h <;> first | omega | contradiction)), ht⟩) (fun q hq => nomatch hq) dX0_holds_126
  · exact W.zret (v := zi_n 0) (ty := .boolean) hx hb hr zl_b0 (fun t ht hW => ⟨_, rfl, zl_f (by first | assumption | (unfold zh_ok4; omega) | (unfold zh_ok4; (repeat' split) <;> omega) | (unfold zh_ok4; exact Or.inr (by assumption)) | (unfold zh_ok4; exact Or.inl (by assumption)) | (unfold zh_ok4; intro h; rcases h with h | h <;> first | omega | contradiction)), ht⟩) (fun q hq => nomatch hq) dX0_holds_126

set_option maxHeartbeats 4000000 in
set_option maxRecDepth 100000 in
theorem c_Hd_holds5 (l : Launch) (D : va_G) (hh q a : Nat) (cA : ClassId) (F : Nat → Int) (n : Int) (hF : zi_By F) (hn : 0 ≤ n ∧ n ≤ 600) (h64 : 64 ≤ n) : Met l yX0_holds wsX0_holds ({ frames := 4, cells := 0, slots := 0, locals := 83 }) (va_Pc [.ref hh, .int (zi_n 5)] (zp_Q D vwCl [(hh, .inr (2, [.ref q])), (q, .inr (3, [.ref a, .int (zi_n n)])), (a, .inl (cA, 600, .inl (zi_F F)))] [(cA, .int)])) (vp_Si (fun r => (r = zi_n 1 ∧ (zh_ok5 F n)) ∨ (r = zi_n 0 ∧ ¬ (zh_ok5 F n)))) 0 0 (fun _ => False) := by
  refine Met.ofW (cc := cX0_holds) (maxL := 2) (ret := (some .boolean)) (by decide) rfl ?_
  intro p e s m args below meth c s₁ B hml hv
  obtain ⟨rfl, hP, hK⟩ := hv
  have hx := B.exec
  have hb := B.bytes
  have hr := B.returns
  have hts := atoms_spec (ws := wsX0_holds) B.pre
  have hown : s.vm.findClass RX0 = some m.cls := findClass_of_methodNamed B.named
  have hlocks := B.notSynchronized
  have hl := lv_entry ([.ref hh, .int (zi_n 5)]) (n := 2) (Nat.le_of_ble_eq_true rfl)
  rw [lg_entry_eq]
  generalize (lg_sl ([.ref hh, .int (zi_n 5)]) ++ List.replicate (2 - (lg_sl ([.ref hh, .int (zi_n 5)])).length) Slot.unset).toArray = ls at hl ⊢
  have hl : lv_has ls 2 [(0, .ref hh), (1, .int (zi_n 5))] := hl
  refine lv_iload_n hx hb dX0_holds_0 rfl (lv_at hl 1 rfl) ?_
  refine zr_tabIn (tgt := 127) hx hb dX0_holds_1 (by decide) (by decide) (by decide) rfl (by decide) ?_
  refine lv_aload_n hx hb dX0_holds_127 rfl (lv_at hl 0 rfl) ?_
  refine zc_V (As := []) (rest := []) ⟨hx, hb, hml, hown, hts⟩ (c_Hd_staticFrom l D hh q a cA F n hF (by omega) (by omega)) (cwV 0 hts gX0_holds_X0_staticFrom rfl rfl rfl (by decide +kernel) ⟨(Nat.le_of_ble_eq_true rfl), (Nat.le_of_ble_eq_true rfl)⟩) hP hK [0, 1, 2] [0] rfl rfl (ci := 2) rfl rfl rfl rfl hl.1 rfl (Nat.le_of_ble_eq_true rfl) dX0_holds_128 ⟨Nat.zero_le _, Nat.zero_le _⟩ (fun r hr1 => ?_)
  obtain ⟨rfl, b_1⟩ := hr1
  refine zr_bipush hx hb dX0_holds_131 (by decide) ?_
  refine lv_aload_n hx hb dX0_holds_133 rfl (lv_at hl 0 rfl) ?_
  refine zc_V (As := []) (rest := [.int (zi_n 64), .int (zi_n (zh_t F 14))]) ⟨hx, hb, hml, hown, hts⟩ (c_Hd_length l D hh q a cA F n hF (by omega) (by omega)) (cwV 0 hts gX0_holds_X0_length rfl rfl rfl (by decide +kernel) ⟨(Nat.le_of_ble_eq_true rfl), (Nat.le_of_ble_eq_true rfl)⟩) hP hK [0, 1, 2] [0] rfl rfl (ci := 2) rfl rfl rfl rfl hl.1 rfl (Nat.le_of_ble_eq_true rfl) dX0_holds_134 ⟨Nat.zero_le _, Nat.zero_le _⟩ (fun r hr1 => ?_)
  obtain ⟨rfl, b_2⟩ := hr1
  refine zc_S (As := [.int (zi_n (zh_t F 14)), .int (zi_n 64), .int (zi_n (zh_len F n))]) (rest := []) ⟨hx, hb, hml, hown, hts⟩ (c_Hd_isWithin l (zh_t F 14) 64 (zh_len F n) (by omega) (by omega) (by omega)) (va_cwS 3 hts gX0_holds_X0_isWithin rfl rfl rfl (by decide +kernel) ⟨(Nat.le_of_ble_eq_true rfl), (Nat.le_of_ble_eq_true rfl)⟩) rfl hl.1 rfl (Nat.le_of_ble_eq_true rfl) dX0_holds_137 ⟨Nat.zero_le _, Nat.zero_le _⟩ (fun r hr1 => ?_)
  rcases hr1 with ⟨rfl, c_3⟩ | ⟨rfl, c_3⟩
  · exact W.zret (v := zi_n 1) (ty := .boolean) hx hb hr zl_b1 (fun t ht hW => ⟨_, rfl, zl_t (by first | assumption | (unfold zh_ok5; omega) | (unfold zh_ok5; (repeat' split) <;> omega) | (unfold zh_ok5; exact Or.inr (by assumption)) | (unfold zh_ok5; exact Or.inl (by assumption)) | (unfold zh_ok5; intro h; rcases h with h | h <;> first | omega | contradiction)), ht⟩) (fun q hq => nomatch hq) dX0_holds_140
  · exact W.zret (v := zi_n 0) (ty := .boolean) hx hb hr zl_b0 (fun t ht hW => ⟨_, rfl, zl_f (by first | assumption | (unfold zh_ok5; omega) | (unfold zh_ok5; (repeat' split) <;> omega) | (unfold zh_ok5; exact Or.inr (by assumption)) | (unfold zh_ok5; exact Or.inl (by assumption)) | (unfold zh_ok5; intro h; rcases h with h | h <;> first | omega | contradiction)), ht⟩) (fun q hq => nomatch hq) dX0_holds_140

set_option maxHeartbeats 4000000 in
set_option maxRecDepth 100000 in
theorem c_Hd_holds6 (l : Launch) (D : va_G) (hh q a : Nat) (cA : ClassId) (F : Nat → Int) (n : Int) (hF : zi_By F) (hn : 0 ≤ n ∧ n ≤ 600) (h64 : 64 ≤ n) : Met l yX0_holds wsX0_holds ({ frames := 4, cells := 0, slots := 0, locals := 83 }) (va_Pc [.ref hh, .int (zi_n 6)] (zp_Q D vwCl [(hh, .inr (2, [.ref q])), (q, .inr (3, [.ref a, .int (zi_n n)])), (a, .inl (cA, 600, .inl (zi_F F)))] [(cA, .int)])) (vp_Si (fun r => (r = zi_n 1 ∧ (zh_ok6 F n)) ∨ (r = zi_n 0 ∧ ¬ (zh_ok6 F n)))) 0 0 (fun _ => False) := by
  refine Met.ofW (cc := cX0_holds) (maxL := 2) (ret := (some .boolean)) (by decide) rfl ?_
  intro p e s m args below meth c s₁ B hml hv
  obtain ⟨rfl, hP, hK⟩ := hv
  have hx := B.exec
  have hb := B.bytes
  have hr := B.returns
  have hts := atoms_spec (ws := wsX0_holds) B.pre
  have hown : s.vm.findClass RX0 = some m.cls := findClass_of_methodNamed B.named
  have hlocks := B.notSynchronized
  have hl := lv_entry ([.ref hh, .int (zi_n 6)]) (n := 2) (Nat.le_of_ble_eq_true rfl)
  rw [lg_entry_eq]
  generalize (lg_sl ([.ref hh, .int (zi_n 6)]) ++ List.replicate (2 - (lg_sl ([.ref hh, .int (zi_n 6)])).length) Slot.unset).toArray = ls at hl ⊢
  have hl : lv_has ls 2 [(0, .ref hh), (1, .int (zi_n 6))] := hl
  refine lv_iload_n hx hb dX0_holds_0 rfl (lv_at hl 1 rfl) ?_
  refine zr_tabIn (tgt := 141) hx hb dX0_holds_1 (by decide) (by decide) (by decide) rfl (by decide) ?_
  refine lv_aload_n hx hb dX0_holds_141 rfl (lv_at hl 0 rfl) ?_
  refine zc_V (As := []) (rest := []) ⟨hx, hb, hml, hown, hts⟩ (c_Hd_high l D hh q a cA F n hF (by omega) (by omega)) (cwV 0 hts gX0_holds_X0_high rfl rfl rfl (by decide +kernel) ⟨(Nat.le_of_ble_eq_true rfl), (Nat.le_of_ble_eq_true rfl)⟩) hP hK [0, 1, 2] [0] rfl rfl (ci := 2) rfl rfl rfl rfl hl.1 rfl (Nat.le_of_ble_eq_true rfl) dX0_holds_142 ⟨Nat.zero_le _, Nat.zero_le _⟩ (fun r hr1 => ?_)
  obtain ⟨rfl, b_1⟩ := hr1
  refine lv_aload_n hx hb dX0_holds_145 rfl (lv_at hl 0 rfl) ?_
  refine zc_V (As := []) (rest := [.int (zi_n (zh_t F 4))]) ⟨hx, hb, hml, hown, hts⟩ (c_Hd_staticFrom l D hh q a cA F n hF (by omega) (by omega)) (cwV 0 hts gX0_holds_X0_staticFrom rfl rfl rfl (by decide +kernel) ⟨(Nat.le_of_ble_eq_true rfl), (Nat.le_of_ble_eq_true rfl)⟩) hP hK [0, 1, 2] [0] rfl rfl (ci := 2) rfl rfl rfl rfl hl.1 rfl (Nat.le_of_ble_eq_true rfl) dX0_holds_146 ⟨Nat.zero_le _, Nat.zero_le _⟩ (fun r hr1 => ?_)
  obtain ⟨rfl, b_2⟩ := hr1
  refine lv_aload_n hx hb dX0_holds_149 rfl (lv_at hl 0 rfl) ?_
  refine zc_V (As := []) (rest := [.int (zi_n (zh_t F 14)), .int (zi_n (zh_t F 4))]) ⟨hx, hb, hml, hown, hts⟩ (c_Hd_length l D hh q a cA F n hF (by omega) (by omega)) (cwV 0 hts gX0_holds_X0_length rfl rfl rfl (by decide +kernel) ⟨(Nat.le_of_ble_eq_true rfl), (Nat.le_of_ble_eq_true rfl)⟩) hP hK [0, 1, 2] [0] rfl rfl (ci := 2) rfl rfl rfl rfl hl.1 rfl (Nat.le_of_ble_eq_true rfl) dX0_holds_150 ⟨Nat.zero_le _, Nat.zero_le _⟩ (fun r hr1 => ?_)
  obtain ⟨rfl, b_3⟩ := hr1
  refine zc_S (As := [.int (zi_n (zh_t F 4)), .int (zi_n (zh_t F 14)), .int (zi_n (zh_len F n))]) (rest := []) ⟨hx, hb, hml, hown, hts⟩ (c_Hd_isWithin l (zh_t F 4) (zh_t F 14) (zh_len F n) (by omega) (by omega) (by omega)) (va_cwS 3 hts gX0_holds_X0_isWithin rfl rfl rfl (by decide +kernel) ⟨(Nat.le_of_ble_eq_true rfl), (Nat.le_of_ble_eq_true rfl)⟩) rfl hl.1 rfl (Nat.le_of_ble_eq_true rfl) dX0_holds_153 ⟨Nat.zero_le _, Nat.zero_le _⟩ (fun r hr1 => ?_)
  rcases hr1 with ⟨rfl, c_4⟩ | ⟨rfl, c_4⟩
  · exact W.zret (v := zi_n 1) (ty := .boolean) hx hb hr zl_b1 (fun t ht hW => ⟨_, rfl, zl_t (by first | assumption | (unfold zh_ok6; omega) | (unfold zh_ok6; (repeat' split) <;> omega) | (unfold zh_ok6; exact Or.inr (by assumption)) | (unfold zh_ok6; exact Or.inl (by assumption)) | (unfold zh_ok6; intro h; rcases h with h | h <;> first | omega | contradiction)), ht⟩) (fun q hq => nomatch hq) dX0_holds_156
  · exact W.zret (v := zi_n 0) (ty := .boolean) hx hb hr zl_b0 (fun t ht hW => ⟨_, rfl, zl_f (by first | assumption | (unfold zh_ok6; omega) | (unfold zh_ok6; (repeat' split) <;> omega) | (unfold zh_ok6; exact Or.inr (by assumption)) | (unfold zh_ok6; exact Or.inl (by assumption)) | (unfold zh_ok6; intro h; rcases h with h | h <;> first | omega | contradiction)), ht⟩) (fun q hq => nomatch hq) dX0_holds_156

set_option maxHeartbeats 4000000 in
set_option maxRecDepth 100000 in
theorem c_Hd_holds7 (l : Launch) (D : va_G) (hh q a : Nat) (cA : ClassId) (F : Nat → Int) (n : Int) (hF : zi_By F) (hn : 0 ≤ n ∧ n ≤ 600) (h64 : 64 ≤ n) : Met l yX0_holds wsX0_holds ({ frames := 2, cells := 0, slots := 0, locals := 41 }) (va_Pc [.ref hh, .int (zi_n 7)] (zp_Q D vwCl [(hh, .inr (2, [.ref q])), (q, .inr (3, [.ref a, .int (zi_n n)])), (a, .inl (cA, 600, .inl (zi_F F)))] [(cA, .int)])) (vp_Si (fun r => (r = zi_n 1 ∧ (zh_ok7 F n)) ∨ (r = zi_n 0 ∧ ¬ (zh_ok7 F n)))) 0 0 (fun _ => False) := by
  refine Met.ofW (cc := cX0_holds) (maxL := 2) (ret := (some .boolean)) (by decide) rfl ?_
  intro p e s m args below meth c s₁ B hml hv
  obtain ⟨rfl, hP, hK⟩ := hv
  have hx := B.exec
  have hb := B.bytes
  have hr := B.returns
  have hts := atoms_spec (ws := wsX0_holds) B.pre
  have hown : s.vm.findClass RX0 = some m.cls := findClass_of_methodNamed B.named
  have hlocks := B.notSynchronized
  have hl := lv_entry ([.ref hh, .int (zi_n 7)]) (n := 2) (Nat.le_of_ble_eq_true rfl)
  rw [lg_entry_eq]
  generalize (lg_sl ([.ref hh, .int (zi_n 7)]) ++ List.replicate (2 - (lg_sl ([.ref hh, .int (zi_n 7)])).length) Slot.unset).toArray = ls at hl ⊢
  have hl : lv_has ls 2 [(0, .ref hh), (1, .int (zi_n 7))] := hl
  refine lv_iload_n hx hb dX0_holds_0 rfl (lv_at hl 1 rfl) ?_
  refine zr_tabIn (tgt := 157) hx hb dX0_holds_1 (by decide) (by decide) (by decide) rfl (by decide) ?_
  refine lv_aload_n hx hb dX0_holds_157 rfl (lv_at hl 0 rfl) ?_
  refine zc_V (As := []) (rest := []) ⟨hx, hb, hml, hown, hts⟩ (c_Hd_globals l D hh q a cA F n hF (by omega) (by omega)) (cwV 0 hts gX0_holds_X0_globals rfl rfl rfl (by decide +kernel) ⟨(Nat.le_of_ble_eq_true rfl), (Nat.le_of_ble_eq_true rfl)⟩) hP hK [0, 1, 2] [0] rfl rfl (ci := 2) rfl rfl rfl rfl hl.1 rfl (Nat.le_of_ble_eq_true rfl) dX0_holds_158 ⟨Nat.zero_le _, Nat.zero_le _⟩ (fun r hr1 => ?_)
  obtain ⟨rfl, b_1⟩ := hr1
  refine zr_sipush hx hb dX0_holds_161 (by decide) ?_
  refine lv_aload_n hx hb dX0_holds_164 rfl (lv_at hl 0 rfl) ?_
  refine zc_V (As := []) (rest := [.int (zi_n 480), .int (zi_n (zh_t F 12))]) ⟨hx, hb, hml, hown, hts⟩ (c_Hd_staticFrom l D hh q a cA F n hF (by omega) (by omega)) (cwV 0 hts gX0_holds_X0_staticFrom rfl rfl rfl (by decide +kernel) ⟨(Nat.le_of_ble_eq_true rfl), (Nat.le_of_ble_eq_true rfl)⟩) hP hK [0, 1, 2] [0] rfl rfl (ci := 2) rfl rfl rfl rfl hl.1 rfl (Nat.le_of_ble_eq_true rfl) dX0_holds_165 ⟨Nat.zero_le _, Nat.zero_le _⟩ (fun r hr1 => ?_)
  obtain ⟨rfl, b_2⟩ := hr1
  refine zc_S (As := [.int (zi_n (zh_t F 12)), .int (zi_n 480), .int (zi_n (zh_t F 14))]) (rest := []) ⟨hx, hb, hml, hown, hts⟩ (c_Hd_fits l (zh_t F 12) 480 (zh_t F 14) (by omega) (by omega) (by omega) (by omega)) (va_cwS 3 hts gX0_holds_X0_fits rfl rfl rfl (by decide +kernel) ⟨(Nat.le_of_ble_eq_true rfl), (Nat.le_of_ble_eq_true rfl)⟩) rfl hl.1 rfl (Nat.le_of_ble_eq_true rfl) dX0_holds_168 ⟨Nat.zero_le _, Nat.zero_le _⟩ (fun r hr1 => ?_)
  rcases hr1 with ⟨rfl, c_3⟩ | ⟨rfl, c_3⟩
  · exact W.zret (v := zi_n 1) (ty := .boolean) hx hb hr zl_b1 (fun t ht hW => ⟨_, rfl, zl_t (by first | assumption | (unfold zh_ok7; omega) | (unfold zh_ok7; (repeat' split) <;> omega) | (unfold zh_ok7; exact Or.inr (by assumption)) | (unfold zh_ok7; exact Or.inl (by assumption)) | (unfold zh_ok7; intro h; rcases h with h | h <;> first | omega | contradiction)), ht⟩) (fun q hq => nomatch hq) dX0_holds_171
  · exact W.zret (v := zi_n 0) (ty := .boolean) hx hb hr zl_b0 (fun t ht hW => ⟨_, rfl, zl_f (by first | assumption | (unfold zh_ok7; omega) | (unfold zh_ok7; (repeat' split) <;> omega) | (unfold zh_ok7; exact Or.inr (by assumption)) | (unfold zh_ok7; exact Or.inl (by assumption)) | (unfold zh_ok7; intro h; rcases h with h | h <;> first | omega | contradiction)), ht⟩) (fun q hq => nomatch hq) dX0_holds_171

set_option maxHeartbeats 4000000 in
set_option maxRecDepth 100000 in
theorem c_Hd_holds8 (l : Launch) (D : va_G) (hh q a : Nat) (cA : ClassId) (F : Nat → Int) (n : Int) (hF : zi_By F) (hn : 0 ≤ n ∧ n ≤ 600) (h64 : 64 ≤ n) : Met l yX0_holds wsX0_holds ({ frames := 2, cells := 0, slots := 0, locals := 41 }) (va_Pc [.ref hh, .int (zi_n 8)] (zp_Q D vwCl [(hh, .inr (2, [.ref q])), (q, .inr (3, [.ref a, .int (zi_n n)])), (a, .inl (cA, 600, .inl (zi_F F)))] [(cA, .int)])) (vp_Si (fun r => (r = zi_n 1 ∧ (zh_ok8 F n)) ∨ (r = zi_n 0 ∧ ¬ (zh_ok8 F n)))) 0 0 (fun _ => False) := by
  refine Met.ofW (cc := cX0_holds) (maxL := 2) (ret := (some .boolean)) (by decide) rfl ?_
  intro p e s m args below meth c s₁ B hml hv
  obtain ⟨rfl, hP, hK⟩ := hv
  have hx := B.exec
  have hb := B.bytes
  have hr := B.returns
  have hts := atoms_spec (ws := wsX0_holds) B.pre
  have hown : s.vm.findClass RX0 = some m.cls := findClass_of_methodNamed B.named
  have hlocks := B.notSynchronized
  have hl := lv_entry ([.ref hh, .int (zi_n 8)]) (n := 2) (Nat.le_of_ble_eq_true rfl)
  rw [lg_entry_eq]
  generalize (lg_sl ([.ref hh, .int (zi_n 8)]) ++ List.replicate (2 - (lg_sl ([.ref hh, .int (zi_n 8)])).length) Slot.unset).toArray = ls at hl ⊢
  have hl : lv_has ls 2 [(0, .ref hh), (1, .int (zi_n 8))] := hl
  refine lv_iload_n hx hb dX0_holds_0 rfl (lv_at hl 1 rfl) ?_
  refine zr_tabIn (tgt := 172) hx hb dX0_holds_1 (by decide) (by decide) (by decide) rfl (by decide) ?_
  refine lv_aload_n hx hb dX0_holds_172 rfl (lv_at hl 0 rfl) ?_
  refine zc_V (As := []) (rest := []) ⟨hx, hb, hml, hown, hts⟩ (c_Hd_objects l D hh q a cA F n hF (by omega) (by omega)) (cwV 0 hts gX0_holds_X0_objects rfl rfl rfl (by decide +kernel) ⟨(Nat.le_of_ble_eq_true rfl), (Nat.le_of_ble_eq_true rfl)⟩) hP hK [0, 1, 2] [0] rfl rfl (ci := 2) rfl rfl rfl rfl hl.1 rfl (Nat.le_of_ble_eq_true rfl) dX0_holds_173 ⟨Nat.zero_le _, Nat.zero_le _⟩ (fun r hr1 => ?_)
  obtain ⟨rfl, b_1⟩ := hr1
  refine lv_aload_n hx hb dX0_holds_176 rfl (lv_at hl 0 rfl) ?_
  refine zc_V (As := []) (rest := [.int (zi_n (zh_t F 10))]) ⟨hx, hb, hml, hown, hts⟩ (c_Hd_version l D hh q a cA F n hF (by omega) (by omega)) (cwV 0 hts gX0_holds_X0_version rfl rfl rfl (by decide +kernel) ⟨(Nat.le_of_ble_eq_true rfl), (Nat.le_of_ble_eq_true rfl)⟩) hP hK [0, 1, 2] [0] rfl rfl (ci := 2) rfl rfl rfl rfl hl.1 rfl (Nat.le_of_ble_eq_true rfl) dX0_holds_177 ⟨Nat.zero_le _, Nat.zero_le _⟩ (fun r hr1 => ?_)
  obtain ⟨rfl, b_2⟩ := hr1
  refine zr_iconst hx hb dX0_holds_180 ?_
  refine zr_icmp_gt (tgt := 189) hx hb dX0_holds_181 (by decide) (by omega) (by omega) (fun c_3 => ?_) (fun c_3 => ?_)
  · refine zr_bipush hx hb dX0_holds_189 (by decide) ?_
    refine lv_aload_n hx hb dX0_holds_191 rfl (lv_at hl 0 rfl) ?_
    refine zc_V (As := []) (rest := [.int (zi_n 126), .int (zi_n (zh_t F 10))]) ⟨hx, hb, hml, hown, hts⟩ (c_Hd_staticFrom l D hh q a cA F n hF (by omega) (by omega)) (cwV 0 hts gX0_holds_X0_staticFrom rfl rfl rfl (by decide +kernel) ⟨(Nat.le_of_ble_eq_true rfl), (Nat.le_of_ble_eq_true rfl)⟩) hP hK [0, 1, 2] [0] rfl rfl (ci := 2) rfl rfl rfl rfl hl.1 rfl (Nat.le_of_ble_eq_true rfl) dX0_holds_192 ⟨Nat.zero_le _, Nat.zero_le _⟩ (fun r hr1 => ?_)
    obtain ⟨rfl, b_4⟩ := hr1
    refine zc_S (As := [.int (zi_n (zh_t F 10)), .int (zi_n 126), .int (zi_n (zh_t F 14))]) (rest := []) ⟨hx, hb, hml, hown, hts⟩ (c_Hd_fits l (zh_t F 10) 126 (zh_t F 14) (by omega) (by omega) (by omega) (by omega)) (va_cwS 3 hts gX0_holds_X0_fits rfl rfl rfl (by decide +kernel) ⟨(Nat.le_of_ble_eq_true rfl), (Nat.le_of_ble_eq_true rfl)⟩) rfl hl.1 rfl (Nat.le_of_ble_eq_true rfl) dX0_holds_195 ⟨Nat.zero_le _, Nat.zero_le _⟩ (fun r hr1 => ?_)
    rcases hr1 with ⟨rfl, c_5⟩ | ⟨rfl, c_5⟩
    · exact W.zret (v := zi_n 1) (ty := .boolean) hx hb hr zl_b1 (fun t ht hW => ⟨_, rfl, zl_t (by first | assumption | (unfold zh_ok8; omega) | (unfold zh_ok8; (repeat' split) <;> omega) | (unfold zh_ok8; exact Or.inr (by assumption)) | (unfold zh_ok8; exact Or.inl (by assumption)) | (unfold zh_ok8; intro h; rcases h with h | h <;> first | omega | contradiction)), ht⟩) (fun q hq => nomatch hq) dX0_holds_198
    · exact W.zret (v := zi_n 0) (ty := .boolean) hx hb hr zl_b0 (fun t ht hW => ⟨_, rfl, zl_f (by first | assumption | (unfold zh_ok8; omega) | (unfold zh_ok8; (repeat' split) <;> omega) | (unfold zh_ok8; exact Or.inr (by assumption)) | (unfold zh_ok8; exact Or.inl (by assumption)) | (unfold zh_ok8; intro h; rcases h with h | h <;> first | omega | contradiction)), ht⟩) (fun q hq => nomatch hq) dX0_holds_198
  · refine zr_bipush hx hb dX0_holds_184 (by decide) ?_
    refine lv_goto (tgt := 191) hx hb dX0_holds_186 (by decide) ?_
    refine lv_aload_n hx hb dX0_holds_191 rfl (lv_at hl 0 rfl) ?_
    refine zc_V (As := []) (rest := [.int (zi_n 62), .int (zi_n (zh_t F 10))]) ⟨hx, hb, hml, hown, hts⟩ (c_Hd_staticFrom l D hh q a cA F n hF (by omega) (by omega)) (cwV 0 hts gX0_holds_X0_staticFrom rfl rfl rfl (by decide +kernel) ⟨(Nat.le_of_ble_eq_true rfl), (Nat.le_of_ble_eq_true rfl)⟩) hP hK [0, 1, 2] [0] rfl rfl (ci := 2) rfl rfl rfl rfl hl.1 rfl (Nat.le_of_ble_eq_true rfl) dX0_holds_192 ⟨Nat.zero_le _, Nat.zero_le _⟩ (fun r hr1 => ?_)
    obtain ⟨rfl, b_6⟩ := hr1
    refine zc_S (As := [.int (zi_n (zh_t F 10)), .int (zi_n 62), .int (zi_n (zh_t F 14))]) (rest := []) ⟨hx, hb, hml, hown, hts⟩ (c_Hd_fits l (zh_t F 10) 62 (zh_t F 14) (by omega) (by omega) (by omega) (by omega)) (va_cwS 3 hts gX0_holds_X0_fits rfl rfl rfl (by decide +kernel) ⟨(Nat.le_of_ble_eq_true rfl), (Nat.le_of_ble_eq_true rfl)⟩) rfl hl.1 rfl (Nat.le_of_ble_eq_true rfl) dX0_holds_195 ⟨Nat.zero_le _, Nat.zero_le _⟩ (fun r hr1 => ?_)
    rcases hr1 with ⟨rfl, c_7⟩ | ⟨rfl, c_7⟩
    · exact W.zret (v := zi_n 1) (ty := .boolean) hx hb hr zl_b1 (fun t ht hW => ⟨_, rfl, zl_t (by first | assumption | (unfold zh_ok8; omega) | (unfold zh_ok8; (repeat' split) <;> omega) | (unfold zh_ok8; exact Or.inr (by assumption)) | (unfold zh_ok8; exact Or.inl (by assumption)) | (unfold zh_ok8; intro h; rcases h with h | h <;> first | omega | contradiction)), ht⟩) (fun q hq => nomatch hq) dX0_holds_198
    · exact W.zret (v := zi_n 0) (ty := .boolean) hx hb hr zl_b0 (fun t ht hW => ⟨_, rfl, zl_f (by first | assumption | (unfold zh_ok8; omega) | (unfold zh_ok8; (repeat' split) <;> omega) | (unfold zh_ok8; exact Or.inr (by assumption)) | (unfold zh_ok8; exact Or.inl (by assumption)) | (unfold zh_ok8; intro h; rcases h with h | h <;> first | omega | contradiction)), ht⟩) (fun q hq => nomatch hq) dX0_holds_198

set_option maxHeartbeats 4000000 in
set_option maxRecDepth 100000 in
theorem c_Hd_holds9 (l : Launch) (D : va_G) (hh q a : Nat) (cA : ClassId) (F : Nat → Int) (n : Int) (hF : zi_By F) (hn : 0 ≤ n ∧ n ≤ 600) (h64 : 64 ≤ n) : Met l yX0_holds wsX0_holds ({ frames := 5, cells := 0, slots := 0, locals := 108 }) (va_Pc [.ref hh, .int (zi_n 9)] (zp_Q D vwCl [(hh, .inr (2, [.ref q])), (q, .inr (3, [.ref a, .int (zi_n n)])), (a, .inl (cA, 600, .inl (zi_F F)))] [(cA, .int)])) (vp_Si (fun r => (r = zi_n 1 ∧ (zh_ok9 F n)) ∨ (r = zi_n 0 ∧ ¬ (zh_ok9 F n)))) 0 0 (fun _ => False) := by
  refine Met.ofW (cc := cX0_holds) (maxL := 2) (ret := (some .boolean)) (by decide) rfl ?_
  intro p e s m args below meth c s₁ B hml hv
  obtain ⟨rfl, hP, hK⟩ := hv
  have hx := B.exec
  have hb := B.bytes
  have hr := B.returns
  have hts := atoms_spec (ws := wsX0_holds) B.pre
  have hown : s.vm.findClass RX0 = some m.cls := findClass_of_methodNamed B.named
  have hlocks := B.notSynchronized
  have hl := lv_entry ([.ref hh, .int (zi_n 9)]) (n := 2) (Nat.le_of_ble_eq_true rfl)
  rw [lg_entry_eq]
  generalize (lg_sl ([.ref hh, .int (zi_n 9)]) ++ List.replicate (2 - (lg_sl ([.ref hh, .int (zi_n 9)])).length) Slot.unset).toArray = ls at hl ⊢
  have hl : lv_has ls 2 [(0, .ref hh), (1, .int (zi_n 9))] := hl
  refine lv_iload_n hx hb dX0_holds_0 rfl (lv_at hl 1 rfl) ?_
  refine zr_tabIn (tgt := 199) hx hb dX0_holds_1 (by decide) (by decide) (by decide) rfl (by decide) ?_
  refine lv_aload_n hx hb dX0_holds_199 rfl (lv_at hl 0 rfl) ?_
  refine zc_V (As := []) (rest := []) ⟨hx, hb, hml, hown, hts⟩ (c_Hd_wordsHold l D hh q a cA F n hF (by omega) (by omega)) (cwV 0 hts gX0_holds_X0_wordsHold rfl rfl rfl (by decide +kernel) ⟨(Nat.le_of_ble_eq_true rfl), (Nat.le_of_ble_eq_true rfl)⟩) hP hK [0, 1, 2] [0] rfl rfl (ci := 2) rfl rfl rfl rfl hl.1 rfl (Nat.le_of_ble_eq_true rfl) dX0_holds_200 ⟨Nat.zero_le _, Nat.zero_le _⟩ (fun r hr1 => ?_)
  rcases hr1 with ⟨rfl, c_1⟩ | ⟨rfl, c_1⟩
  · exact W.zret (v := zi_n 1) (ty := .boolean) hx hb hr zl_b1 (fun t ht hW => ⟨_, rfl, zl_t (by first | assumption | (unfold zh_ok9; omega) | (unfold zh_ok9; (repeat' split) <;> omega) | (unfold zh_ok9; exact Or.inr (by assumption)) | (unfold zh_ok9; exact Or.inl (by assumption)) | (unfold zh_ok9; intro h; rcases h with h | h <;> first | omega | contradiction)), ht⟩) (fun q hq => nomatch hq) dX0_holds_203
  · exact W.zret (v := zi_n 0) (ty := .boolean) hx hb hr zl_b0 (fun t ht hW => ⟨_, rfl, zl_f (by first | assumption | (unfold zh_ok9; omega) | (unfold zh_ok9; (repeat' split) <;> omega) | (unfold zh_ok9; exact Or.inr (by assumption)) | (unfold zh_ok9; exact Or.inl (by assumption)) | (unfold zh_ok9; intro h; rcases h with h | h <;> first | omega | contradiction)), ht⟩) (fun q hq => nomatch hq) dX0_holds_203

set_option maxHeartbeats 4000000 in
set_option maxRecDepth 100000 in
theorem c_Hd_holds10 (l : Launch) (D : va_G) (hh q a : Nat) (cA : ClassId) (F : Nat → Int) (n : Int) (hF : zi_By F) (hn : 0 ≤ n ∧ n ≤ 600) (h64 : 64 ≤ n) : Met l yX0_holds wsX0_holds ({ frames := 4, cells := 0, slots := 0, locals := 83 }) (va_Pc [.ref hh, .int (zi_n 10)] (zp_Q D vwCl [(hh, .inr (2, [.ref q])), (q, .inr (3, [.ref a, .int (zi_n n)])), (a, .inl (cA, 600, .inl (zi_F F)))] [(cA, .int)])) (vp_Si (fun r => (r = zi_n 1 ∧ (zh_ok10 F n)) ∨ (r = zi_n 0 ∧ ¬ (zh_ok10 F n)))) 0 0 (fun _ => False) := by
  refine Met.ofW (cc := cX0_holds) (maxL := 2) (ret := (some .boolean)) (by decide) rfl ?_
  intro p e s m args below meth c s₁ B hml hv
  obtain ⟨rfl, hP, hK⟩ := hv
  have hx := B.exec
  have hb := B.bytes
  have hr := B.returns
  have hts := atoms_spec (ws := wsX0_holds) B.pre
  have hown : s.vm.findClass RX0 = some m.cls := findClass_of_methodNamed B.named
  have hlocks := B.notSynchronized
  have hl := lv_entry ([.ref hh, .int (zi_n 10)]) (n := 2) (Nat.le_of_ble_eq_true rfl)
  rw [lg_entry_eq]
  generalize (lg_sl ([.ref hh, .int (zi_n 10)]) ++ List.replicate (2 - (lg_sl ([.ref hh, .int (zi_n 10)])).length) Slot.unset).toArray = ls at hl ⊢
  have hl : lv_has ls 2 [(0, .ref hh), (1, .int (zi_n 10))] := hl
  refine lv_iload_n hx hb dX0_holds_0 rfl (lv_at hl 1 rfl) ?_
  refine zr_tabIn (tgt := 204) hx hb dX0_holds_1 (by decide) (by decide) (by decide) rfl (by decide) ?_
  refine lv_aload_n hx hb dX0_holds_204 rfl (lv_at hl 0 rfl) ?_
  refine zc_V (As := []) (rest := []) ⟨hx, hb, hml, hown, hts⟩ (c_Hd_shorts l D hh q a cA F n hF (by omega) (by omega)) (cwV 0 hts gX0_holds_X0_shorts rfl rfl rfl (by decide +kernel) ⟨(Nat.le_of_ble_eq_true rfl), (Nat.le_of_ble_eq_true rfl)⟩) hP hK [0, 1, 2] [0] rfl rfl (ci := 2) rfl rfl rfl rfl hl.1 rfl (Nat.le_of_ble_eq_true rfl) dX0_holds_205 ⟨Nat.zero_le _, Nat.zero_le _⟩ (fun r hr1 => ?_)
  obtain ⟨rfl, b_1⟩ := hr1
  refine zr_if_eq (tgt := 241) hx hb dX0_holds_208 (by decide) (by omega) (fun c_2 => ?_) (fun c_2 => ?_)
  · refine zr_iconst hx hb dX0_holds_241 ?_
    refine lv_goto (tgt := 246) hx hb dX0_holds_242 (by decide) ?_
    exact W.zret (v := zi_n 1) (ty := .boolean) hx hb hr zl_b1 (fun t ht hW => ⟨_, rfl, zl_t (by first | assumption | (unfold zh_ok10; omega) | (unfold zh_ok10; (repeat' split) <;> omega) | (unfold zh_ok10; exact Or.inr (by assumption)) | (unfold zh_ok10; exact Or.inl (by assumption)) | (unfold zh_ok10; intro h; rcases h with h | h <;> first | omega | contradiction)), ht⟩) (fun q hq => nomatch hq) dX0_holds_246
  · refine lv_aload_n hx hb dX0_holds_211 rfl (lv_at hl 0 rfl) ?_
    refine zc_V (As := []) (rest := []) ⟨hx, hb, hml, hown, hts⟩ (c_Hd_shorts l D hh q a cA F n hF (by omega) (by omega)) (cwV 0 hts gX0_holds_X0_shorts rfl rfl rfl (by decide +kernel) ⟨(Nat.le_of_ble_eq_true rfl), (Nat.le_of_ble_eq_true rfl)⟩) hP hK [0, 1, 2] [0] rfl rfl (ci := 2) rfl rfl rfl rfl hl.1 rfl (Nat.le_of_ble_eq_true rfl) dX0_holds_212 ⟨Nat.zero_le _, Nat.zero_le _⟩ (fun r hr1 => ?_)
    obtain ⟨rfl, b_3⟩ := hr1
    refine lv_aload_n hx hb dX0_holds_215 rfl (lv_at hl 0 rfl) ?_
    refine zc_V (As := []) (rest := [.int (zi_n (zh_shorts F))]) ⟨hx, hb, hml, hown, hts⟩ (c_Hd_version l D hh q a cA F n hF (by omega) (by omega)) (cwV 0 hts gX0_holds_X0_version rfl rfl rfl (by decide +kernel) ⟨(Nat.le_of_ble_eq_true rfl), (Nat.le_of_ble_eq_true rfl)⟩) hP hK [0, 1, 2] [0] rfl rfl (ci := 2) rfl rfl rfl rfl hl.1 rfl (Nat.le_of_ble_eq_true rfl) dX0_holds_216 ⟨Nat.zero_le _, Nat.zero_le _⟩ (fun r hr1 => ?_)
    obtain ⟨rfl, b_4⟩ := hr1
    refine zr_iconst hx hb dX0_holds_219 ?_
    refine zr_icmp_ne (tgt := 228) hx hb dX0_holds_220 (by decide) (by omega) (by omega) (fun c_5 => ?_) (fun c_5 => ?_)
    · refine zr_sipush hx hb dX0_holds_228 (by decide) ?_
      refine lv_aload_n hx hb dX0_holds_231 rfl (lv_at hl 0 rfl) ?_
      refine zc_V (As := []) (rest := [.int (zi_n 192), .int (zi_n (zh_shorts F))]) ⟨hx, hb, hml, hown, hts⟩ (c_Hd_length l D hh q a cA F n hF (by omega) (by omega)) (cwV 0 hts gX0_holds_X0_length rfl rfl rfl (by decide +kernel) ⟨(Nat.le_of_ble_eq_true rfl), (Nat.le_of_ble_eq_true rfl)⟩) hP hK [0, 1, 2] [0] rfl rfl (ci := 2) rfl rfl rfl rfl hl.1 rfl (Nat.le_of_ble_eq_true rfl) dX0_holds_232 ⟨Nat.zero_le _, Nat.zero_le _⟩ (fun r hr1 => ?_)
      obtain ⟨rfl, b_6⟩ := hr1
      refine zc_S (As := [.int (zi_n (zh_shorts F)), .int (zi_n 192), .int (zi_n (zh_len F n))]) (rest := []) ⟨hx, hb, hml, hown, hts⟩ (c_Hd_fits l (zh_shorts F) 192 (zh_len F n) (by omega) (by omega) (by omega) (by omega)) (va_cwS 3 hts gX0_holds_X0_fits rfl rfl rfl (by decide +kernel) ⟨(Nat.le_of_ble_eq_true rfl), (Nat.le_of_ble_eq_true rfl)⟩) rfl hl.1 rfl (Nat.le_of_ble_eq_true rfl) dX0_holds_235 ⟨Nat.zero_le _, Nat.zero_le _⟩ (fun r hr1 => ?_)
      rcases hr1 with ⟨rfl, c_7⟩ | ⟨rfl, c_7⟩
      · refine zr_if_eq (tgt := 245) hx hb dX0_holds_238 (by decide) (by omega) (fun c => absurd c (by decide)) (fun c_8 => ?_)
        refine zr_iconst hx hb dX0_holds_241 ?_
        refine lv_goto (tgt := 246) hx hb dX0_holds_242 (by decide) ?_
        exact W.zret (v := zi_n 1) (ty := .boolean) hx hb hr zl_b1 (fun t ht hW => ⟨_, rfl, zl_t (by first | assumption | (unfold zh_ok10; omega) | (unfold zh_ok10; (repeat' split) <;> omega) | (unfold zh_ok10; exact Or.inr (by assumption)) | (unfold zh_ok10; exact Or.inl (by assumption)) | (unfold zh_ok10; intro h; rcases h with h | h <;> first | omega | contradiction)), ht⟩) (fun q hq => nomatch hq) dX0_holds_246
      · refine zr_if_eq (tgt := 245) hx hb dX0_holds_238 (by decide) (by omega) (fun c_9 => ?_) (fun c => absurd c (by decide))
        refine zr_iconst hx hb dX0_holds_245 ?_
        exact W.zret (v := zi_n 0) (ty := .boolean) hx hb hr zl_b0 (fun t ht hW => ⟨_, rfl, zl_f (by first | assumption | (unfold zh_ok10; omega) | (unfold zh_ok10; (repeat' split) <;> omega) | (unfold zh_ok10; exact Or.inr (by assumption)) | (unfold zh_ok10; exact Or.inl (by assumption)) | (unfold zh_ok10; intro h; rcases h with h | h <;> first | omega | contradiction)), ht⟩) (fun q hq => nomatch hq) dX0_holds_246
    · refine zr_bipush hx hb dX0_holds_223 (by decide) ?_
      refine lv_goto (tgt := 231) hx hb dX0_holds_225 (by decide) ?_
      refine lv_aload_n hx hb dX0_holds_231 rfl (lv_at hl 0 rfl) ?_
      refine zc_V (As := []) (rest := [.int (zi_n 64), .int (zi_n (zh_shorts F))]) ⟨hx, hb, hml, hown, hts⟩ (c_Hd_length l D hh q a cA F n hF (by omega) (by omega)) (cwV 0 hts gX0_holds_X0_length rfl rfl rfl (by decide +kernel) ⟨(Nat.le_of_ble_eq_true rfl), (Nat.le_of_ble_eq_true rfl)⟩) hP hK [0, 1, 2] [0] rfl rfl (ci := 2) rfl rfl rfl rfl hl.1 rfl (Nat.le_of_ble_eq_true rfl) dX0_holds_232 ⟨Nat.zero_le _, Nat.zero_le _⟩ (fun r hr1 => ?_)
      obtain ⟨rfl, b_10⟩ := hr1
      refine zc_S (As := [.int (zi_n (zh_shorts F)), .int (zi_n 64), .int (zi_n (zh_len F n))]) (rest := []) ⟨hx, hb, hml, hown, hts⟩ (c_Hd_fits l (zh_shorts F) 64 (zh_len F n) (by omega) (by omega) (by omega) (by omega)) (va_cwS 3 hts gX0_holds_X0_fits rfl rfl rfl (by decide +kernel) ⟨(Nat.le_of_ble_eq_true rfl), (Nat.le_of_ble_eq_true rfl)⟩) rfl hl.1 rfl (Nat.le_of_ble_eq_true rfl) dX0_holds_235 ⟨Nat.zero_le _, Nat.zero_le _⟩ (fun r hr1 => ?_)
      rcases hr1 with ⟨rfl, c_11⟩ | ⟨rfl, c_11⟩
      · refine zr_if_eq (tgt := 245) hx hb dX0_holds_238 (by decide) (by omega) (fun c => absurd c (by decide)) (fun c_12 => ?_)
        refine zr_iconst hx hb dX0_holds_241 ?_
        refine lv_goto (tgt := 246) hx hb dX0_holds_242 (by decide) ?_
        exact W.zret (v := zi_n 1) (ty := .boolean) hx hb hr zl_b1 (fun t ht hW => ⟨_, rfl, zl_t (by first | assumption | (unfold zh_ok10; omega) | (unfold zh_ok10; (repeat' split) <;> omega) | (unfold zh_ok10; exact Or.inr (by assumption)) | (unfold zh_ok10; exact Or.inl (by assumption)) | (unfold zh_ok10; intro h; rcases h with h | h <;> first | omega | contradiction)), ht⟩) (fun q hq => nomatch hq) dX0_holds_246
      · refine zr_if_eq (tgt := 245) hx hb dX0_holds_238 (by decide) (by omega) (fun c_13 => ?_) (fun c => absurd c (by decide))
        refine zr_iconst hx hb dX0_holds_245 ?_
        exact W.zret (v := zi_n 0) (ty := .boolean) hx hb hr zl_b0 (fun t ht hW => ⟨_, rfl, zl_f (by first | assumption | (unfold zh_ok10; omega) | (unfold zh_ok10; (repeat' split) <;> omega) | (unfold zh_ok10; exact Or.inr (by assumption)) | (unfold zh_ok10; exact Or.inl (by assumption)) | (unfold zh_ok10; intro h; rcases h with h | h <;> first | omega | contradiction)), ht⟩) (fun q hq => nomatch hq) dX0_holds_246

set_option maxHeartbeats 4000000 in
set_option maxRecDepth 100000 in
theorem c_Hd_holds11 (l : Launch) (D : va_G) (hh q a : Nat) (cA : ClassId) (F : Nat → Int) (n : Int) (hF : zi_By F) (hn : 0 ≤ n ∧ n ≤ 600) (h64 : 64 ≤ n) : Met l yX0_holds wsX0_holds ({ frames := 4, cells := 0, slots := 0, locals := 83 }) (va_Pc [.ref hh, .int (zi_n 11)] (zp_Q D vwCl [(hh, .inr (2, [.ref q])), (q, .inr (3, [.ref a, .int (zi_n n)])), (a, .inl (cA, 600, .inl (zi_F F)))] [(cA, .int)])) (vp_Si (fun r => (r = zi_n 1 ∧ (zh_ok11 F n)) ∨ (r = zi_n 0 ∧ ¬ (zh_ok11 F n)))) 0 0 (fun _ => False) := by
  refine Met.ofW (cc := cX0_holds) (maxL := 2) (ret := (some .boolean)) (by decide) rfl ?_
  intro p e s m args below meth c s₁ B hml hv
  obtain ⟨rfl, hP, hK⟩ := hv
  have hx := B.exec
  have hb := B.bytes
  have hr := B.returns
  have hts := atoms_spec (ws := wsX0_holds) B.pre
  have hown : s.vm.findClass RX0 = some m.cls := findClass_of_methodNamed B.named
  have hlocks := B.notSynchronized
  have hl := lv_entry ([.ref hh, .int (zi_n 11)]) (n := 2) (Nat.le_of_ble_eq_true rfl)
  rw [lg_entry_eq]
  generalize (lg_sl ([.ref hh, .int (zi_n 11)]) ++ List.replicate (2 - (lg_sl ([.ref hh, .int (zi_n 11)])).length) Slot.unset).toArray = ls at hl ⊢
  have hl : lv_has ls 2 [(0, .ref hh), (1, .int (zi_n 11))] := hl
  refine lv_iload_n hx hb dX0_holds_0 rfl (lv_at hl 1 rfl) ?_
  refine zr_tabIn (tgt := 247) hx hb dX0_holds_1 (by decide) (by decide) (by decide) rfl (by decide) ?_
  refine lv_aload_n hx hb dX0_holds_247 rfl (lv_at hl 0 rfl) ?_
  refine zc_V (As := []) (rest := []) ⟨hx, hb, hml, hown, hts⟩ (c_Hd_start l D hh q a cA F n hF (by omega) (by omega)) (cwV 0 hts gX0_holds_X0_start rfl rfl rfl (by decide +kernel) ⟨(Nat.le_of_ble_eq_true rfl), (Nat.le_of_ble_eq_true rfl)⟩) hP hK [0, 1, 2] [0] rfl rfl (ci := 2) rfl rfl rfl rfl hl.1 rfl (Nat.le_of_ble_eq_true rfl) dX0_holds_248 ⟨Nat.zero_le _, Nat.zero_le _⟩ (fun r hr1 => ?_)
  obtain ⟨rfl, b_1⟩ := hr1
  refine zr_bipush hx hb dX0_holds_251 (by decide) ?_
  refine lv_aload_n hx hb dX0_holds_253 rfl (lv_at hl 0 rfl) ?_
  refine zc_V (As := []) (rest := [.int (zi_n 64), .int (zi_n (zh_start F))]) ⟨hx, hb, hml, hown, hts⟩ (c_Hd_length l D hh q a cA F n hF (by omega) (by omega)) (cwV 0 hts gX0_holds_X0_length rfl rfl rfl (by decide +kernel) ⟨(Nat.le_of_ble_eq_true rfl), (Nat.le_of_ble_eq_true rfl)⟩) hP hK [0, 1, 2] [0] rfl rfl (ci := 2) rfl rfl rfl rfl hl.1 rfl (Nat.le_of_ble_eq_true rfl) dX0_holds_254 ⟨Nat.zero_le _, Nat.zero_le _⟩ (fun r hr1 => ?_)
  obtain ⟨rfl, b_2⟩ := hr1
  refine zr_iconst hx hb dX0_holds_257 ?_
  refine zr_isub hx hb dX0_holds_258 ?_
  refine zc_S (As := [.int (zi_n (zh_start F)), .int (zi_n 64), .int (zi_n ((zh_len F n) - 1))]) (rest := []) ⟨hx, hb, hml, hown, hts⟩ (c_Hd_isWithin l (zh_start F) 64 ((zh_len F n) - 1) (by omega) (by omega) (by omega)) (va_cwS 3 hts gX0_holds_X0_isWithin rfl rfl rfl (by decide +kernel) ⟨(Nat.le_of_ble_eq_true rfl), (Nat.le_of_ble_eq_true rfl)⟩) rfl hl.1 rfl (Nat.le_of_ble_eq_true rfl) dX0_holds_259 ⟨Nat.zero_le _, Nat.zero_le _⟩ (fun r hr1 => ?_)
  rcases hr1 with ⟨rfl, c_3⟩ | ⟨rfl, c_3⟩
  · exact W.zret (v := zi_n 1) (ty := .boolean) hx hb hr zl_b1 (fun t ht hW => ⟨_, rfl, zl_t (by first | assumption | (unfold zh_ok11; omega) | (unfold zh_ok11; (repeat' split) <;> omega) | (unfold zh_ok11; exact Or.inr (by assumption)) | (unfold zh_ok11; exact Or.inl (by assumption)) | (unfold zh_ok11; intro h; rcases h with h | h <;> first | omega | contradiction)), ht⟩) (fun q hq => nomatch hq) dX0_holds_262
  · exact W.zret (v := zi_n 0) (ty := .boolean) hx hb hr zl_b0 (fun t ht hW => ⟨_, rfl, zl_f (by first | assumption | (unfold zh_ok11; omega) | (unfold zh_ok11; (repeat' split) <;> omega) | (unfold zh_ok11; exact Or.inr (by assumption)) | (unfold zh_ok11; exact Or.inl (by assumption)) | (unfold zh_ok11; intro h; rcases h with h | h <;> first | omega | contradiction)), ht⟩) (fun q hq => nomatch hq) dX0_holds_262

set_option maxHeartbeats 4000000 in
set_option maxRecDepth 100000 in
theorem c_Hd_holds12 (l : Launch) (D : va_G) (hh q a : Nat) (cA : ClassId) (F : Nat → Int) (n : Int) (hF : zi_By F) (hn : 0 ≤ n ∧ n ≤ 600) (h64 : 64 ≤ n) : Met l yX0_holds wsX0_holds ({ frames := 4, cells := 0, slots := 0, locals := 83 }) (va_Pc [.ref hh, .int (zi_n 12)] (zp_Q D vwCl [(hh, .inr (2, [.ref q])), (q, .inr (3, [.ref a, .int (zi_n n)])), (a, .inl (cA, 600, .inl (zi_F F)))] [(cA, .int)])) (vp_Si (fun r => (r = zi_n 1 ∧ (zh_ok12 F n)) ∨ (r = zi_n 0 ∧ ¬ (zh_ok12 F n)))) 0 0 (fun _ => False) := by
  refine Met.ofW (cc := cX0_holds) (maxL := 2) (ret := (some .boolean)) (by decide) rfl ?_
  intro p e s m args below meth c s₁ B hml hv
  obtain ⟨rfl, hP, hK⟩ := hv
  have hx := B.exec
  have hb := B.bytes
  have hr := B.returns
  have hts := atoms_spec (ws := wsX0_holds) B.pre
  have hown : s.vm.findClass RX0 = some m.cls := findClass_of_methodNamed B.named
  have hlocks := B.notSynchronized
  have hl := lv_entry ([.ref hh, .int (zi_n 12)]) (n := 2) (Nat.le_of_ble_eq_true rfl)
  rw [lg_entry_eq]
  generalize (lg_sl ([.ref hh, .int (zi_n 12)]) ++ List.replicate (2 - (lg_sl ([.ref hh, .int (zi_n 12)])).length) Slot.unset).toArray = ls at hl ⊢
  have hl : lv_has ls 2 [(0, .ref hh), (1, .int (zi_n 12))] := hl
  refine lv_iload_n hx hb dX0_holds_0 rfl (lv_at hl 1 rfl) ?_
  refine zr_tabIn (tgt := 263) hx hb dX0_holds_1 (by decide) (by decide) (by decide) rfl (by decide) ?_
  refine lv_aload_n hx hb dX0_holds_263 rfl (lv_at hl 0 rfl) ?_
  refine zc_V (As := []) (rest := []) ⟨hx, hb, hml, hown, hts⟩ (c_Hd_letters l D hh q a cA F n hF (by omega) (by omega)) (cwV 0 hts gX0_holds_X0_letters rfl rfl rfl (by decide +kernel) ⟨(Nat.le_of_ble_eq_true rfl), (Nat.le_of_ble_eq_true rfl)⟩) hP hK [0, 1, 2] [0] rfl rfl (ci := 2) rfl rfl rfl rfl hl.1 rfl (Nat.le_of_ble_eq_true rfl) dX0_holds_264 ⟨Nat.zero_le _, Nat.zero_le _⟩ (fun r hr1 => ?_)
  obtain ⟨rfl, b_1⟩ := hr1
  refine zr_if_eq (tgt := 286) hx hb dX0_holds_267 (by decide) (by omega) (fun c_2 => ?_) (fun c_2 => ?_)
  · refine zr_iconst hx hb dX0_holds_286 ?_
    refine lv_goto (tgt := 291) hx hb dX0_holds_287 (by decide) ?_
    exact W.zret (v := zi_n 1) (ty := .boolean) hx hb hr zl_b1 (fun t ht hW => ⟨_, rfl, zl_t (by first | assumption | (unfold zh_ok12; omega) | (unfold zh_ok12; (repeat' split) <;> omega) | (unfold zh_ok12; exact Or.inr (by assumption)) | (unfold zh_ok12; exact Or.inl (by assumption)) | (unfold zh_ok12; intro h; rcases h with h | h <;> first | omega | contradiction)), ht⟩) (fun q hq => nomatch hq) dX0_holds_291
  · refine lv_aload_n hx hb dX0_holds_270 rfl (lv_at hl 0 rfl) ?_
    refine zc_V (As := []) (rest := []) ⟨hx, hb, hml, hown, hts⟩ (c_Hd_letters l D hh q a cA F n hF (by omega) (by omega)) (cwV 0 hts gX0_holds_X0_letters rfl rfl rfl (by decide +kernel) ⟨(Nat.le_of_ble_eq_true rfl), (Nat.le_of_ble_eq_true rfl)⟩) hP hK [0, 1, 2] [0] rfl rfl (ci := 2) rfl rfl rfl rfl hl.1 rfl (Nat.le_of_ble_eq_true rfl) dX0_holds_271 ⟨Nat.zero_le _, Nat.zero_le _⟩ (fun r hr1 => ?_)
    obtain ⟨rfl, b_3⟩ := hr1
    refine zr_bipush hx hb dX0_holds_274 (by decide) ?_
    refine lv_aload_n hx hb dX0_holds_276 rfl (lv_at hl 0 rfl) ?_
    refine zc_V (As := []) (rest := [.int (zi_n 78), .int (zi_n (zh_letters F))]) ⟨hx, hb, hml, hown, hts⟩ (c_Hd_length l D hh q a cA F n hF (by omega) (by omega)) (cwV 0 hts gX0_holds_X0_length rfl rfl rfl (by decide +kernel) ⟨(Nat.le_of_ble_eq_true rfl), (Nat.le_of_ble_eq_true rfl)⟩) hP hK [0, 1, 2] [0] rfl rfl (ci := 2) rfl rfl rfl rfl hl.1 rfl (Nat.le_of_ble_eq_true rfl) dX0_holds_277 ⟨Nat.zero_le _, Nat.zero_le _⟩ (fun r hr1 => ?_)
    obtain ⟨rfl, b_4⟩ := hr1
    refine zc_S (As := [.int (zi_n (zh_letters F)), .int (zi_n 78), .int (zi_n (zh_len F n))]) (rest := []) ⟨hx, hb, hml, hown, hts⟩ (c_Hd_fits l (zh_letters F) 78 (zh_len F n) (by omega) (by omega) (by omega) (by omega)) (va_cwS 3 hts gX0_holds_X0_fits rfl rfl rfl (by decide +kernel) ⟨(Nat.le_of_ble_eq_true rfl), (Nat.le_of_ble_eq_true rfl)⟩) rfl hl.1 rfl (Nat.le_of_ble_eq_true rfl) dX0_holds_280 ⟨Nat.zero_le _, Nat.zero_le _⟩ (fun r hr1 => ?_)
    rcases hr1 with ⟨rfl, c_5⟩ | ⟨rfl, c_5⟩
    · refine zr_if_eq (tgt := 290) hx hb dX0_holds_283 (by decide) (by omega) (fun c => absurd c (by decide)) (fun c_6 => ?_)
      refine zr_iconst hx hb dX0_holds_286 ?_
      refine lv_goto (tgt := 291) hx hb dX0_holds_287 (by decide) ?_
      exact W.zret (v := zi_n 1) (ty := .boolean) hx hb hr zl_b1 (fun t ht hW => ⟨_, rfl, zl_t (by first | assumption | (unfold zh_ok12; omega) | (unfold zh_ok12; (repeat' split) <;> omega) | (unfold zh_ok12; exact Or.inr (by assumption)) | (unfold zh_ok12; exact Or.inl (by assumption)) | (unfold zh_ok12; intro h; rcases h with h | h <;> first | omega | contradiction)), ht⟩) (fun q hq => nomatch hq) dX0_holds_291
    · refine zr_if_eq (tgt := 290) hx hb dX0_holds_283 (by decide) (by omega) (fun c_7 => ?_) (fun c => absurd c (by decide))
      refine zr_iconst hx hb dX0_holds_290 ?_
      exact W.zret (v := zi_n 0) (ty := .boolean) hx hb hr zl_b0 (fun t ht hW => ⟨_, rfl, zl_f (by first | assumption | (unfold zh_ok12; omega) | (unfold zh_ok12; (repeat' split) <;> omega) | (unfold zh_ok12; exact Or.inr (by assumption)) | (unfold zh_ok12; exact Or.inl (by assumption)) | (unfold zh_ok12; intro h; rcases h with h | h <;> first | omega | contradiction)), ht⟩) (fun q hq => nomatch hq) dX0_holds_291

set_option maxHeartbeats 4000000 in
set_option maxRecDepth 100000 in
theorem c_Hd_holds13 (l : Launch) (D : va_G) (hh q a : Nat) (cA : ClassId) (F : Nat → Int) (n : Int) (hF : zi_By F) (hn : 0 ≤ n ∧ n ≤ 600) (h64 : 64 ≤ n) (hL : zh_len F n ≤ n) : Met l yX0_holds wsX0_holds ({ frames := 5, cells := 0, slots := 0, locals := 106 }) (va_Pc [.ref hh, .int (zi_n 13)] (zp_Q D vwCl [(hh, .inr (2, [.ref q])), (q, .inr (3, [.ref a, .int (zi_n n)])), (a, .inl (cA, 600, .inl (zi_F F)))] [(cA, .int)])) (vp_Si (fun r => (r = zi_n 1 ∧ (zh_ok13 F n)) ∨ (r = zi_n 0 ∧ ¬ (zh_ok13 F n)))) 0 0 (fun _ => False) := by
  refine Met.ofW (cc := cX0_holds) (maxL := 2) (ret := (some .boolean)) (by decide) rfl ?_
  intro p e s m args below meth c s₁ B hml hv
  obtain ⟨rfl, hP, hK⟩ := hv
  have hx := B.exec
  have hb := B.bytes
  have hr := B.returns
  have hts := atoms_spec (ws := wsX0_holds) B.pre
  have hown : s.vm.findClass RX0 = some m.cls := findClass_of_methodNamed B.named
  have hlocks := B.notSynchronized
  have hl := lv_entry ([.ref hh, .int (zi_n 13)]) (n := 2) (Nat.le_of_ble_eq_true rfl)
  rw [lg_entry_eq]
  generalize (lg_sl ([.ref hh, .int (zi_n 13)]) ++ List.replicate (2 - (lg_sl ([.ref hh, .int (zi_n 13)])).length) Slot.unset).toArray = ls at hl ⊢
  have hl : lv_has ls 2 [(0, .ref hh), (1, .int (zi_n 13))] := hl
  refine lv_iload_n hx hb dX0_holds_0 rfl (lv_at hl 1 rfl) ?_
  refine zr_tabIn (tgt := 292) hx hb dX0_holds_1 (by decide) (by decide) (by decide) rfl (by decide) ?_
  refine lv_aload_n hx hb dX0_holds_292 rfl (lv_at hl 0 rfl) ?_
  refine zc_V (As := []) (rest := []) ⟨hx, hb, hml, hown, hts⟩ (c_Hd_ends l D hh q a cA F n hF (by omega) (by omega)) (cwV 0 hts gX0_holds_X0_ends rfl rfl rfl (by decide +kernel) ⟨(Nat.le_of_ble_eq_true rfl), (Nat.le_of_ble_eq_true rfl)⟩) hP hK [0, 1, 2] [0] rfl rfl (ci := 2) rfl rfl rfl rfl hl.1 rfl (Nat.le_of_ble_eq_true rfl) dX0_holds_293 ⟨Nat.zero_le _, Nat.zero_le _⟩ (fun r hr1 => ?_)
  obtain ⟨rfl, b_1⟩ := hr1
  refine zr_if_eq (tgt := 306) hx hb dX0_holds_296 (by decide) (by omega) (fun c_2 => ?_) (fun c_2 => ?_)
  · refine zr_iconst hx hb dX0_holds_306 ?_
    refine lv_goto (tgt := 311) hx hb dX0_holds_307 (by decide) ?_
    exact W.zret (v := zi_n 1) (ty := .boolean) hx hb hr zl_b1 (fun t ht hW => ⟨_, rfl, zl_t (by first | assumption | (unfold zh_ok13; omega) | (unfold zh_ok13; (repeat' split) <;> omega) | (unfold zh_ok13; exact Or.inr (by assumption)) | (unfold zh_ok13; exact Or.inl (by assumption)) | (unfold zh_ok13; intro h; rcases h with h | h <;> first | omega | contradiction)), ht⟩) (fun q hq => nomatch hq) dX0_holds_311
  · refine lv_aload_n hx hb dX0_holds_299 rfl (lv_at hl 0 rfl) ?_
    refine zc_V (As := []) (rest := []) ⟨hx, hb, hml, hown, hts⟩ (c_Hd_endsHold l D hh q a cA F n hF (by omega) (by omega) (by omega)) (cwV 0 hts gX0_holds_X0_endsHold rfl rfl rfl (by decide +kernel) ⟨(Nat.le_of_ble_eq_true rfl), (Nat.le_of_ble_eq_true rfl)⟩) hP hK [0, 1, 2] [0] rfl rfl (ci := 2) rfl rfl rfl rfl hl.1 rfl (Nat.le_of_ble_eq_true rfl) dX0_holds_300 ⟨Nat.zero_le _, Nat.zero_le _⟩ (fun r hr1 => ?_)
    rcases hr1 with ⟨rfl, c_3⟩ | ⟨rfl, c_3⟩
    · refine zr_if_eq (tgt := 310) hx hb dX0_holds_303 (by decide) (by omega) (fun c => absurd c (by decide)) (fun c_4 => ?_)
      refine zr_iconst hx hb dX0_holds_306 ?_
      refine lv_goto (tgt := 311) hx hb dX0_holds_307 (by decide) ?_
      exact W.zret (v := zi_n 1) (ty := .boolean) hx hb hr zl_b1 (fun t ht hW => ⟨_, rfl, zl_t (by first | assumption | (unfold zh_ok13; omega) | (unfold zh_ok13; (repeat' split) <;> omega) | (unfold zh_ok13; exact Or.inr (by assumption)) | (unfold zh_ok13; exact Or.inl (by assumption)) | (unfold zh_ok13; intro h; rcases h with h | h <;> first | omega | contradiction)), ht⟩) (fun q hq => nomatch hq) dX0_holds_311
    · refine zr_if_eq (tgt := 310) hx hb dX0_holds_303 (by decide) (by omega) (fun c_5 => ?_) (fun c => absurd c (by decide))
      refine zr_iconst hx hb dX0_holds_310 ?_
      exact W.zret (v := zi_n 0) (ty := .boolean) hx hb hr zl_b0 (fun t ht hW => ⟨_, rfl, zl_f (by first | assumption | (unfold zh_ok13; omega) | (unfold zh_ok13; (repeat' split) <;> omega) | (unfold zh_ok13; exact Or.inr (by assumption)) | (unfold zh_ok13; exact Or.inl (by assumption)) | (unfold zh_ok13; intro h; rcases h with h | h <;> first | omega | contradiction)), ht⟩) (fun q hq => nomatch hq) dX0_holds_311

set_option maxHeartbeats 4000000 in
set_option maxRecDepth 100000 in
theorem c_Hd_holds14 (l : Launch) (D : va_G) (hh q a : Nat) (cA : ClassId) (F : Nat → Int) (n : Int) (hF : zi_By F) (hn : 0 ≤ n ∧ n ≤ 600) (h64 : 64 ≤ n) : Met l yX0_holds wsX0_holds ({ frames := 5, cells := 0, slots := 0, locals := 104 }) (va_Pc [.ref hh, .int (zi_n 14)] (zp_Q D vwCl [(hh, .inr (2, [.ref q])), (q, .inr (3, [.ref a, .int (zi_n n)])), (a, .inl (cA, 600, .inl (zi_F F)))] [(cA, .int)])) (vp_Si (fun r => (r = zi_n 1 ∧ (zh_ok14 F n)) ∨ (r = zi_n 0 ∧ ¬ (zh_ok14 F n)))) 0 0 (fun _ => False) := by
  refine Met.ofW (cc := cX0_holds) (maxL := 2) (ret := (some .boolean)) (by decide) rfl ?_
  intro p e s m args below meth c s₁ B hml hv
  obtain ⟨rfl, hP, hK⟩ := hv
  have hx := B.exec
  have hb := B.bytes
  have hr := B.returns
  have hts := atoms_spec (ws := wsX0_holds) B.pre
  have hown : s.vm.findClass RX0 = some m.cls := findClass_of_methodNamed B.named
  have hlocks := B.notSynchronized
  have hl := lv_entry ([.ref hh, .int (zi_n 14)]) (n := 2) (Nat.le_of_ble_eq_true rfl)
  rw [lg_entry_eq]
  generalize (lg_sl ([.ref hh, .int (zi_n 14)]) ++ List.replicate (2 - (lg_sl ([.ref hh, .int (zi_n 14)])).length) Slot.unset).toArray = ls at hl ⊢
  have hl : lv_has ls 2 [(0, .ref hh), (1, .int (zi_n 14))] := hl
  refine lv_iload_n hx hb dX0_holds_0 rfl (lv_at hl 1 rfl) ?_
  refine zr_tabIn (tgt := 312) hx hb dX0_holds_1 (by decide) (by decide) (by decide) rfl (by decide) ?_
  refine lv_aload_n hx hb dX0_holds_312 rfl (lv_at hl 0 rfl) ?_
  refine zc_V (As := []) (rest := []) ⟨hx, hb, hml, hown, hts⟩ (c_Hd_more l D hh q a cA F n hF (by omega) (by omega)) (cwV 0 hts gX0_holds_X0_more rfl rfl rfl (by decide +kernel) ⟨(Nat.le_of_ble_eq_true rfl), (Nat.le_of_ble_eq_true rfl)⟩) hP hK [0, 1, 2] [0] rfl rfl (ci := 2) rfl rfl rfl rfl hl.1 rfl (Nat.le_of_ble_eq_true rfl) dX0_holds_313 ⟨Nat.zero_le _, Nat.zero_le _⟩ (fun r hr1 => ?_)
  obtain ⟨rfl, b_1⟩ := hr1
  refine zr_if_eq (tgt := 326) hx hb dX0_holds_316 (by decide) (by omega) (fun c_2 => ?_) (fun c_2 => ?_)
  · refine zr_iconst hx hb dX0_holds_326 ?_
    refine lv_goto (tgt := 331) hx hb dX0_holds_327 (by decide) ?_
    exact W.zret (v := zi_n 1) (ty := .boolean) hx hb hr zl_b1 (fun t ht hW => ⟨_, rfl, zl_t (by first | assumption | (unfold zh_ok14; omega) | (unfold zh_ok14; (repeat' split) <;> omega) | (unfold zh_ok14; exact Or.inr (by assumption)) | (unfold zh_ok14; exact Or.inl (by assumption)) | (unfold zh_ok14; intro h; rcases h with h | h <;> first | omega | contradiction)), ht⟩) (fun q hq => nomatch hq) dX0_holds_331
  · refine lv_aload_n hx hb dX0_holds_319 rfl (lv_at hl 0 rfl) ?_
    refine zc_V (As := []) (rest := []) ⟨hx, hb, hml, hown, hts⟩ (c_Hd_moreHolds l D hh q a cA F n hF (by omega) (by omega)) (cwV 0 hts gX0_holds_X0_moreHolds rfl rfl rfl (by decide +kernel) ⟨(Nat.le_of_ble_eq_true rfl), (Nat.le_of_ble_eq_true rfl)⟩) hP hK [0, 1, 2] [0] rfl rfl (ci := 2) rfl rfl rfl rfl hl.1 rfl (Nat.le_of_ble_eq_true rfl) dX0_holds_320 ⟨Nat.zero_le _, Nat.zero_le _⟩ (fun r hr1 => ?_)
    rcases hr1 with ⟨rfl, c_3⟩ | ⟨rfl, c_3⟩
    · refine zr_if_eq (tgt := 330) hx hb dX0_holds_323 (by decide) (by omega) (fun c => absurd c (by decide)) (fun c_4 => ?_)
      refine zr_iconst hx hb dX0_holds_326 ?_
      refine lv_goto (tgt := 331) hx hb dX0_holds_327 (by decide) ?_
      exact W.zret (v := zi_n 1) (ty := .boolean) hx hb hr zl_b1 (fun t ht hW => ⟨_, rfl, zl_t (by first | assumption | (unfold zh_ok14; omega) | (unfold zh_ok14; (repeat' split) <;> omega) | (unfold zh_ok14; exact Or.inr (by assumption)) | (unfold zh_ok14; exact Or.inl (by assumption)) | (unfold zh_ok14; intro h; rcases h with h | h <;> first | omega | contradiction)), ht⟩) (fun q hq => nomatch hq) dX0_holds_331
    · refine zr_if_eq (tgt := 330) hx hb dX0_holds_323 (by decide) (by omega) (fun c_5 => ?_) (fun c => absurd c (by decide))
      refine zr_iconst hx hb dX0_holds_330 ?_
      exact W.zret (v := zi_n 0) (ty := .boolean) hx hb hr zl_b0 (fun t ht hW => ⟨_, rfl, zl_f (by first | assumption | (unfold zh_ok14; omega) | (unfold zh_ok14; (repeat' split) <;> omega) | (unfold zh_ok14; exact Or.inr (by assumption)) | (unfold zh_ok14; exact Or.inl (by assumption)) | (unfold zh_ok14; intro h; rcases h with h | h <;> first | omega | contradiction)), ht⟩) (fun q hq => nomatch hq) dX0_holds_331

set_option maxHeartbeats 4000000 in
set_option maxRecDepth 100000 in
theorem c_Hd_holds15 (l : Launch) (D : va_G) (hh q a : Nat) (cA : ClassId) (F : Nat → Int) (n : Int) (hF : zi_By F) (hn : 0 ≤ n ∧ n ≤ 600) (h64 : 64 ≤ n) : Met l yX0_holds wsX0_holds ({ frames := 5, cells := 0, slots := 0, locals := 105 }) (va_Pc [.ref hh, .int (zi_n 15)] (zp_Q D vwCl [(hh, .inr (2, [.ref q])), (q, .inr (3, [.ref a, .int (zi_n n)])), (a, .inl (cA, 600, .inl (zi_F F)))] [(cA, .int)])) (vp_Si (fun r => (r = zi_n 1 ∧ (zh_ok15 F n)) ∨ (r = zi_n 0 ∧ ¬ (zh_ok15 F n)))) 0 0 (fun _ => False) := by
  refine Met.ofW (cc := cX0_holds) (maxL := 2) (ret := (some .boolean)) (by decide) rfl ?_
  intro p e s m args below meth c s₁ B hml hv
  obtain ⟨rfl, hP, hK⟩ := hv
  have hx := B.exec
  have hb := B.bytes
  have hr := B.returns
  have hts := atoms_spec (ws := wsX0_holds) B.pre
  have hown : s.vm.findClass RX0 = some m.cls := findClass_of_methodNamed B.named
  have hlocks := B.notSynchronized
  have hl := lv_entry ([.ref hh, .int (zi_n 15)]) (n := 2) (Nat.le_of_ble_eq_true rfl)
  rw [lg_entry_eq]
  generalize (lg_sl ([.ref hh, .int (zi_n 15)]) ++ List.replicate (2 - (lg_sl ([.ref hh, .int (zi_n 15)])).length) Slot.unset).toArray = ls at hl ⊢
  have hl : lv_has ls 2 [(0, .ref hh), (1, .int (zi_n 15))] := hl
  refine lv_iload_n hx hb dX0_holds_0 rfl (lv_at hl 1 rfl) ?_
  refine zr_tabOut (tgt := 332) hx hb dX0_holds_1 (by decide) (by decide) (by decide) ?_
  refine lv_aload_n hx hb dX0_holds_332 rfl (lv_at hl 0 rfl) ?_
  refine zc_V (As := []) (rest := []) ⟨hx, hb, hml, hown, hts⟩ (c_Hd_thirdWord l D hh q a cA F n hF (by omega) (by omega)) (cwV 0 hts gX0_holds_X0_thirdWord rfl rfl rfl (by decide +kernel) ⟨(Nat.le_of_ble_eq_true rfl), (Nat.le_of_ble_eq_true rfl)⟩) hP hK [0, 1, 2] [0] rfl rfl (ci := 2) rfl rfl rfl rfl hl.1 rfl (Nat.le_of_ble_eq_true rfl) dX0_holds_333 ⟨Nat.zero_le _, Nat.zero_le _⟩ (fun r hr1 => ?_)
  obtain ⟨rfl, b_1⟩ := hr1
  refine zr_if_eq (tgt := 346) hx hb dX0_holds_336 (by decide) (by omega) (fun c_2 => ?_) (fun c_2 => ?_)
  · refine zr_iconst hx hb dX0_holds_346 ?_
    refine lv_goto (tgt := 351) hx hb dX0_holds_347 (by decide) ?_
    exact W.zret (v := zi_n 1) (ty := .boolean) hx hb hr zl_b1 (fun t ht hW => ⟨_, rfl, zl_t (by first | assumption | (unfold zh_ok15; omega) | (unfold zh_ok15; (repeat' split) <;> omega) | (unfold zh_ok15; exact Or.inr (by assumption)) | (unfold zh_ok15; exact Or.inl (by assumption)) | (unfold zh_ok15; intro h; rcases h with h | h <;> first | omega | contradiction)), ht⟩) (fun q hq => nomatch hq) dX0_holds_351
  · refine lv_aload_n hx hb dX0_holds_339 rfl (lv_at hl 0 rfl) ?_
    refine zc_V (As := []) (rest := []) ⟨hx, hb, hml, hown, hts⟩ (c_Hd_thirdHolds l D hh q a cA F n hF (by omega) (by omega)) (cwV 0 hts gX0_holds_X0_thirdHolds rfl rfl rfl (by decide +kernel) ⟨(Nat.le_of_ble_eq_true rfl), (Nat.le_of_ble_eq_true rfl)⟩) hP hK [0, 1, 2] [0] rfl rfl (ci := 2) rfl rfl rfl rfl hl.1 rfl (Nat.le_of_ble_eq_true rfl) dX0_holds_340 ⟨Nat.zero_le _, Nat.zero_le _⟩ (fun r hr1 => ?_)
    rcases hr1 with ⟨rfl, c_3⟩ | ⟨rfl, c_3⟩
    · refine zr_if_eq (tgt := 350) hx hb dX0_holds_343 (by decide) (by omega) (fun c => absurd c (by decide)) (fun c_4 => ?_)
      refine zr_iconst hx hb dX0_holds_346 ?_
      refine lv_goto (tgt := 351) hx hb dX0_holds_347 (by decide) ?_
      exact W.zret (v := zi_n 1) (ty := .boolean) hx hb hr zl_b1 (fun t ht hW => ⟨_, rfl, zl_t (by first | assumption | (unfold zh_ok15; omega) | (unfold zh_ok15; (repeat' split) <;> omega) | (unfold zh_ok15; exact Or.inr (by assumption)) | (unfold zh_ok15; exact Or.inl (by assumption)) | (unfold zh_ok15; intro h; rcases h with h | h <;> first | omega | contradiction)), ht⟩) (fun q hq => nomatch hq) dX0_holds_351
    · refine zr_if_eq (tgt := 350) hx hb dX0_holds_343 (by decide) (by omega) (fun c_5 => ?_) (fun c => absurd c (by decide))
      refine zr_iconst hx hb dX0_holds_350 ?_
      exact W.zret (v := zi_n 0) (ty := .boolean) hx hb hr zl_b0 (fun t ht hW => ⟨_, rfl, zl_f (by first | assumption | (unfold zh_ok15; omega) | (unfold zh_ok15; (repeat' split) <;> omega) | (unfold zh_ok15; exact Or.inr (by assumption)) | (unfold zh_ok15; exact Or.inl (by assumption)) | (unfold zh_ok15; intro h; rcases h with h | h <;> first | omega | contradiction)), ht⟩) (fun q hq => nomatch hq) dX0_holds_351

set_option maxHeartbeats 4000000 in
set_option maxRecDepth 100000 in
theorem c_Hd_placeOf1 (l : Launch) (D : va_G) (hh q a : Nat) (cA : ClassId) (F : Nat → Int) (n : Int) (hF : zi_By F) (hn : 0 ≤ n ∧ n ≤ 600) : Met l yX0_placeOf wsX0_placeOf ({ frames := 0, cells := 0, slots := 0, locals := 0 }) (va_Pc [.ref hh, .int (zi_n 1)] (zp_Q D vwCl [(hh, .inr (2, [.ref q])), (q, .inr (3, [.ref a, .int (zi_n n)])), (a, .inl (cA, 600, .inl (zi_F F)))] [(cA, .int)])) (vp_Si (fun r => r = zi_n 0 ∧ 0 ≤ 0 ∧ 0 ≤ 65541)) 0 0 (fun _ => False) := by
  refine Met.ofW (cc := cX0_placeOf) (maxL := 2) (ret := (some .int)) (by decide) rfl ?_
  intro p e s m args below meth c s₁ B hml hv
  obtain ⟨rfl, hP, hK⟩ := hv
  have hx := B.exec
  have hb := B.bytes
  have hr := B.returns
  have hts := atoms_spec (ws := wsX0_placeOf) B.pre
  have hown : s.vm.findClass RX0 = some m.cls := findClass_of_methodNamed B.named
  have hlocks := B.notSynchronized
  have hl := lv_entry ([.ref hh, .int (zi_n 1)]) (n := 2) (Nat.le_of_ble_eq_true rfl)
  rw [lg_entry_eq]
  generalize (lg_sl ([.ref hh, .int (zi_n 1)]) ++ List.replicate (2 - (lg_sl ([.ref hh, .int (zi_n 1)])).length) Slot.unset).toArray = ls at hl ⊢
  have hl : lv_has ls 2 [(0, .ref hh), (1, .int (zi_n 1))] := hl
  refine lv_iload_n hx hb dX0_placeOf_0 rfl (lv_at hl 1 rfl) ?_
  refine zr_tabOut (tgt := 116) hx hb dX0_placeOf_1 (by decide) (by decide) (by decide) ?_
  refine zr_iconst hx hb dX0_placeOf_116 ?_
  exact W.iret (v := zi_n 0) hx hb hr (fun t ht hW => ⟨_, rfl, ⟨rfl, by omega⟩, ht⟩) (fun q hq => nomatch hq) dX0_placeOf_117

set_option maxHeartbeats 4000000 in
set_option maxRecDepth 100000 in
theorem c_Hd_placeOf2 (l : Launch) (D : va_G) (hh q a : Nat) (cA : ClassId) (F : Nat → Int) (n : Int) (hF : zi_By F) (hn : 0 ≤ n ∧ n ≤ 600) : Met l yX0_placeOf wsX0_placeOf ({ frames := 0, cells := 0, slots := 0, locals := 0 }) (va_Pc [.ref hh, .int (zi_n 2)] (zp_Q D vwCl [(hh, .inr (2, [.ref q])), (q, .inr (3, [.ref a, .int (zi_n n)])), (a, .inl (cA, 600, .inl (zi_F F)))] [(cA, .int)])) (vp_Si (fun r => r = zi_n 0 ∧ 0 ≤ 0 ∧ 0 ≤ 65541)) 0 0 (fun _ => False) := by
  refine Met.ofW (cc := cX0_placeOf) (maxL := 2) (ret := (some .int)) (by decide) rfl ?_
  intro p e s m args below meth c s₁ B hml hv
  obtain ⟨rfl, hP, hK⟩ := hv
  have hx := B.exec
  have hb := B.bytes
  have hr := B.returns
  have hts := atoms_spec (ws := wsX0_placeOf) B.pre
  have hown : s.vm.findClass RX0 = some m.cls := findClass_of_methodNamed B.named
  have hlocks := B.notSynchronized
  have hl := lv_entry ([.ref hh, .int (zi_n 2)]) (n := 2) (Nat.le_of_ble_eq_true rfl)
  rw [lg_entry_eq]
  generalize (lg_sl ([.ref hh, .int (zi_n 2)]) ++ List.replicate (2 - (lg_sl ([.ref hh, .int (zi_n 2)])).length) Slot.unset).toArray = ls at hl ⊢
  have hl : lv_has ls 2 [(0, .ref hh), (1, .int (zi_n 2))] := hl
  refine lv_iload_n hx hb dX0_placeOf_0 rfl (lv_at hl 1 rfl) ?_
  refine zr_tabOut (tgt := 116) hx hb dX0_placeOf_1 (by decide) (by decide) (by decide) ?_
  refine zr_iconst hx hb dX0_placeOf_116 ?_
  exact W.iret (v := zi_n 0) hx hb hr (fun t ht hW => ⟨_, rfl, ⟨rfl, by omega⟩, ht⟩) (fun q hq => nomatch hq) dX0_placeOf_117

theorem in_X0_placeOf_X0 : ∀ w ∈ u_ws RX0 TX0 1, w ∈ wsX0_placeOf := by decide +kernel
set_option maxHeartbeats 4000000 in
set_option maxRecDepth 100000 in
theorem c_Hd_placeOf3 (l : Launch) (D : va_G) (hh q a : Nat) (cA : ClassId) (F : Nat → Int) (n : Int) (hF : zi_By F) (hn : 0 ≤ n ∧ n ≤ 600) : Met l yX0_placeOf wsX0_placeOf ({ frames := 1, cells := 0, slots := 0, locals := 20 }) (va_Pc [.ref hh, .int (zi_n 3)] (zp_Q D vwCl [(hh, .inr (2, [.ref q])), (q, .inr (3, [.ref a, .int (zi_n n)])), (a, .inl (cA, 600, .inl (zi_F F)))] [(cA, .int)])) (vp_Si (fun r => r = zi_n n ∧ 0 ≤ n ∧ n ≤ 65541)) 0 0 (fun _ => False) := by
  refine Met.ofW (cc := cX0_placeOf) (maxL := 2) (ret := (some .int)) (by decide) rfl ?_
  intro p e s m args below meth c s₁ B hml hv
  obtain ⟨rfl, hP, hK⟩ := hv
  have hx := B.exec
  have hb := B.bytes
  have hr := B.returns
  have hts := atoms_spec (ws := wsX0_placeOf) B.pre
  have hown : s.vm.findClass RX0 = some m.cls := findClass_of_methodNamed B.named
  have hlocks := B.notSynchronized
  have hl := lv_entry ([.ref hh, .int (zi_n 3)]) (n := 2) (Nat.le_of_ble_eq_true rfl)
  rw [lg_entry_eq]
  generalize (lg_sl ([.ref hh, .int (zi_n 3)]) ++ List.replicate (2 - (lg_sl ([.ref hh, .int (zi_n 3)])).length) Slot.unset).toArray = ls at hl ⊢
  have hl : lv_has ls 2 [(0, .ref hh), (1, .int (zi_n 3))] := hl
  refine lv_iload_n hx hb dX0_placeOf_0 rfl (lv_at hl 1 rfl) ?_
  refine zr_tabIn (tgt := 68) hx hb dX0_placeOf_1 (by decide) (by decide) (by decide) rfl (by decide) ?_
  refine lv_aload_n hx hb dX0_placeOf_68 rfl (lv_at hl 0 rfl) ?_
  refine va_get (D := D) (ci := 2) (v := .ref q) (C := RX0) (T := TX0) (N := 1) hx hb hts in_X0_placeOf_X0 hown hK hP 0 rfl rfl 0 (by decide) (hts (.fieldLink RX0 9 "ZHeads$Head" "row" "LZHeads$Row;") (by decide +kernel)) (fun _ h9 => h9) rfl dX0_placeOf_69 ?_
  refine zc_V (As := []) (rest := []) ⟨hx, hb, hml, hown, hts⟩ (c_Row_count l D q a cA F n hF (by omega)) (cwV 0 hts gX0_placeOf_X2_count rfl rfl rfl (by decide +kernel) ⟨(Nat.le_of_ble_eq_true rfl), (Nat.le_of_ble_eq_true rfl)⟩) hP hK [1, 2] [0] rfl rfl (ci := 3) rfl rfl rfl rfl hl.1 rfl (Nat.le_of_ble_eq_true rfl) dX0_placeOf_72 ⟨Nat.zero_le _, Nat.zero_le _⟩ (fun r hr1 => ?_)
  obtain ⟨rfl, b_1⟩ := hr1
  exact W.iret (v := zi_n n) hx hb hr (fun t ht hW => ⟨_, rfl, ⟨rfl, by omega⟩, ht⟩) (fun q hq => nomatch hq) dX0_placeOf_75

set_option maxHeartbeats 4000000 in
set_option maxRecDepth 100000 in
theorem c_Hd_placeOf4 (l : Launch) (D : va_G) (hh q a : Nat) (cA : ClassId) (F : Nat → Int) (n : Int) (hF : zi_By F) (hn : 0 ≤ n ∧ n ≤ 600) : Met l yX0_placeOf wsX0_placeOf ({ frames := 0, cells := 0, slots := 0, locals := 0 }) (va_Pc [.ref hh, .int (zi_n 4)] (zp_Q D vwCl [(hh, .inr (2, [.ref q])), (q, .inr (3, [.ref a, .int (zi_n n)])), (a, .inl (cA, 600, .inl (zi_F F)))] [(cA, .int)])) (vp_Si (fun r => r = zi_n 26 ∧ 0 ≤ 26 ∧ 26 ≤ 65541)) 0 0 (fun _ => False) := by
  refine Met.ofW (cc := cX0_placeOf) (maxL := 2) (ret := (some .int)) (by decide) rfl ?_
  intro p e s m args below meth c s₁ B hml hv
  obtain ⟨rfl, hP, hK⟩ := hv
  have hx := B.exec
  have hb := B.bytes
  have hr := B.returns
  have hts := atoms_spec (ws := wsX0_placeOf) B.pre
  have hown : s.vm.findClass RX0 = some m.cls := findClass_of_methodNamed B.named
  have hlocks := B.notSynchronized
  have hl := lv_entry ([.ref hh, .int (zi_n 4)]) (n := 2) (Nat.le_of_ble_eq_true rfl)
  rw [lg_entry_eq]
  generalize (lg_sl ([.ref hh, .int (zi_n 4)]) ++ List.replicate (2 - (lg_sl ([.ref hh, .int (zi_n 4)])).length) Slot.unset).toArray = ls at hl ⊢
  have hl : lv_has ls 2 [(0, .ref hh), (1, .int (zi_n 4))] := hl
  refine lv_iload_n hx hb dX0_placeOf_0 rfl (lv_at hl 1 rfl) ?_
  refine zr_tabIn (tgt := 76) hx hb dX0_placeOf_1 (by decide) (by decide) (by decide) rfl (by decide) ?_
  refine zr_bipush hx hb dX0_placeOf_76 (by decide) ?_
  exact W.iret (v := zi_n 26) hx hb hr (fun t ht hW => ⟨_, rfl, ⟨rfl, by omega⟩, ht⟩) (fun q hq => nomatch hq) dX0_placeOf_78

set_option maxHeartbeats 4000000 in
set_option maxRecDepth 100000 in
theorem c_Hd_placeOf5 (l : Launch) (D : va_G) (hh q a : Nat) (cA : ClassId) (F : Nat → Int) (n : Int) (hF : zi_By F) (hn : 0 ≤ n ∧ n ≤ 600) : Met l yX0_placeOf wsX0_placeOf ({ frames := 0, cells := 0, slots := 0, locals := 0 }) (va_Pc [.ref hh, .int (zi_n 5)] (zp_Q D vwCl [(hh, .inr (2, [.ref q])), (q, .inr (3, [.ref a, .int (zi_n n)])), (a, .inl (cA, 600, .inl (zi_F F)))] [(cA, .int)])) (vp_Si (fun r => r = zi_n 14 ∧ 0 ≤ 14 ∧ 14 ≤ 65541)) 0 0 (fun _ => False) := by
  refine Met.ofW (cc := cX0_placeOf) (maxL := 2) (ret := (some .int)) (by decide) rfl ?_
  intro p e s m args below meth c s₁ B hml hv
  obtain ⟨rfl, hP, hK⟩ := hv
  have hx := B.exec
  have hb := B.bytes
  have hr := B.returns
  have hts := atoms_spec (ws := wsX0_placeOf) B.pre
  have hown : s.vm.findClass RX0 = some m.cls := findClass_of_methodNamed B.named
  have hlocks := B.notSynchronized
  have hl := lv_entry ([.ref hh, .int (zi_n 5)]) (n := 2) (Nat.le_of_ble_eq_true rfl)
  rw [lg_entry_eq]
  generalize (lg_sl ([.ref hh, .int (zi_n 5)]) ++ List.replicate (2 - (lg_sl ([.ref hh, .int (zi_n 5)])).length) Slot.unset).toArray = ls at hl ⊢
  have hl : lv_has ls 2 [(0, .ref hh), (1, .int (zi_n 5))] := hl
  refine lv_iload_n hx hb dX0_placeOf_0 rfl (lv_at hl 1 rfl) ?_
  refine zr_tabIn (tgt := 79) hx hb dX0_placeOf_1 (by decide) (by decide) (by decide) rfl (by decide) ?_
  refine zr_bipush hx hb dX0_placeOf_79 (by decide) ?_
  exact W.iret (v := zi_n 14) hx hb hr (fun t ht hW => ⟨_, rfl, ⟨rfl, by omega⟩, ht⟩) (fun q hq => nomatch hq) dX0_placeOf_81

set_option maxHeartbeats 4000000 in
set_option maxRecDepth 100000 in
theorem c_Hd_placeOf6 (l : Launch) (D : va_G) (hh q a : Nat) (cA : ClassId) (F : Nat → Int) (n : Int) (hF : zi_By F) (hn : 0 ≤ n ∧ n ≤ 600) : Met l yX0_placeOf wsX0_placeOf ({ frames := 0, cells := 0, slots := 0, locals := 0 }) (va_Pc [.ref hh, .int (zi_n 6)] (zp_Q D vwCl [(hh, .inr (2, [.ref q])), (q, .inr (3, [.ref a, .int (zi_n n)])), (a, .inl (cA, 600, .inl (zi_F F)))] [(cA, .int)])) (vp_Si (fun r => r = zi_n 4 ∧ 0 ≤ 4 ∧ 4 ≤ 65541)) 0 0 (fun _ => False) := by
  refine Met.ofW (cc := cX0_placeOf) (maxL := 2) (ret := (some .int)) (by decide) rfl ?_
  intro p e s m args below meth c s₁ B hml hv
  obtain ⟨rfl, hP, hK⟩ := hv
  have hx := B.exec
  have hb := B.bytes
  have hr := B.returns
  have hts := atoms_spec (ws := wsX0_placeOf) B.pre
  have hown : s.vm.findClass RX0 = some m.cls := findClass_of_methodNamed B.named
  have hlocks := B.notSynchronized
  have hl := lv_entry ([.ref hh, .int (zi_n 6)]) (n := 2) (Nat.le_of_ble_eq_true rfl)
  rw [lg_entry_eq]
  generalize (lg_sl ([.ref hh, .int (zi_n 6)]) ++ List.replicate (2 - (lg_sl ([.ref hh, .int (zi_n 6)])).length) Slot.unset).toArray = ls at hl ⊢
  have hl : lv_has ls 2 [(0, .ref hh), (1, .int (zi_n 6))] := hl
  refine lv_iload_n hx hb dX0_placeOf_0 rfl (lv_at hl 1 rfl) ?_
  refine zr_tabIn (tgt := 82) hx hb dX0_placeOf_1 (by decide) (by decide) (by decide) rfl (by decide) ?_
  refine zr_iconst hx hb dX0_placeOf_82 ?_
  exact W.iret (v := zi_n 4) hx hb hr (fun t ht hW => ⟨_, rfl, ⟨rfl, by omega⟩, ht⟩) (fun q hq => nomatch hq) dX0_placeOf_83

set_option maxHeartbeats 4000000 in
set_option maxRecDepth 100000 in
theorem c_Hd_placeOf7 (l : Launch) (D : va_G) (hh q a : Nat) (cA : ClassId) (F : Nat → Int) (n : Int) (hF : zi_By F) (hn : 0 ≤ n ∧ n ≤ 600) : Met l yX0_placeOf wsX0_placeOf ({ frames := 0, cells := 0, slots := 0, locals := 0 }) (va_Pc [.ref hh, .int (zi_n 7)] (zp_Q D vwCl [(hh, .inr (2, [.ref q])), (q, .inr (3, [.ref a, .int (zi_n n)])), (a, .inl (cA, 600, .inl (zi_F F)))] [(cA, .int)])) (vp_Si (fun r => r = zi_n 12 ∧ 0 ≤ 12 ∧ 12 ≤ 65541)) 0 0 (fun _ => False) := by
  refine Met.ofW (cc := cX0_placeOf) (maxL := 2) (ret := (some .int)) (by decide) rfl ?_
  intro p e s m args below meth c s₁ B hml hv
  obtain ⟨rfl, hP, hK⟩ := hv
  have hx := B.exec
  have hb := B.bytes
  have hr := B.returns
  have hts := atoms_spec (ws := wsX0_placeOf) B.pre
  have hown : s.vm.findClass RX0 = some m.cls := findClass_of_methodNamed B.named
  have hlocks := B.notSynchronized
  have hl := lv_entry ([.ref hh, .int (zi_n 7)]) (n := 2) (Nat.le_of_ble_eq_true rfl)
  rw [lg_entry_eq]
  generalize (lg_sl ([.ref hh, .int (zi_n 7)]) ++ List.replicate (2 - (lg_sl ([.ref hh, .int (zi_n 7)])).length) Slot.unset).toArray = ls at hl ⊢
  have hl : lv_has ls 2 [(0, .ref hh), (1, .int (zi_n 7))] := hl
  refine lv_iload_n hx hb dX0_placeOf_0 rfl (lv_at hl 1 rfl) ?_
  refine zr_tabIn (tgt := 84) hx hb dX0_placeOf_1 (by decide) (by decide) (by decide) rfl (by decide) ?_
  refine zr_bipush hx hb dX0_placeOf_84 (by decide) ?_
  exact W.iret (v := zi_n 12) hx hb hr (fun t ht hW => ⟨_, rfl, ⟨rfl, by omega⟩, ht⟩) (fun q hq => nomatch hq) dX0_placeOf_86

set_option maxHeartbeats 4000000 in
set_option maxRecDepth 100000 in
theorem c_Hd_placeOf8 (l : Launch) (D : va_G) (hh q a : Nat) (cA : ClassId) (F : Nat → Int) (n : Int) (hF : zi_By F) (hn : 0 ≤ n ∧ n ≤ 600) : Met l yX0_placeOf wsX0_placeOf ({ frames := 0, cells := 0, slots := 0, locals := 0 }) (va_Pc [.ref hh, .int (zi_n 8)] (zp_Q D vwCl [(hh, .inr (2, [.ref q])), (q, .inr (3, [.ref a, .int (zi_n n)])), (a, .inl (cA, 600, .inl (zi_F F)))] [(cA, .int)])) (vp_Si (fun r => r = zi_n 10 ∧ 0 ≤ 10 ∧ 10 ≤ 65541)) 0 0 (fun _ => False) := by
  refine Met.ofW (cc := cX0_placeOf) (maxL := 2) (ret := (some .int)) (by decide) rfl ?_
  intro p e s m args below meth c s₁ B hml hv
  obtain ⟨rfl, hP, hK⟩ := hv
  have hx := B.exec
  have hb := B.bytes
  have hr := B.returns
  have hts := atoms_spec (ws := wsX0_placeOf) B.pre
  have hown : s.vm.findClass RX0 = some m.cls := findClass_of_methodNamed B.named
  have hlocks := B.notSynchronized
  have hl := lv_entry ([.ref hh, .int (zi_n 8)]) (n := 2) (Nat.le_of_ble_eq_true rfl)
  rw [lg_entry_eq]
  generalize (lg_sl ([.ref hh, .int (zi_n 8)]) ++ List.replicate (2 - (lg_sl ([.ref hh, .int (zi_n 8)])).length) Slot.unset).toArray = ls at hl ⊢
  have hl : lv_has ls 2 [(0, .ref hh), (1, .int (zi_n 8))] := hl
  refine lv_iload_n hx hb dX0_placeOf_0 rfl (lv_at hl 1 rfl) ?_
  refine zr_tabIn (tgt := 87) hx hb dX0_placeOf_1 (by decide) (by decide) (by decide) rfl (by decide) ?_
  refine zr_bipush hx hb dX0_placeOf_87 (by decide) ?_
  exact W.iret (v := zi_n 10) hx hb hr (fun t ht hW => ⟨_, rfl, ⟨rfl, by omega⟩, ht⟩) (fun q hq => nomatch hq) dX0_placeOf_89

set_option maxHeartbeats 4000000 in
set_option maxRecDepth 100000 in
theorem c_Hd_placeOf9 (l : Launch) (D : va_G) (hh q a : Nat) (cA : ClassId) (F : Nat → Int) (n : Int) (hF : zi_By F) (hn : 0 ≤ n ∧ n ≤ 600) : Met l yX0_placeOf wsX0_placeOf ({ frames := 0, cells := 0, slots := 0, locals := 0 }) (va_Pc [.ref hh, .int (zi_n 9)] (zp_Q D vwCl [(hh, .inr (2, [.ref q])), (q, .inr (3, [.ref a, .int (zi_n n)])), (a, .inl (cA, 600, .inl (zi_F F)))] [(cA, .int)])) (vp_Si (fun r => r = zi_n 8 ∧ 0 ≤ 8 ∧ 8 ≤ 65541)) 0 0 (fun _ => False) := by
  refine Met.ofW (cc := cX0_placeOf) (maxL := 2) (ret := (some .int)) (by decide) rfl ?_
  intro p e s m args below meth c s₁ B hml hv
  obtain ⟨rfl, hP, hK⟩ := hv
  have hx := B.exec
  have hb := B.bytes
  have hr := B.returns
  have hts := atoms_spec (ws := wsX0_placeOf) B.pre
  have hown : s.vm.findClass RX0 = some m.cls := findClass_of_methodNamed B.named
  have hlocks := B.notSynchronized
  have hl := lv_entry ([.ref hh, .int (zi_n 9)]) (n := 2) (Nat.le_of_ble_eq_true rfl)
  rw [lg_entry_eq]
  generalize (lg_sl ([.ref hh, .int (zi_n 9)]) ++ List.replicate (2 - (lg_sl ([.ref hh, .int (zi_n 9)])).length) Slot.unset).toArray = ls at hl ⊢
  have hl : lv_has ls 2 [(0, .ref hh), (1, .int (zi_n 9))] := hl
  refine lv_iload_n hx hb dX0_placeOf_0 rfl (lv_at hl 1 rfl) ?_
  refine zr_tabIn (tgt := 90) hx hb dX0_placeOf_1 (by decide) (by decide) (by decide) rfl (by decide) ?_
  refine zr_bipush hx hb dX0_placeOf_90 (by decide) ?_
  exact W.iret (v := zi_n 8) hx hb hr (fun t ht hW => ⟨_, rfl, ⟨rfl, by omega⟩, ht⟩) (fun q hq => nomatch hq) dX0_placeOf_92

set_option maxHeartbeats 4000000 in
set_option maxRecDepth 100000 in
theorem c_Hd_placeOf10 (l : Launch) (D : va_G) (hh q a : Nat) (cA : ClassId) (F : Nat → Int) (n : Int) (hF : zi_By F) (hn : 0 ≤ n ∧ n ≤ 600) : Met l yX0_placeOf wsX0_placeOf ({ frames := 0, cells := 0, slots := 0, locals := 0 }) (va_Pc [.ref hh, .int (zi_n 10)] (zp_Q D vwCl [(hh, .inr (2, [.ref q])), (q, .inr (3, [.ref a, .int (zi_n n)])), (a, .inl (cA, 600, .inl (zi_F F)))] [(cA, .int)])) (vp_Si (fun r => r = zi_n 24 ∧ 0 ≤ 24 ∧ 24 ≤ 65541)) 0 0 (fun _ => False) := by
  refine Met.ofW (cc := cX0_placeOf) (maxL := 2) (ret := (some .int)) (by decide) rfl ?_
  intro p e s m args below meth c s₁ B hml hv
  obtain ⟨rfl, hP, hK⟩ := hv
  have hx := B.exec
  have hb := B.bytes
  have hr := B.returns
  have hts := atoms_spec (ws := wsX0_placeOf) B.pre
  have hown : s.vm.findClass RX0 = some m.cls := findClass_of_methodNamed B.named
  have hlocks := B.notSynchronized
  have hl := lv_entry ([.ref hh, .int (zi_n 10)]) (n := 2) (Nat.le_of_ble_eq_true rfl)
  rw [lg_entry_eq]
  generalize (lg_sl ([.ref hh, .int (zi_n 10)]) ++ List.replicate (2 - (lg_sl ([.ref hh, .int (zi_n 10)])).length) Slot.unset).toArray = ls at hl ⊢
  have hl : lv_has ls 2 [(0, .ref hh), (1, .int (zi_n 10))] := hl
  refine lv_iload_n hx hb dX0_placeOf_0 rfl (lv_at hl 1 rfl) ?_
  refine zr_tabIn (tgt := 93) hx hb dX0_placeOf_1 (by decide) (by decide) (by decide) rfl (by decide) ?_
  refine zr_bipush hx hb dX0_placeOf_93 (by decide) ?_
  exact W.iret (v := zi_n 24) hx hb hr (fun t ht hW => ⟨_, rfl, ⟨rfl, by omega⟩, ht⟩) (fun q hq => nomatch hq) dX0_placeOf_95

set_option maxHeartbeats 4000000 in
set_option maxRecDepth 100000 in
theorem c_Hd_placeOf11 (l : Launch) (D : va_G) (hh q a : Nat) (cA : ClassId) (F : Nat → Int) (n : Int) (hF : zi_By F) (hn : 0 ≤ n ∧ n ≤ 600) : Met l yX0_placeOf wsX0_placeOf ({ frames := 0, cells := 0, slots := 0, locals := 0 }) (va_Pc [.ref hh, .int (zi_n 11)] (zp_Q D vwCl [(hh, .inr (2, [.ref q])), (q, .inr (3, [.ref a, .int (zi_n n)])), (a, .inl (cA, 600, .inl (zi_F F)))] [(cA, .int)])) (vp_Si (fun r => r = zi_n 6 ∧ 0 ≤ 6 ∧ 6 ≤ 65541)) 0 0 (fun _ => False) := by
  refine Met.ofW (cc := cX0_placeOf) (maxL := 2) (ret := (some .int)) (by decide) rfl ?_
  intro p e s m args below meth c s₁ B hml hv
  obtain ⟨rfl, hP, hK⟩ := hv
  have hx := B.exec
  have hb := B.bytes
  have hr := B.returns
  have hts := atoms_spec (ws := wsX0_placeOf) B.pre
  have hown : s.vm.findClass RX0 = some m.cls := findClass_of_methodNamed B.named
  have hlocks := B.notSynchronized
  have hl := lv_entry ([.ref hh, .int (zi_n 11)]) (n := 2) (Nat.le_of_ble_eq_true rfl)
  rw [lg_entry_eq]
  generalize (lg_sl ([.ref hh, .int (zi_n 11)]) ++ List.replicate (2 - (lg_sl ([.ref hh, .int (zi_n 11)])).length) Slot.unset).toArray = ls at hl ⊢
  have hl : lv_has ls 2 [(0, .ref hh), (1, .int (zi_n 11))] := hl
  refine lv_iload_n hx hb dX0_placeOf_0 rfl (lv_at hl 1 rfl) ?_
  refine zr_tabIn (tgt := 96) hx hb dX0_placeOf_1 (by decide) (by decide) (by decide) rfl (by decide) ?_
  refine zr_bipush hx hb dX0_placeOf_96 (by decide) ?_
  exact W.iret (v := zi_n 6) hx hb hr (fun t ht hW => ⟨_, rfl, ⟨rfl, by omega⟩, ht⟩) (fun q hq => nomatch hq) dX0_placeOf_98

set_option maxHeartbeats 4000000 in
set_option maxRecDepth 100000 in
theorem c_Hd_placeOf12 (l : Launch) (D : va_G) (hh q a : Nat) (cA : ClassId) (F : Nat → Int) (n : Int) (hF : zi_By F) (hn : 0 ≤ n ∧ n ≤ 600) : Met l yX0_placeOf wsX0_placeOf ({ frames := 0, cells := 0, slots := 0, locals := 0 }) (va_Pc [.ref hh, .int (zi_n 12)] (zp_Q D vwCl [(hh, .inr (2, [.ref q])), (q, .inr (3, [.ref a, .int (zi_n n)])), (a, .inl (cA, 600, .inl (zi_F F)))] [(cA, .int)])) (vp_Si (fun r => r = zi_n 52 ∧ 0 ≤ 52 ∧ 52 ≤ 65541)) 0 0 (fun _ => False) := by
  refine Met.ofW (cc := cX0_placeOf) (maxL := 2) (ret := (some .int)) (by decide) rfl ?_
  intro p e s m args below meth c s₁ B hml hv
  obtain ⟨rfl, hP, hK⟩ := hv
  have hx := B.exec
  have hb := B.bytes
  have hr := B.returns
  have hts := atoms_spec (ws := wsX0_placeOf) B.pre
  have hown : s.vm.findClass RX0 = some m.cls := findClass_of_methodNamed B.named
  have hlocks := B.notSynchronized
  have hl := lv_entry ([.ref hh, .int (zi_n 12)]) (n := 2) (Nat.le_of_ble_eq_true rfl)
  rw [lg_entry_eq]
  generalize (lg_sl ([.ref hh, .int (zi_n 12)]) ++ List.replicate (2 - (lg_sl ([.ref hh, .int (zi_n 12)])).length) Slot.unset).toArray = ls at hl ⊢
  have hl : lv_has ls 2 [(0, .ref hh), (1, .int (zi_n 12))] := hl
  refine lv_iload_n hx hb dX0_placeOf_0 rfl (lv_at hl 1 rfl) ?_
  refine zr_tabIn (tgt := 99) hx hb dX0_placeOf_1 (by decide) (by decide) (by decide) rfl (by decide) ?_
  refine zr_bipush hx hb dX0_placeOf_99 (by decide) ?_
  exact W.iret (v := zi_n 52) hx hb hr (fun t ht hW => ⟨_, rfl, ⟨rfl, by omega⟩, ht⟩) (fun q hq => nomatch hq) dX0_placeOf_101

set_option maxHeartbeats 4000000 in
set_option maxRecDepth 100000 in
theorem c_Hd_placeOf13 (l : Launch) (D : va_G) (hh q a : Nat) (cA : ClassId) (F : Nat → Int) (n : Int) (hF : zi_By F) (hn : 0 ≤ n ∧ n ≤ 600) : Met l yX0_placeOf wsX0_placeOf ({ frames := 0, cells := 0, slots := 0, locals := 0 }) (va_Pc [.ref hh, .int (zi_n 13)] (zp_Q D vwCl [(hh, .inr (2, [.ref q])), (q, .inr (3, [.ref a, .int (zi_n n)])), (a, .inl (cA, 600, .inl (zi_F F)))] [(cA, .int)])) (vp_Si (fun r => r = zi_n 46 ∧ 0 ≤ 46 ∧ 46 ≤ 65541)) 0 0 (fun _ => False) := by
  refine Met.ofW (cc := cX0_placeOf) (maxL := 2) (ret := (some .int)) (by decide) rfl ?_
  intro p e s m args below meth c s₁ B hml hv
  obtain ⟨rfl, hP, hK⟩ := hv
  have hx := B.exec
  have hb := B.bytes
  have hr := B.returns
  have hts := atoms_spec (ws := wsX0_placeOf) B.pre
  have hown : s.vm.findClass RX0 = some m.cls := findClass_of_methodNamed B.named
  have hlocks := B.notSynchronized
  have hl := lv_entry ([.ref hh, .int (zi_n 13)]) (n := 2) (Nat.le_of_ble_eq_true rfl)
  rw [lg_entry_eq]
  generalize (lg_sl ([.ref hh, .int (zi_n 13)]) ++ List.replicate (2 - (lg_sl ([.ref hh, .int (zi_n 13)])).length) Slot.unset).toArray = ls at hl ⊢
  have hl : lv_has ls 2 [(0, .ref hh), (1, .int (zi_n 13))] := hl
  refine lv_iload_n hx hb dX0_placeOf_0 rfl (lv_at hl 1 rfl) ?_
  refine zr_tabIn (tgt := 102) hx hb dX0_placeOf_1 (by decide) (by decide) (by decide) rfl (by decide) ?_
  refine zr_bipush hx hb dX0_placeOf_102 (by decide) ?_
  exact W.iret (v := zi_n 46) hx hb hr (fun t ht hW => ⟨_, rfl, ⟨rfl, by omega⟩, ht⟩) (fun q hq => nomatch hq) dX0_placeOf_104

set_option maxHeartbeats 4000000 in
set_option maxRecDepth 100000 in
theorem c_Hd_placeOf14 (l : Launch) (D : va_G) (hh q a : Nat) (cA : ClassId) (F : Nat → Int) (n : Int) (hF : zi_By F) (hn : 0 ≤ n ∧ n ≤ 600) : Met l yX0_placeOf wsX0_placeOf ({ frames := 0, cells := 0, slots := 0, locals := 0 }) (va_Pc [.ref hh, .int (zi_n 14)] (zp_Q D vwCl [(hh, .inr (2, [.ref q])), (q, .inr (3, [.ref a, .int (zi_n n)])), (a, .inl (cA, 600, .inl (zi_F F)))] [(cA, .int)])) (vp_Si (fun r => r = zi_n 54 ∧ 0 ≤ 54 ∧ 54 ≤ 65541)) 0 0 (fun _ => False) := by
  refine Met.ofW (cc := cX0_placeOf) (maxL := 2) (ret := (some .int)) (by decide) rfl ?_
  intro p e s m args below meth c s₁ B hml hv
  obtain ⟨rfl, hP, hK⟩ := hv
  have hx := B.exec
  have hb := B.bytes
  have hr := B.returns
  have hts := atoms_spec (ws := wsX0_placeOf) B.pre
  have hown : s.vm.findClass RX0 = some m.cls := findClass_of_methodNamed B.named
  have hlocks := B.notSynchronized
  have hl := lv_entry ([.ref hh, .int (zi_n 14)]) (n := 2) (Nat.le_of_ble_eq_true rfl)
  rw [lg_entry_eq]
  generalize (lg_sl ([.ref hh, .int (zi_n 14)]) ++ List.replicate (2 - (lg_sl ([.ref hh, .int (zi_n 14)])).length) Slot.unset).toArray = ls at hl ⊢
  have hl : lv_has ls 2 [(0, .ref hh), (1, .int (zi_n 14))] := hl
  refine lv_iload_n hx hb dX0_placeOf_0 rfl (lv_at hl 1 rfl) ?_
  refine zr_tabIn (tgt := 105) hx hb dX0_placeOf_1 (by decide) (by decide) (by decide) rfl (by decide) ?_
  refine zr_bipush hx hb dX0_placeOf_105 (by decide) ?_
  exact W.iret (v := zi_n 54) hx hb hr (fun t ht hW => ⟨_, rfl, ⟨rfl, by omega⟩, ht⟩) (fun q hq => nomatch hq) dX0_placeOf_107

set_option maxHeartbeats 4000000 in
set_option maxRecDepth 100000 in
theorem c_Hd_placeOf15 (l : Launch) (D : va_G) (hh q a : Nat) (cA : ClassId) (F : Nat → Int) (n : Int) (hF : zi_By F) (hn : 0 ≤ n ∧ n ≤ 600) (h64 : 64 ≤ n) : Met l yX0_placeOf wsX0_placeOf ({ frames := 3, cells := 0, slots := 0, locals := 61 }) (va_Pc [.ref hh, .int (zi_n 15)] (zp_Q D vwCl [(hh, .inr (2, [.ref q])), (q, .inr (3, [.ref a, .int (zi_n n)])), (a, .inl (cA, 600, .inl (zi_F F)))] [(cA, .int)])) (vp_Si (fun r => r = zi_n (zh_more F + 6) ∧ 0 ≤ (zh_more F + 6) ∧ (zh_more F + 6) ≤ 65541)) 0 0 (fun _ => False) := by
  refine Met.ofW (cc := cX0_placeOf) (maxL := 2) (ret := (some .int)) (by decide) rfl ?_
  intro p e s m args below meth c s₁ B hml hv
  obtain ⟨rfl, hP, hK⟩ := hv
  have hx := B.exec
  have hb := B.bytes
  have hr := B.returns
  have hts := atoms_spec (ws := wsX0_placeOf) B.pre
  have hown : s.vm.findClass RX0 = some m.cls := findClass_of_methodNamed B.named
  have hlocks := B.notSynchronized
  have hl := lv_entry ([.ref hh, .int (zi_n 15)]) (n := 2) (Nat.le_of_ble_eq_true rfl)
  rw [lg_entry_eq]
  generalize (lg_sl ([.ref hh, .int (zi_n 15)]) ++ List.replicate (2 - (lg_sl ([.ref hh, .int (zi_n 15)])).length) Slot.unset).toArray = ls at hl ⊢
  have hl : lv_has ls 2 [(0, .ref hh), (1, .int (zi_n 15))] := hl
  refine lv_iload_n hx hb dX0_placeOf_0 rfl (lv_at hl 1 rfl) ?_
  refine zr_tabIn (tgt := 108) hx hb dX0_placeOf_1 (by decide) (by decide) (by decide) rfl (by decide) ?_
  refine lv_aload_n hx hb dX0_placeOf_108 rfl (lv_at hl 0 rfl) ?_
  refine zc_V (As := []) (rest := []) ⟨hx, hb, hml, hown, hts⟩ (c_Hd_more l D hh q a cA F n hF (by omega) (by omega)) (cwV 0 hts gX0_placeOf_X0_more rfl rfl rfl (by decide +kernel) ⟨(Nat.le_of_ble_eq_true rfl), (Nat.le_of_ble_eq_true rfl)⟩) hP hK [0, 1, 2] [0] rfl rfl (ci := 2) rfl rfl rfl rfl hl.1 rfl (Nat.le_of_ble_eq_true rfl) dX0_placeOf_109 ⟨Nat.zero_le _, Nat.zero_le _⟩ (fun r hr1 => ?_)
  obtain ⟨rfl, b_1⟩ := hr1
  refine zr_bipush hx hb dX0_placeOf_112 (by decide) ?_
  refine zr_iadd hx hb dX0_placeOf_114 ?_
  exact W.iret (v := zi_n ((zh_more F) + 6)) hx hb hr (fun t ht hW => ⟨_, rfl, zl_r (by omega) (by omega), ht⟩) (fun q hq => nomatch hq) dX0_placeOf_115
end
section
theorem in_X0_term_X0 : ∀ w ∈ u_ws RX0 TX0 1, w ∈ wsX0_term := by decide +kernel
set_option maxHeartbeats 4000000 in
set_option maxRecDepth 100000 in
theorem c_Hd_term (l : Launch) (D : va_G) (hh q a : Nat) (cA : ClassId) (F : Nat → Int) (n : Int) (hF : zi_By F) (hn : 0 ≤ n ∧ n ≤ 600) (p0 : Int) (h64 : 64 ≤ n) (hp : 0 ≤ p0 ∧ p0 ≤ 17) : Met l yX0_term wsX0_term ({ frames := 4, cells := 0, slots := 0, locals := 83 }) (va_Pc [.ref hh, .int (zi_n p0)] (zp_Q D vwCl [(hh, .inr (2, [.ref q])), (q, .inr (3, [.ref a, .int (zi_n n)])), (a, .inl (cA, 600, .inl (zi_F F)))] [(cA, .int)])) (vp_Si (fun r => r = zi_n (zh_term F n p0) ∧ -32768 ≤ (zh_term F n p0) ∧ (zh_term F n p0) ≤ 786420)) 0 0 (fun _ => False) := by
  refine Met.ofW (cc := cX0_term) (maxL := 2) (ret := (some .int)) (by decide) rfl ?_
  intro p e s m args below meth c s₁ B hml hv
  obtain ⟨rfl, hP, hK⟩ := hv
  have hx := B.exec
  have hb := B.bytes
  have hr := B.returns
  have hts := atoms_spec (ws := wsX0_term) B.pre
  have hown : s.vm.findClass RX0 = some m.cls := findClass_of_methodNamed B.named
  have hlocks := B.notSynchronized
  have hl := lv_entry ([.ref hh, .int (zi_n p0)]) (n := 2) (Nat.le_of_ble_eq_true rfl)
  rw [lg_entry_eq]
  generalize (lg_sl ([.ref hh, .int (zi_n p0)]) ++ List.replicate (2 - (lg_sl ([.ref hh, .int (zi_n p0)])).length) Slot.unset).toArray = ls at hl ⊢
  have hl : lv_has ls 2 [(0, .ref hh), (1, .int (zi_n p0))] := hl
  refine lv_iload_n hx hb dX0_term_0 rfl (lv_at hl 1 rfl) ?_
  rcases (show p0 = 0 ∨ p0 = 1 ∨ p0 = 2 ∨ p0 = 3 ∨ p0 = 4 ∨ p0 = 5 ∨ p0 = 6 ∨ p0 = 7 ∨ p0 = 8 ∨ p0 = 9 ∨ p0 = 10 ∨ p0 = 11 ∨ p0 = 12 ∨ p0 = 13 ∨ p0 = 14 ∨ p0 = 15 ∨ p0 = 16 ∨ p0 = 17 by omega) with rfl | rfl | rfl | rfl | rfl | rfl | rfl | rfl | rfl | rfl | rfl | rfl | rfl | rfl | rfl | rfl | rfl | rfl
  · skip
    refine zr_tabIn (tgt := 84) hx hb dX0_term_1 (by decide) (by decide) (by decide) rfl (by decide) ?_
    refine lv_aload_n hx hb dX0_term_84 rfl (lv_at hl 0 rfl) ?_
    refine zc_V (As := []) (rest := []) ⟨hx, hb, hml, hown, hts⟩ (c_Hd_version l D hh q a cA F n hF (by omega) (by omega)) (cwV 0 hts gX0_term_X0_version rfl rfl rfl (by decide +kernel) ⟨(Nat.le_of_ble_eq_true rfl), (Nat.le_of_ble_eq_true rfl)⟩) hP hK [0, 1, 2] [0] rfl rfl (ci := 2) rfl rfl rfl rfl hl.1 rfl (Nat.le_of_ble_eq_true rfl) dX0_term_85 ⟨Nat.zero_le _, Nat.zero_le _⟩ (fun r hr1 => ?_)
    obtain ⟨rfl, b_2⟩ := hr1
    exact W.iret (v := zi_n (F 0)) hx hb hr (fun t ht hW => ⟨_, rfl, zl_r (by simp [zh_term]) (by omega), ht⟩) (fun q hq => nomatch hq) dX0_term_88
  · skip
    refine zr_tabIn (tgt := 89) hx hb dX0_term_1 (by decide) (by decide) (by decide) rfl (by decide) ?_
    refine lv_aload_n hx hb dX0_term_89 rfl (lv_at hl 0 rfl) ?_
    refine zc_V (As := []) (rest := []) ⟨hx, hb, hml, hown, hts⟩ (c_Hd_length l D hh q a cA F n hF (by omega) (by omega)) (cwV 0 hts gX0_term_X0_length rfl rfl rfl (by decide +kernel) ⟨(Nat.le_of_ble_eq_true rfl), (Nat.le_of_ble_eq_true rfl)⟩) hP hK [0, 1, 2] [0] rfl rfl (ci := 2) rfl rfl rfl rfl hl.1 rfl (Nat.le_of_ble_eq_true rfl) dX0_term_90 ⟨Nat.zero_le _, Nat.zero_le _⟩ (fun r hr1 => ?_)
    obtain ⟨rfl, b_3⟩ := hr1
    exact W.iret (v := zi_n (zh_len F n)) hx hb hr (fun t ht hW => ⟨_, rfl, zl_r (by simp [zh_term]) (by omega), ht⟩) (fun q hq => nomatch hq) dX0_term_93
  · skip
    refine zr_tabIn (tgt := 94) hx hb dX0_term_1 (by decide) (by decide) (by decide) rfl (by decide) ?_
    refine lv_aload_n hx hb dX0_term_94 rfl (lv_at hl 0 rfl) ?_
    refine zc_V (As := []) (rest := []) ⟨hx, hb, hml, hown, hts⟩ (c_Hd_staticFrom l D hh q a cA F n hF (by omega) (by omega)) (cwV 0 hts gX0_term_X0_staticFrom rfl rfl rfl (by decide +kernel) ⟨(Nat.le_of_ble_eq_true rfl), (Nat.le_of_ble_eq_true rfl)⟩) hP hK [0, 1, 2] [0] rfl rfl (ci := 2) rfl rfl rfl rfl hl.1 rfl (Nat.le_of_ble_eq_true rfl) dX0_term_95 ⟨Nat.zero_le _, Nat.zero_le _⟩ (fun r hr1 => ?_)
    obtain ⟨rfl, b_4⟩ := hr1
    exact W.iret (v := zi_n (zh_t F 14)) hx hb hr (fun t ht hW => ⟨_, rfl, zl_r (by simp [zh_term]) (by omega), ht⟩) (fun q hq => nomatch hq) dX0_term_98
  · skip
    refine zr_tabIn (tgt := 99) hx hb dX0_term_1 (by decide) (by decide) (by decide) rfl (by decide) ?_
    refine lv_aload_n hx hb dX0_term_99 rfl (lv_at hl 0 rfl) ?_
    refine zc_V (As := []) (rest := []) ⟨hx, hb, hml, hown, hts⟩ (c_Hd_high l D hh q a cA F n hF (by omega) (by omega)) (cwV 0 hts gX0_term_X0_high rfl rfl rfl (by decide +kernel) ⟨(Nat.le_of_ble_eq_true rfl), (Nat.le_of_ble_eq_true rfl)⟩) hP hK [0, 1, 2] [0] rfl rfl (ci := 2) rfl rfl rfl rfl hl.1 rfl (Nat.le_of_ble_eq_true rfl) dX0_term_100 ⟨Nat.zero_le _, Nat.zero_le _⟩ (fun r hr1 => ?_)
    obtain ⟨rfl, b_5⟩ := hr1
    exact W.iret (v := zi_n (zh_t F 4)) hx hb hr (fun t ht hW => ⟨_, rfl, zl_r (by simp [zh_term]) (by omega), ht⟩) (fun q hq => nomatch hq) dX0_term_103
  · skip
    refine zr_tabIn (tgt := 104) hx hb dX0_term_1 (by decide) (by decide) (by decide) rfl (by decide) ?_
    refine lv_aload_n hx hb dX0_term_104 rfl (lv_at hl 0 rfl) ?_
    refine zc_V (As := []) (rest := []) ⟨hx, hb, hml, hown, hts⟩ (c_Hd_globals l D hh q a cA F n hF (by omega) (by omega)) (cwV 0 hts gX0_term_X0_globals rfl rfl rfl (by decide +kernel) ⟨(Nat.le_of_ble_eq_true rfl), (Nat.le_of_ble_eq_true rfl)⟩) hP hK [0, 1, 2] [0] rfl rfl (ci := 2) rfl rfl rfl rfl hl.1 rfl (Nat.le_of_ble_eq_true rfl) dX0_term_105 ⟨Nat.zero_le _, Nat.zero_le _⟩ (fun r hr1 => ?_)
    obtain ⟨rfl, b_6⟩ := hr1
    exact W.iret (v := zi_n (zh_t F 12)) hx hb hr (fun t ht hW => ⟨_, rfl, zl_r (by simp [zh_term]) (by omega), ht⟩) (fun q hq => nomatch hq) dX0_term_108
  · skip
    refine zr_tabIn (tgt := 109) hx hb dX0_term_1 (by decide) (by decide) (by decide) rfl (by decide) ?_
    refine lv_aload_n hx hb dX0_term_109 rfl (lv_at hl 0 rfl) ?_
    refine zc_V (As := []) (rest := []) ⟨hx, hb, hml, hown, hts⟩ (c_Hd_objects l D hh q a cA F n hF (by omega) (by omega)) (cwV 0 hts gX0_term_X0_objects rfl rfl rfl (by decide +kernel) ⟨(Nat.le_of_ble_eq_true rfl), (Nat.le_of_ble_eq_true rfl)⟩) hP hK [0, 1, 2] [0] rfl rfl (ci := 2) rfl rfl rfl rfl hl.1 rfl (Nat.le_of_ble_eq_true rfl) dX0_term_110 ⟨Nat.zero_le _, Nat.zero_le _⟩ (fun r hr1 => ?_)
    obtain ⟨rfl, b_7⟩ := hr1
    exact W.iret (v := zi_n (zh_t F 10)) hx hb hr (fun t ht hW => ⟨_, rfl, zl_r (by simp [zh_term]) (by omega), ht⟩) (fun q hq => nomatch hq) dX0_term_113
  · skip
    refine zr_tabIn (tgt := 114) hx hb dX0_term_1 (by decide) (by decide) (by decide) rfl (by decide) ?_
    refine lv_aload_n hx hb dX0_term_114 rfl (lv_at hl 0 rfl) ?_
    refine zc_V (As := []) (rest := []) ⟨hx, hb, hml, hown, hts⟩ (c_Hd_words l D hh q a cA F n hF (by omega) (by omega)) (cwV 0 hts gX0_term_X0_words rfl rfl rfl (by decide +kernel) ⟨(Nat.le_of_ble_eq_true rfl), (Nat.le_of_ble_eq_true rfl)⟩) hP hK [0, 1, 2] [0] rfl rfl (ci := 2) rfl rfl rfl rfl hl.1 rfl (Nat.le_of_ble_eq_true rfl) dX0_term_115 ⟨Nat.zero_le _, Nat.zero_le _⟩ (fun r hr1 => ?_)
    obtain ⟨rfl, b_8⟩ := hr1
    exact W.iret (v := zi_n (zh_t F 8)) hx hb hr (fun t ht hW => ⟨_, rfl, zl_r (by simp [zh_term]) (by omega), ht⟩) (fun q hq => nomatch hq) dX0_term_118
  · skip
    refine zr_tabIn (tgt := 119) hx hb dX0_term_1 (by decide) (by decide) (by decide) rfl (by decide) ?_
    refine lv_aload_n hx hb dX0_term_119 rfl (lv_at hl 0 rfl) ?_
    refine zc_V (As := []) (rest := []) ⟨hx, hb, hml, hown, hts⟩ (c_Hd_shorts l D hh q a cA F n hF (by omega) (by omega)) (cwV 0 hts gX0_term_X0_shorts rfl rfl rfl (by decide +kernel) ⟨(Nat.le_of_ble_eq_true rfl), (Nat.le_of_ble_eq_true rfl)⟩) hP hK [0, 1, 2] [0] rfl rfl (ci := 2) rfl rfl rfl rfl hl.1 rfl (Nat.le_of_ble_eq_true rfl) dX0_term_120 ⟨Nat.zero_le _, Nat.zero_le _⟩ (fun r hr1 => ?_)
    obtain ⟨rfl, b_9⟩ := hr1
    exact W.iret (v := zi_n (zh_shorts F)) hx hb hr (fun t ht hW => ⟨_, rfl, zl_r (by simp [zh_term]) (by omega), ht⟩) (fun q hq => nomatch hq) dX0_term_123
  · skip
    refine zr_tabIn (tgt := 124) hx hb dX0_term_1 (by decide) (by decide) (by decide) rfl (by decide) ?_
    refine lv_aload_n hx hb dX0_term_124 rfl (lv_at hl 0 rfl) ?_
    refine zc_V (As := []) (rest := []) ⟨hx, hb, hml, hown, hts⟩ (c_Hd_start l D hh q a cA F n hF (by omega) (by omega)) (cwV 0 hts gX0_term_X0_start rfl rfl rfl (by decide +kernel) ⟨(Nat.le_of_ble_eq_true rfl), (Nat.le_of_ble_eq_true rfl)⟩) hP hK [0, 1, 2] [0] rfl rfl (ci := 2) rfl rfl rfl rfl hl.1 rfl (Nat.le_of_ble_eq_true rfl) dX0_term_125 ⟨Nat.zero_le _, Nat.zero_le _⟩ (fun r hr1 => ?_)
    obtain ⟨rfl, b_10⟩ := hr1
    exact W.iret (v := zi_n (zh_start F)) hx hb hr (fun t ht hW => ⟨_, rfl, zl_r (by simp [zh_term]) (by omega), ht⟩) (fun q hq => nomatch hq) dX0_term_128
  · skip
    refine zr_tabIn (tgt := 129) hx hb dX0_term_1 (by decide) (by decide) (by decide) rfl (by decide) ?_
    refine lv_aload_n hx hb dX0_term_129 rfl (lv_at hl 0 rfl) ?_
    refine zc_V (As := []) (rest := []) ⟨hx, hb, hml, hown, hts⟩ (c_Hd_letters l D hh q a cA F n hF (by omega) (by omega)) (cwV 0 hts gX0_term_X0_letters rfl rfl rfl (by decide +kernel) ⟨(Nat.le_of_ble_eq_true rfl), (Nat.le_of_ble_eq_true rfl)⟩) hP hK [0, 1, 2] [0] rfl rfl (ci := 2) rfl rfl rfl rfl hl.1 rfl (Nat.le_of_ble_eq_true rfl) dX0_term_130 ⟨Nat.zero_le _, Nat.zero_le _⟩ (fun r hr1 => ?_)
    obtain ⟨rfl, b_11⟩ := hr1
    exact W.iret (v := zi_n (zh_letters F)) hx hb hr (fun t ht hW => ⟨_, rfl, zl_r (by simp [zh_term]) (by omega), ht⟩) (fun q hq => nomatch hq) dX0_term_133
  · skip
    refine zr_tabIn (tgt := 134) hx hb dX0_term_1 (by decide) (by decide) (by decide) rfl (by decide) ?_
    refine lv_aload_n hx hb dX0_term_134 rfl (lv_at hl 0 rfl) ?_
    refine zc_V (As := []) (rest := []) ⟨hx, hb, hml, hown, hts⟩ (c_Hd_ends l D hh q a cA F n hF (by omega) (by omega)) (cwV 0 hts gX0_term_X0_ends rfl rfl rfl (by decide +kernel) ⟨(Nat.le_of_ble_eq_true rfl), (Nat.le_of_ble_eq_true rfl)⟩) hP hK [0, 1, 2] [0] rfl rfl (ci := 2) rfl rfl rfl rfl hl.1 rfl (Nat.le_of_ble_eq_true rfl) dX0_term_135 ⟨Nat.zero_le _, Nat.zero_le _⟩ (fun r hr1 => ?_)
    obtain ⟨rfl, b_12⟩ := hr1
    exact W.iret (v := zi_n (zh_ends F)) hx hb hr (fun t ht hW => ⟨_, rfl, zl_r (by simp [zh_term]) (by omega), ht⟩) (fun q hq => nomatch hq) dX0_term_138
  · skip
    refine zr_tabIn (tgt := 139) hx hb dX0_term_1 (by decide) (by decide) (by decide) rfl (by decide) ?_
    refine lv_aload_n hx hb dX0_term_139 rfl (lv_at hl 0 rfl) ?_
    refine zc_V (As := []) (rest := []) ⟨hx, hb, hml, hown, hts⟩ (c_Hd_moreWords l D hh q a cA F n hF (by omega) (by omega)) (cwV 0 hts gX0_term_X0_moreWords rfl rfl rfl (by decide +kernel) ⟨(Nat.le_of_ble_eq_true rfl), (Nat.le_of_ble_eq_true rfl)⟩) hP hK [0, 1, 2] [0] rfl rfl (ci := 2) rfl rfl rfl rfl hl.1 rfl (Nat.le_of_ble_eq_true rfl) dX0_term_140 ⟨Nat.zero_le _, Nat.zero_le _⟩ (fun r hr1 => ?_)
    obtain ⟨rfl, b_13⟩ := hr1
    exact W.iret (v := zi_n (zh_mw F n)) hx hb hr (fun t ht hW => ⟨_, rfl, zl_r (by simp [zh_term]) (by omega), ht⟩) (fun q hq => nomatch hq) dX0_term_143
  · skip
    refine zr_tabIn (tgt := 144) hx hb dX0_term_1 (by decide) (by decide) (by decide) rfl (by decide) ?_
    refine lv_aload_n hx hb dX0_term_144 rfl (lv_at hl 0 rfl) ?_
    refine zc_V (As := []) (rest := []) ⟨hx, hb, hml, hown, hts⟩ (c_Hd_thirdWord l D hh q a cA F n hF (by omega) (by omega)) (cwV 0 hts gX0_term_X0_thirdWord rfl rfl rfl (by decide +kernel) ⟨(Nat.le_of_ble_eq_true rfl), (Nat.le_of_ble_eq_true rfl)⟩) hP hK [0, 1, 2] [0] rfl rfl (ci := 2) rfl rfl rfl rfl hl.1 rfl (Nat.le_of_ble_eq_true rfl) dX0_term_145 ⟨Nat.zero_le _, Nat.zero_le _⟩ (fun r hr1 => ?_)
    obtain ⟨rfl, b_14⟩ := hr1
    exact W.iret (v := zi_n (zh_third F n)) hx hb hr (fun t ht hW => ⟨_, rfl, zl_r (by simp [zh_term]) (by omega), ht⟩) (fun q hq => nomatch hq) dX0_term_148
  · skip
    refine zr_tabIn (tgt := 149) hx hb dX0_term_1 (by decide) (by decide) (by decide) rfl (by decide) ?_
    refine lv_aload_n hx hb dX0_term_149 rfl (lv_at hl 0 rfl) ?_
    refine va_get (D := D) (ci := 2) (v := .ref q) (C := RX0) (T := TX0) (N := 1) hx hb hts in_X0_term_X0 hown hK hP 0 rfl rfl 0 (by decide) (hts (.fieldLink RX0 9 "ZHeads$Head" "row" "LZHeads$Row;") (by decide +kernel)) (fun _ h9 => h9) rfl dX0_term_150 ?_
    refine zr_iconst hx hb dX0_term_153 ?_
    refine zc_V (As := [.int (zi_n 2)]) (rest := []) ⟨hx, hb, hml, hown, hts⟩ (c_Row_two_k l D q a cA F n hF (by omega) 2 2 rfl (by omega)) (cwV 1 hts gX0_term_X2_two rfl rfl rfl (by decide +kernel) ⟨(Nat.le_of_ble_eq_true rfl), (Nat.le_of_ble_eq_true rfl)⟩) hP hK [1, 2] [0] rfl rfl (ci := 3) rfl rfl rfl rfl hl.1 rfl (Nat.le_of_ble_eq_true rfl) dX0_term_154 ⟨Nat.zero_le _, Nat.zero_le _⟩ (fun r hr1 => ?_)
    obtain ⟨rfl, b_15⟩ := hr1
    exact W.iret (v := zi_n (zh_t F 2)) hx hb hr (fun t ht hW => ⟨_, rfl, zl_r (by simp [zh_term]) (by omega), ht⟩) (fun q hq => nomatch hq) dX0_term_157
  · skip
    refine zr_tabIn (tgt := 158) hx hb dX0_term_1 (by decide) (by decide) (by decide) rfl (by decide) ?_
    refine lv_aload_n hx hb dX0_term_158 rfl (lv_at hl 0 rfl) ?_
    refine va_get (D := D) (ci := 2) (v := .ref q) (C := RX0) (T := TX0) (N := 1) hx hb hts in_X0_term_X0 hown hK hP 0 rfl rfl 0 (by decide) (hts (.fieldLink RX0 9 "ZHeads$Head" "row" "LZHeads$Row;") (by decide +kernel)) (fun _ h9 => h9) rfl dX0_term_159 ?_
    refine zr_bipush hx hb dX0_term_162 (by decide) ?_
    refine zc_V (As := [.int (zi_n 28)]) (rest := []) ⟨hx, hb, hml, hown, hts⟩ (c_Row_two_k l D q a cA F n hF (by omega) 28 28 rfl (by omega)) (cwV 1 hts gX0_term_X2_two rfl rfl rfl (by decide +kernel) ⟨(Nat.le_of_ble_eq_true rfl), (Nat.le_of_ble_eq_true rfl)⟩) hP hK [1, 2] [0] rfl rfl (ci := 3) rfl rfl rfl rfl hl.1 rfl (Nat.le_of_ble_eq_true rfl) dX0_term_164 ⟨Nat.zero_le _, Nat.zero_le _⟩ (fun r hr1 => ?_)
    obtain ⟨rfl, b_16⟩ := hr1
    exact W.iret (v := zi_n (zh_t F 28)) hx hb hr (fun t ht hW => ⟨_, rfl, zl_r (by simp [zh_term]) (by omega), ht⟩) (fun q hq => nomatch hq) dX0_term_167
  · skip
    refine zr_tabIn (tgt := 168) hx hb dX0_term_1 (by decide) (by decide) (by decide) rfl (by decide) ?_
    refine lv_aload_n hx hb dX0_term_168 rfl (lv_at hl 0 rfl) ?_
    refine zc_V (As := []) (rest := []) ⟨hx, hb, hml, hown, hts⟩ (c_Hd_entries l D hh q a cA F n hF (by omega) (by omega)) (cwV 0 hts gX0_term_X0_entries rfl rfl rfl (by decide +kernel) ⟨(Nat.le_of_ble_eq_true rfl), (Nat.le_of_ble_eq_true rfl)⟩) hP hK [0, 1, 2] [0] rfl rfl (ci := 2) rfl rfl rfl rfl hl.1 rfl (Nat.le_of_ble_eq_true rfl) dX0_term_169 ⟨Nat.zero_le _, Nat.zero_le _⟩ (fun r hr1 => ?_)
    obtain ⟨rfl, b_17⟩ := hr1
    exact W.iret (v := zi_n (zh_en F n)) hx hb hr (fun t ht hW => ⟨_, rfl, zl_r (by simp [zh_term]) (by omega), ht⟩) (fun q hq => nomatch hq) dX0_term_172
  · skip
    refine zr_tabIn (tgt := 173) hx hb dX0_term_1 (by decide) (by decide) (by decide) rfl (by decide) ?_
    refine lv_aload_n hx hb dX0_term_173 rfl (lv_at hl 0 rfl) ?_
    refine zc_V (As := []) (rest := []) ⟨hx, hb, hml, hown, hts⟩ (c_Hd_entryBytes l D hh q a cA F n hF (by omega) (by omega)) (cwV 0 hts gX0_term_X0_entryBytes rfl rfl rfl (by decide +kernel) ⟨(Nat.le_of_ble_eq_true rfl), (Nat.le_of_ble_eq_true rfl)⟩) hP hK [0, 1, 2] [0] rfl rfl (ci := 2) rfl rfl rfl rfl hl.1 rfl (Nat.le_of_ble_eq_true rfl) dX0_term_174 ⟨Nat.zero_le _, Nat.zero_le _⟩ (fun r hr1 => ?_)
    obtain ⟨rfl, b_18⟩ := hr1
    exact W.iret (v := zi_n (zh_eb F n)) hx hb hr (fun t ht hW => ⟨_, rfl, zl_r (by simp [zh_term]) (by omega), ht⟩) (fun q hq => nomatch hq) dX0_term_177
  · skip
    refine zr_tabOut (tgt := 178) hx hb dX0_term_1 (by decide) (by decide) (by decide) ?_
    refine lv_aload_n hx hb dX0_term_178 rfl (lv_at hl 0 rfl) ?_
    refine zc_V (As := []) (rest := []) ⟨hx, hb, hml, hown, hts⟩ (c_Hd_signs l D hh q a cA F n hF (by omega) (by omega)) (cwV 0 hts gX0_term_X0_signs rfl rfl rfl (by decide +kernel) ⟨(Nat.le_of_ble_eq_true rfl), (Nat.le_of_ble_eq_true rfl)⟩) hP hK [0, 1, 2] [0] rfl rfl (ci := 2) rfl rfl rfl rfl hl.1 rfl (Nat.le_of_ble_eq_true rfl) dX0_term_179 ⟨Nat.zero_le _, Nat.zero_le _⟩ (fun r hr1 => ?_)
    obtain ⟨rfl, b_19⟩ := hr1
    exact W.iret (v := zi_n (zh_sg F n)) hx hb hr (fun t ht hW => ⟨_, rfl, zl_r (by simp [zh_term]) (by omega), ht⟩) (fun q hq => nomatch hq) dX0_term_182
end
section
theorem in_X2_put_X2 : ∀ w ∈ u_ws RX2 TX2 2, w ∈ wsX2_put := by decide +kernel
set_option maxHeartbeats 4000000 in
set_option maxRecDepth 100000 in
theorem c_Row_put (l : Launch) (D : va_G) (q a : Nat) (cA : ClassId) (F : Nat → Int) (n : Int) (hF : zi_By F) (hn : 0 ≤ n ∧ n ≤ 600) (sz : Nat) (p0 : Int) (p1 : Int) (hp : zi_R p0) (hq : zi_R p1) : Met l yX2_put wsX2_put ({ frames := 1, cells := 0, slots := 0, locals := 21 }) (va_Pc [.ref q, .int (zi_n p0), .int (zi_n p1)] (zp_P D vwCl sz [(q, .inr (3, [.ref a, .int (zi_n n)])), (a, .inl (cA, 600, .inl (zi_F F)))] [(cA, .int)])) (va_Qv (fun (_ : Unit) => True) (fun (_ : Unit) => zp_B D vwCl [(cA, .int)] (va_A [(q, .inr (3, [.ref a, .int (zi_n n)])), (a, .inl (cA, 600, .inl (zi_F F)))] sz) [(q, .inr (3, [.ref a, .int (zi_n n)])), (a, .inl (cA, 600, .inl (zi_F (zh_put F n p0 p1))))]) (va_A [(q, .inr (3, [.ref a, .int (zi_n n)])), (a, .inl (cA, 600, .inl (zi_F F)))] sz)) 0 0 (va_A [(q, .inr (3, [.ref a, .int (zi_n n)])), (a, .inl (cA, 600, .inl (zi_F F)))] sz) := by
  refine Met.ofW (cc := cX2_put) (maxL := 3) (ret := none) (by decide) rfl ?_
  intro p e s m args below meth c s₁ B hml hv
  obtain ⟨rfl, hsz, hP, hK, hD0⟩ := hv
  have hx := B.exec
  have hb := B.bytes
  have hr := B.returns
  have hts := atoms_spec (ws := wsX2_put) B.pre
  have hown : s.vm.findClass RX2 = some m.cls := findClass_of_methodNamed B.named
  have hlocks := B.notSynchronized
  subst hsz
  have hD := hD0.self (sz := s.heap.size)
  generalize hAe : va_A [(q, .inr (3, [.ref a, .int (zi_n n)])), (a, .inl (cA, 600, .inl (zi_F F)))] s.heap.size = A at hD ⊢
  have hA : ∀ q : Nat, s.heap.size ≤ q → A q := fun q h => by rw [← hAe]; exact Or.inr h
  have hS : va_S A s.heap s.heap [] := va_S.rf
  have hP : va_P D vwCl [(q, .inr (3, [.ref a, .int (zi_n n)])), (a, .inl (cA, 600, .inl (zi_F F)))] s.heap := hP
  have hl := lv_entry ([.ref q, .int (zi_n p0), .int (zi_n p1)]) (n := 3) (Nat.le_of_ble_eq_true rfl)
  rw [lg_entry_eq]
  generalize (lg_sl ([.ref q, .int (zi_n p0), .int (zi_n p1)]) ++ List.replicate (3 - (lg_sl ([.ref q, .int (zi_n p0), .int (zi_n p1)])).length) Slot.unset).toArray = ls at hl ⊢
  have hl : lv_has ls 3 [(0, .ref q), (1, .int (zi_n p0)), (2, .int (zi_n p1))] := hl
  refine lv_aload_n hx hb dX2_put_0 rfl (lv_at hl 0 rfl) ?_
  refine lv_iload_n hx hb dX2_put_1 rfl (lv_at hl 1 rfl) ?_
  refine zc_V (As := [.int (zi_n p0)]) (rest := []) ⟨hx, hb, hml, hown, hts⟩ (c_Row_has l D q a cA F n hF (by omega) p0 (by omega)) (cwV 1 hts gX2_put_X2_has rfl rfl rfl (by decide +kernel) ⟨(Nat.le_of_ble_eq_true rfl), (Nat.le_of_ble_eq_true rfl)⟩) hP hK [0, 1] [0] rfl rfl (ci := 3) rfl rfl rfl rfl hl.1 rfl (Nat.le_of_ble_eq_true rfl) dX2_put_2 ⟨Nat.zero_le _, Nat.zero_le _⟩ (fun r hr1 => ?_)
  rcases hr1 with ⟨rfl, c_1⟩ | ⟨rfl, c_1⟩
  · refine zr_if_eq (tgt := 19) hx hb dX2_put_5 (by decide) (by omega) (fun c => absurd c (by decide)) (fun c_2 => ?_)
    refine lv_aload_n hx hb dX2_put_8 rfl (lv_at hl 0 rfl) ?_
    refine va_get (D := D) (ci := 3) (v := .ref a) (C := RX2) (T := TX2) (N := 2) hx hb hts in_X2_put_X2 hown hK hP 0 rfl rfl 0 (by decide) (hts (.fieldLink RX2 9 "ZHeads$Row" "cells" "[I") (by decide +kernel)) (fun _ h9 => h9) rfl dX2_put_9 ?_
    refine lv_iload_n hx hb dX2_put_12 rfl (lv_at hl 1 rfl) ?_
    refine lv_iload_n hx hb dX2_put_13 rfl (lv_at hl 2 rfl) ?_
    refine zr_sipush hx hb dX2_put_14 (by decide) ?_
    refine zr_iand255 hx hb dX2_put_17 (by omega) ?_
    refine zr_iast (x := p1 % 256) hx hb hK hP hD hS 1 0 rfl rfl (by decide) (by omega) dX2_put_18 (fun H locs hP hD hS => ?_)
    have hF_3 : zi_By (zi_up F p0.toNat (p1 % 256)) := zi_up_By hF _ (by omega)
    have hP : va_P D vwCl [(q, .inr (3, [.ref a, .int (zi_n n)])), (a, .inl (cA, 600, .inl (zi_F (zi_up F p0.toNat (p1 % 256)))))] H := hP
    have hD : va_D A [(q, .inr (3, [.ref a, .int (zi_n n)])), (a, .inl (cA, 600, .inl (zi_F (zi_up F p0.toNat (p1 % 256)))))] := hD
    have e_n_4_0 : zh_put F n p0 p1 = zi_up F p0.toNat (p1 % 256) := by exact if_pos c_1
    have hP9 : va_P D vwCl [(q, .inr (3, [.ref a, .int (zi_n n)])), (a, .inl (cA, 600, .inl (zi_F (zh_put F n p0 p1))))] H := by rw [e_n_4_0]; exact hP
    have hD9 : va_D A [(q, .inr (3, [.ref a, .int (zi_n n)])), (a, .inl (cA, 600, .inl (zi_F (zh_put F n p0 p1))))] := by rw [e_n_4_0]; exact hD
    exact W.vret hx hb hr (fun t ht hW => ⟨⟨(), rfl, trivial, by rw [ht]; exact hP9, va_K.moved hW.alike hK, hD9⟩, hS.F ht⟩) hS.2.2 dX2_put_19
  · refine zr_if_eq (tgt := 19) hx hb dX2_put_5 (by decide) (by omega) (fun c_5 => ?_) (fun c => absurd c (by decide))
    have e_n_6_0 : zh_put F n p0 p1 = F := by exact if_neg c_1
    have hP9 : va_P D vwCl [(q, .inr (3, [.ref a, .int (zi_n n)])), (a, .inl (cA, 600, .inl (zi_F (zh_put F n p0 p1))))] s.heap := by rw [e_n_6_0]; exact hP
    have hD9 : va_D A [(q, .inr (3, [.ref a, .int (zi_n n)])), (a, .inl (cA, 600, .inl (zi_F (zh_put F n p0 p1))))] := by rw [e_n_6_0]; exact hD
    exact W.vret hx hb hr (fun t ht hW => ⟨⟨(), rfl, trivial, by rw [ht]; exact hP9, va_K.moved hW.alike hK, hD9⟩, hS.F ht⟩) hS.2.2 dX2_put_19

set_option maxHeartbeats 4000000 in
set_option maxRecDepth 100000 in
theorem c_Row_putTwo (l : Launch) (D : va_G) (q a : Nat) (cA : ClassId) (F : Nat → Int) (n : Int) (hF : zi_By F) (hn : 0 ≤ n ∧ n ≤ 600) (sz : Nat) (p0 : Int) (p1 : Int) (hp : 0 ≤ p0 ∧ p0 ≤ 600) (hq : zi_R p1) : Met l yX2_putTwo wsX2_putTwo ({ frames := 2, cells := 0, slots := 0, locals := 43 }) (va_Pc [.ref q, .int (zi_n p0), .int (zi_n p1)] (zp_P D vwCl sz [(q, .inr (3, [.ref a, .int (zi_n n)])), (a, .inl (cA, 600, .inl (zi_F F)))] [(cA, .int)])) (va_Qv (fun (_ : Unit) => True) (fun (_ : Unit) => zp_B D vwCl [(cA, .int)] (va_A [(q, .inr (3, [.ref a, .int (zi_n n)])), (a, .inl (cA, 600, .inl (zi_F F)))] sz) [(q, .inr (3, [.ref a, .int (zi_n n)])), (a, .inl (cA, 600, .inl (zi_F (zh_put (zh_put F n p0 (p1 / 256)) n (p0 + 1) p1))))]) (va_A [(q, .inr (3, [.ref a, .int (zi_n n)])), (a, .inl (cA, 600, .inl (zi_F F)))] sz)) 0 0 (va_A [(q, .inr (3, [.ref a, .int (zi_n n)])), (a, .inl (cA, 600, .inl (zi_F F)))] sz) := by
  refine Met.ofW (cc := cX2_putTwo) (maxL := 3) (ret := none) (by decide) rfl ?_
  intro p e s m args below meth c s₁ B hml hv
  obtain ⟨rfl, hsz, hP, hK, hD0⟩ := hv
  have hx := B.exec
  have hb := B.bytes
  have hr := B.returns
  have hts := atoms_spec (ws := wsX2_putTwo) B.pre
  have hown : s.vm.findClass RX2 = some m.cls := findClass_of_methodNamed B.named
  have hlocks := B.notSynchronized
  subst hsz
  have hD := hD0.self (sz := s.heap.size)
  generalize hAe : va_A [(q, .inr (3, [.ref a, .int (zi_n n)])), (a, .inl (cA, 600, .inl (zi_F F)))] s.heap.size = A at hD ⊢
  have hA : ∀ q : Nat, s.heap.size ≤ q → A q := fun q h => by rw [← hAe]; exact Or.inr h
  have hS : va_S A s.heap s.heap [] := va_S.rf
  have hP : va_P D vwCl [(q, .inr (3, [.ref a, .int (zi_n n)])), (a, .inl (cA, 600, .inl (zi_F F)))] s.heap := hP
  have hl := lv_entry ([.ref q, .int (zi_n p0), .int (zi_n p1)]) (n := 3) (Nat.le_of_ble_eq_true rfl)
  rw [lg_entry_eq]
  generalize (lg_sl ([.ref q, .int (zi_n p0), .int (zi_n p1)]) ++ List.replicate (3 - (lg_sl ([.ref q, .int (zi_n p0), .int (zi_n p1)])).length) Slot.unset).toArray = ls at hl ⊢
  have hl : lv_has ls 3 [(0, .ref q), (1, .int (zi_n p0)), (2, .int (zi_n p1))] := hl
  refine lv_aload_n hx hb dX2_putTwo_0 rfl (lv_at hl 0 rfl) ?_
  refine lv_iload_n hx hb dX2_putTwo_1 rfl (lv_at hl 1 rfl) ?_
  refine lv_iload_n hx hb dX2_putTwo_2 rfl (lv_at hl 2 rfl) ?_
  refine zr_bipush hx hb dX2_putTwo_3 (by decide) ?_
  refine zr_ishr8 hx hb dX2_putTwo_5 (by omega) ?_
  refine zc_Vv (As := [.int (zi_n p0), .int (zi_n (p1 / 256))]) (rest := []) (wr := []) (wf := fun (_ : Unit) => [(q, .inr (3, [.ref a, .int (zi_n n)])), (a, .inl (cA, 600, .inl (zi_F (zh_put F n p0 (p1 / 256)))))]) ⟨hx, hb, hml, hown, hts⟩ (c_Row_put l D q a cA F n hF (by omega) _ p0 (p1 / 256) (by omega) (by omega)) (cwV 2 hts gX2_putTwo_X2_put rfl rfl rfl (by decide +kernel) ⟨(Nat.le_of_ble_eq_true rfl), (Nat.le_of_ble_eq_true rfl)⟩) hP hD hK hS hA [0, 1] [] [0] [0, 1] rfl rfl (by decide) rfl (by decide) (by decide) rfl (fun _ => rfl) (fun _ => rfl) (by decide) (ci := 3) rfl rfl rfl rfl hl.1 rfl (Nat.le_of_ble_eq_true rfl) dX2_putTwo_6 ⟨Nat.zero_le _, Nat.zero_le _⟩ (fun _ hr1 H locs hP hD hS => ?_)
  have hF_1 : zi_By (zh_put F n p0 (p1 / 256)) := zh_put_By hF _ _ _
  have hP : va_P D vwCl [(q, .inr (3, [.ref a, .int (zi_n n)])), (a, .inl (cA, 600, .inl (zi_F (zh_put F n p0 (p1 / 256)))))] H := hP
  have hD : va_D A [(q, .inr (3, [.ref a, .int (zi_n n)])), (a, .inl (cA, 600, .inl (zi_F (zh_put F n p0 (p1 / 256)))))] := hD
  refine lv_aload_n hx hb dX2_putTwo_9 rfl (lv_at hl 0 rfl) ?_
  refine lv_iload_n hx hb dX2_putTwo_10 rfl (lv_at hl 1 rfl) ?_
  refine zr_iconst hx hb dX2_putTwo_11 ?_
  refine zr_iadd hx hb dX2_putTwo_12 ?_
  refine lv_iload_n hx hb dX2_putTwo_13 rfl (lv_at hl 2 rfl) ?_
  refine zc_Vv (As := [.int (zi_n (p0 + 1)), .int (zi_n p1)]) (rest := []) (wr := []) (wf := fun (_ : Unit) => [(q, .inr (3, [.ref a, .int (zi_n n)])), (a, .inl (cA, 600, .inl (zi_F (zh_put (zh_put F n p0 (p1 / 256)) n (p0 + 1) p1))))]) ⟨hx, hb, hml, hown, hts⟩ (c_Row_put l D q a cA (zh_put F n p0 (p1 / 256)) n hF_1 (by omega) _ (p0 + 1) p1 (by omega) (by omega)) (cwV 2 hts gX2_putTwo_X2_put rfl rfl rfl (by decide +kernel) ⟨(Nat.le_of_ble_eq_true rfl), (Nat.le_of_ble_eq_true rfl)⟩) hP hD hK hS hA [0, 1] [] [0] [0, 1] rfl rfl (by decide) rfl (by decide) (by decide) rfl (fun _ => rfl) (fun _ => rfl) (by decide) (ci := 3) rfl rfl rfl rfl hl.1 rfl (Nat.le_of_ble_eq_true rfl) dX2_putTwo_14 ⟨Nat.zero_le _, Nat.zero_le _⟩ (fun _ hr1 H locs hP hD hS => ?_)
  have hF_2 : zi_By (zh_put (zh_put F n p0 (p1 / 256)) n (p0 + 1) p1) := zh_put_By hF_1 _ _ _
  have hP : va_P D vwCl [(q, .inr (3, [.ref a, .int (zi_n n)])), (a, .inl (cA, 600, .inl (zi_F (zh_put (zh_put F n p0 (p1 / 256)) n (p0 + 1) p1))))] H := hP
  have hD : va_D A [(q, .inr (3, [.ref a, .int (zi_n n)])), (a, .inl (cA, 600, .inl (zi_F (zh_put (zh_put F n p0 (p1 / 256)) n (p0 + 1) p1))))] := hD
  have hP9 : va_P D vwCl [(q, .inr (3, [.ref a, .int (zi_n n)])), (a, .inl (cA, 600, .inl (zi_F (zh_put (zh_put F n p0 (p1 / 256)) n (p0 + 1) p1))))] H := hP
  have hD9 : va_D A [(q, .inr (3, [.ref a, .int (zi_n n)])), (a, .inl (cA, 600, .inl (zi_F (zh_put (zh_put F n p0 (p1 / 256)) n (p0 + 1) p1))))] := hD
  exact W.vret hx hb hr (fun t ht hW => ⟨⟨(), rfl, trivial, by rw [ht]; exact hP9, va_K.moved hW.alike hK, hD9⟩, hS.F ht⟩) hS.2.2 dX2_putTwo_17

theorem in_X2_add_X2 : ∀ w ∈ u_ws RX2 TX2 2, w ∈ wsX2_add := by decide +kernel
set_option maxHeartbeats 4000000 in
set_option maxRecDepth 100000 in
theorem c_Row_add (l : Launch) (D : va_G) (q a : Nat) (cA : ClassId) (F : Nat → Int) (n : Int) (hF : zi_By F) (hn : 0 ≤ n ∧ n ≤ 600) (sz : Nat) (p0 : Int) (hp : 0 ≤ p0 ∧ p0 ≤ 255) (hq : n < 600) : Met l yX2_add wsX2_add ({ frames := 0, cells := 0, slots := 0, locals := 0 }) (va_Pc [.ref q, .int (zi_n p0)] (zp_P D vwCl sz [(q, .inr (3, [.ref a, .int (zi_n n)])), (a, .inl (cA, 600, .inl (zi_F F)))] [(cA, .int)])) (va_Qv (fun (_ : Unit) => True) (fun (_ : Unit) => zp_B D vwCl [(cA, .int)] (va_A [(q, .inr (3, [.ref a, .int (zi_n n)])), (a, .inl (cA, 600, .inl (zi_F F)))] sz) [(q, .inr (3, [.ref a, .int (zi_n (n + 1))])), (a, .inl (cA, 600, .inl (zi_F (zi_up F n.toNat p0))))]) (va_A [(q, .inr (3, [.ref a, .int (zi_n n)])), (a, .inl (cA, 600, .inl (zi_F F)))] sz)) 0 0 (va_A [(q, .inr (3, [.ref a, .int (zi_n n)])), (a, .inl (cA, 600, .inl (zi_F F)))] sz) := by
  refine Met.ofW (cc := cX2_add) (maxL := 2) (ret := none) (by decide) rfl ?_
  intro p e s m args below meth c s₁ B hml hv
  obtain ⟨rfl, hsz, hP, hK, hD0⟩ := hv
  have hx := B.exec
  have hb := B.bytes
  have hr := B.returns
  have hts := atoms_spec (ws := wsX2_add) B.pre
  have hown : s.vm.findClass RX2 = some m.cls := findClass_of_methodNamed B.named
  have hlocks := B.notSynchronized
  subst hsz
  have hD := hD0.self (sz := s.heap.size)
  generalize hAe : va_A [(q, .inr (3, [.ref a, .int (zi_n n)])), (a, .inl (cA, 600, .inl (zi_F F)))] s.heap.size = A at hD ⊢
  have hA : ∀ q : Nat, s.heap.size ≤ q → A q := fun q h => by rw [← hAe]; exact Or.inr h
  have hS : va_S A s.heap s.heap [] := va_S.rf
  have hP : va_P D vwCl [(q, .inr (3, [.ref a, .int (zi_n n)])), (a, .inl (cA, 600, .inl (zi_F F)))] s.heap := hP
  have hl := lv_entry ([.ref q, .int (zi_n p0)]) (n := 2) (Nat.le_of_ble_eq_true rfl)
  rw [lg_entry_eq]
  generalize (lg_sl ([.ref q, .int (zi_n p0)]) ++ List.replicate (2 - (lg_sl ([.ref q, .int (zi_n p0)])).length) Slot.unset).toArray = ls at hl ⊢
  have hl : lv_has ls 2 [(0, .ref q), (1, .int (zi_n p0))] := hl
  refine lv_aload_n hx hb dX2_add_0 rfl (lv_at hl 0 rfl) ?_
  refine va_get (D := D) (ci := 3) (v := .int (zi_n n)) (C := RX2) (T := TX2) (N := 2) hx hb hts in_X2_add_X2 hown hK hP 0 rfl rfl 1 (by decide) (hts (.fieldLink RX2 15 "ZHeads$Row" "count" "I") (by decide +kernel)) (fun _ h9 => h9) rfl dX2_add_1 ?_
  refine zr_if_lt (tgt := 39) hx hb dX2_add_4 (by decide) (by omega) (fun c => False.elim (by omega)) (fun c_1 => ?_)
  refine lv_aload_n hx hb dX2_add_7 rfl (lv_at hl 0 rfl) ?_
  refine va_get (D := D) (ci := 3) (v := .int (zi_n n)) (C := RX2) (T := TX2) (N := 2) hx hb hts in_X2_add_X2 hown hK hP 0 rfl rfl 1 (by decide) (hts (.fieldLink RX2 15 "ZHeads$Row" "count" "I") (by decide +kernel)) (fun _ h9 => h9) rfl dX2_add_8 ?_
  refine lv_aload_n hx hb dX2_add_11 rfl (lv_at hl 0 rfl) ?_
  refine va_get (D := D) (ci := 3) (v := .ref a) (C := RX2) (T := TX2) (N := 2) hx hb hts in_X2_add_X2 hown hK hP 0 rfl rfl 0 (by decide) (hts (.fieldLink RX2 9 "ZHeads$Row" "cells" "[I") (by decide +kernel)) (fun _ h9 => h9) rfl dX2_add_12 ?_
  refine zr_alen hx hb hK hP 1 0 rfl rfl 600 rfl dX2_add_15 ?_
  refine zr_icmp_ge (tgt := 39) hx hb dX2_add_16 (by decide) (by omega) (by omega) (fun c => False.elim (by omega)) (fun c_2 => ?_)
  refine lv_aload_n hx hb dX2_add_19 rfl (lv_at hl 0 rfl) ?_
  refine va_get (D := D) (ci := 3) (v := .ref a) (C := RX2) (T := TX2) (N := 2) hx hb hts in_X2_add_X2 hown hK hP 0 rfl rfl 0 (by decide) (hts (.fieldLink RX2 9 "ZHeads$Row" "cells" "[I") (by decide +kernel)) (fun _ h9 => h9) rfl dX2_add_20 ?_
  refine lv_aload_n hx hb dX2_add_23 rfl (lv_at hl 0 rfl) ?_
  refine va_get (D := D) (ci := 3) (v := .int (zi_n n)) (C := RX2) (T := TX2) (N := 2) hx hb hts in_X2_add_X2 hown hK hP 0 rfl rfl 1 (by decide) (hts (.fieldLink RX2 15 "ZHeads$Row" "count" "I") (by decide +kernel)) (fun _ h9 => h9) rfl dX2_add_24 ?_
  refine lv_iload_n hx hb dX2_add_27 rfl (lv_at hl 1 rfl) ?_
  refine zr_iast (x := p0) hx hb hK hP hD hS 1 0 rfl rfl (by decide) (by omega) dX2_add_28 (fun H locs hP hD hS => ?_)
  have hF_3 : zi_By (zi_up F n.toNat p0) := zi_up_By hF _ (by omega)
  have hP : va_P D vwCl [(q, .inr (3, [.ref a, .int (zi_n n)])), (a, .inl (cA, 600, .inl (zi_F (zi_up F n.toNat p0))))] H := hP
  have hD : va_D A [(q, .inr (3, [.ref a, .int (zi_n n)])), (a, .inl (cA, 600, .inl (zi_F (zi_up F n.toNat p0))))] := hD
  refine lv_aload_n hx hb dX2_add_29 rfl (lv_at hl 0 rfl) ?_
  refine lv_dup hx hb dX2_add_30 rfl ?_
  refine va_get (D := D) (ci := 3) (v := .int (zi_n n)) (C := RX2) (T := TX2) (N := 2) hx hb hts in_X2_add_X2 hown hK hP 0 rfl rfl 1 (by decide) (hts (.fieldLink RX2 15 "ZHeads$Row" "count" "I") (by decide +kernel)) (fun _ h9 => h9) rfl dX2_add_31 ?_
  refine zr_iconst hx hb dX2_add_34 ?_
  refine zr_iadd hx hb dX2_add_35 ?_
  refine va_put (D := D) (ci := 3) (v := .int (zi_n (n + 1))) (ty := .int) (C := RX2) (T := TX2) (N := 2) hx hb hts in_X2_add_X2 tyX2 tyX2_ok nmX2 hown hK hP hD hS 0 rfl rfl 1 (by decide) (hts (.fieldLink RX2 15 "ZHeads$Row" "count" "I") (by decide +kernel)) (fun _ h9 => h9) rfl (by decide +kernel) rfl rfl (Nat.le_of_ble_eq_true rfl) dX2_add_36 (fun H locs hP hD hS => ?_)
  have hP : va_P D vwCl [(q, .inr (3, [.ref a, .int (zi_n (n + 1))])), (a, .inl (cA, 600, .inl (zi_F (zi_up F n.toNat p0))))] H := hP
  have hD : va_D A [(q, .inr (3, [.ref a, .int (zi_n (n + 1))])), (a, .inl (cA, 600, .inl (zi_F (zi_up F n.toNat p0))))] := hD
  have hP9 : va_P D vwCl [(q, .inr (3, [.ref a, .int (zi_n (n + 1))])), (a, .inl (cA, 600, .inl (zi_F (zi_up F n.toNat p0))))] H := hP
  have hD9 : va_D A [(q, .inr (3, [.ref a, .int (zi_n (n + 1))])), (a, .inl (cA, 600, .inl (zi_F (zi_up F n.toNat p0))))] := hD
  exact W.vret hx hb hr (fun t ht hW => ⟨⟨(), rfl, trivial, by rw [ht]; exact hP9, va_K.moved hW.alike hK, hD9⟩, hS.F ht⟩) hS.2.2 dX2_add_39

theorem in_X2_empty_X2 : ∀ w ∈ u_ws RX2 TX2 2, w ∈ wsX2_empty := by decide +kernel
set_option maxHeartbeats 4000000 in
set_option maxRecDepth 100000 in
theorem c_Row_empty (l : Launch) (D : va_G) (q a : Nat) (cA : ClassId) (F : Nat → Int) (n : Int) (hF : zi_By F) (hn : 0 ≤ n ∧ n ≤ 600) (sz : Nat) : Met l yX2_empty wsX2_empty ({ frames := 0, cells := 0, slots := 0, locals := 0 }) (va_Pc [.ref q] (zp_P D vwCl sz [(q, .inr (3, [.ref a, .int (zi_n n)])), (a, .inl (cA, 600, .inl (zi_F F)))] [(cA, .int)])) (va_Qv (fun (_ : Unit) => True) (fun (_ : Unit) => zp_B D vwCl [(cA, .int)] (va_A [(q, .inr (3, [.ref a, .int (zi_n n)])), (a, .inl (cA, 600, .inl (zi_F F)))] sz) [(q, .inr (3, [.ref a, .int (zi_n 0)])), (a, .inl (cA, 600, .inl (zi_F F)))]) (va_A [(q, .inr (3, [.ref a, .int (zi_n n)])), (a, .inl (cA, 600, .inl (zi_F F)))] sz)) 0 0 (va_A [(q, .inr (3, [.ref a, .int (zi_n n)])), (a, .inl (cA, 600, .inl (zi_F F)))] sz) := by
  refine Met.ofW (cc := cX2_empty) (maxL := 1) (ret := none) (by decide) rfl ?_
  intro p e s m args below meth c s₁ B hml hv
  obtain ⟨rfl, hsz, hP, hK, hD0⟩ := hv
  have hx := B.exec
  have hb := B.bytes
  have hr := B.returns
  have hts := atoms_spec (ws := wsX2_empty) B.pre
  have hown : s.vm.findClass RX2 = some m.cls := findClass_of_methodNamed B.named
  have hlocks := B.notSynchronized
  subst hsz
  have hD := hD0.self (sz := s.heap.size)
  generalize hAe : va_A [(q, .inr (3, [.ref a, .int (zi_n n)])), (a, .inl (cA, 600, .inl (zi_F F)))] s.heap.size = A at hD ⊢
  have hA : ∀ q : Nat, s.heap.size ≤ q → A q := fun q h => by rw [← hAe]; exact Or.inr h
  have hS : va_S A s.heap s.heap [] := va_S.rf
  have hP : va_P D vwCl [(q, .inr (3, [.ref a, .int (zi_n n)])), (a, .inl (cA, 600, .inl (zi_F F)))] s.heap := hP
  have hl := lv_entry ([.ref q]) (n := 1) (Nat.le_of_ble_eq_true rfl)
  rw [lg_entry_eq]
  generalize (lg_sl ([.ref q]) ++ List.replicate (1 - (lg_sl ([.ref q])).length) Slot.unset).toArray = ls at hl ⊢
  have hl : lv_has ls 1 [(0, .ref q)] := hl
  refine lv_aload_n hx hb dX2_empty_0 rfl (lv_at hl 0 rfl) ?_
  refine zr_iconst hx hb dX2_empty_1 ?_
  refine va_put (D := D) (ci := 3) (v := .int (zi_n 0)) (ty := .int) (C := RX2) (T := TX2) (N := 2) hx hb hts in_X2_empty_X2 tyX2 tyX2_ok nmX2 hown hK hP hD hS 0 rfl rfl 1 (by decide) (hts (.fieldLink RX2 15 "ZHeads$Row" "count" "I") (by decide +kernel)) (fun _ h9 => h9) rfl (by decide +kernel) rfl rfl (Nat.le_of_ble_eq_true rfl) dX2_empty_2 (fun H locs hP hD hS => ?_)
  have hP : va_P D vwCl [(q, .inr (3, [.ref a, .int (zi_n 0)])), (a, .inl (cA, 600, .inl (zi_F F)))] H := hP
  have hD : va_D A [(q, .inr (3, [.ref a, .int (zi_n 0)])), (a, .inl (cA, 600, .inl (zi_F F)))] := hD
  have hP9 : va_P D vwCl [(q, .inr (3, [.ref a, .int (zi_n 0)])), (a, .inl (cA, 600, .inl (zi_F F)))] H := hP
  have hD9 : va_D A [(q, .inr (3, [.ref a, .int (zi_n 0)])), (a, .inl (cA, 600, .inl (zi_F F)))] := hD
  exact W.vret hx hb hr (fun t ht hW => ⟨⟨(), rfl, trivial, by rw [ht]; exact hP9, va_K.moved hW.alike hK, hD9⟩, hS.F ht⟩) hS.2.2 dX2_empty_5
end
section
set_option maxHeartbeats 4000000 in
set_option maxRecDepth 100000 in
theorem c_R_isFlag (l : Launch) (p0 : Int) (p1 : Int) (rp0 : zi_R p0) (rp1 : zi_R p1) : Met l yX1_isFlag wsX1_isFlag ({ frames := 0, cells := 0, slots := 0, locals := 0 }) (va_Pc [.int (zi_n p0), .int (zi_n p1)] (fun _ => True)) (vp_Si (fun r => (r = zi_n 1 ∧ (zh_isF p0 p1)) ∨ (r = zi_n 0 ∧ ¬ (zh_isF p0 p1)))) 0 0 (fun _ => False) := by
  refine Met.ofW (cc := cX1_isFlag) (maxL := 2) (ret := (some .boolean)) (by decide) rfl ?_
  intro p e s m args below meth c s₁ B hml hv
  obtain ⟨rfl, -⟩ := hv
  have hx := B.exec
  have hb := B.bytes
  have hr := B.returns
  have hts := atoms_spec (ws := wsX1_isFlag) B.pre
  have hown : s.vm.findClass RX1 = some m.cls := findClass_of_methodNamed B.named
  have hlocks := B.notSynchronized
  have hl := lv_entry ([.int (zi_n p0), .int (zi_n p1)]) (n := 2) (Nat.le_of_ble_eq_true rfl)
  rw [lg_entry_eq]
  generalize (lg_sl ([.int (zi_n p0), .int (zi_n p1)]) ++ List.replicate (2 - (lg_sl ([.int (zi_n p0), .int (zi_n p1)])).length) Slot.unset).toArray = ls at hl ⊢
  have hl : lv_has ls 2 [(0, .int (zi_n p0)), (1, .int (zi_n p1))] := hl
  refine lv_iload_n hx hb dX1_isFlag_0 rfl (lv_at hl 0 rfl) ?_
  refine zr_iconst hx hb dX1_isFlag_1 ?_
  refine zr_icmp_eq (tgt := 12) hx hb dX1_isFlag_2 (by decide) (by omega) (by omega) (fun c_1 => ?_) (fun c_1 => ?_)
  · refine lv_iload_n hx hb dX1_isFlag_12 rfl (lv_at hl 1 rfl) ?_
    refine zr_if_lt (tgt := 36) hx hb dX1_isFlag_13 (by decide) (by omega) (fun c_2 => ?_) (fun c_2 => ?_)
    · refine zr_iconst hx hb dX1_isFlag_36 ?_
      exact W.zret (v := zi_n 0) (ty := .boolean) hx hb hr zl_b0 (fun t ht hW => ⟨_, rfl, zl_f (by unfold zh_isF; omega), ht⟩) (fun q hq => nomatch hq) dX1_isFlag_37
    · refine lv_iload_n hx hb dX1_isFlag_16 rfl (lv_at hl 1 rfl) ?_
      refine lv_iload_n hx hb dX1_isFlag_17 rfl (lv_at hl 0 rfl) ?_
      refine zr_iconst hx hb dX1_isFlag_18 ?_
      refine zr_icmp_ne (tgt := 27) hx hb dX1_isFlag_19 (by decide) (by omega) (by omega) (fun c_3 => ?_) (fun c_3 => ?_)
      · refine zr_bipush hx hb dX1_isFlag_27 (by decide) ?_
        refine zr_icmp_gt (tgt := 36) hx hb dX1_isFlag_29 (by decide) (by omega) (by omega) (fun c_4 => ?_) (fun c_4 => ?_)
        · refine zr_iconst hx hb dX1_isFlag_36 ?_
          exact W.zret (v := zi_n 0) (ty := .boolean) hx hb hr zl_b0 (fun t ht hW => ⟨_, rfl, zl_f (by unfold zh_isF; omega), ht⟩) (fun q hq => nomatch hq) dX1_isFlag_37
        · refine zr_iconst hx hb dX1_isFlag_32 ?_
          refine lv_goto (tgt := 37) hx hb dX1_isFlag_33 (by decide) ?_
          exact W.zret (v := zi_n 1) (ty := .boolean) hx hb hr zl_b1 (fun t ht hW => ⟨_, rfl, zl_t (by unfold zh_isF; omega), ht⟩) (fun q hq => nomatch hq) dX1_isFlag_37
      · refine zr_bipush hx hb dX1_isFlag_22 (by decide) ?_
        refine lv_goto (tgt := 29) hx hb dX1_isFlag_24 (by decide) ?_
        refine zr_icmp_gt (tgt := 36) hx hb dX1_isFlag_29 (by decide) (by omega) (by omega) (fun c_5 => ?_) (fun c_5 => ?_)
        · refine zr_iconst hx hb dX1_isFlag_36 ?_
          exact W.zret (v := zi_n 0) (ty := .boolean) hx hb hr zl_b0 (fun t ht hW => ⟨_, rfl, zl_f (by unfold zh_isF; omega), ht⟩) (fun q hq => nomatch hq) dX1_isFlag_37
        · refine zr_iconst hx hb dX1_isFlag_32 ?_
          refine lv_goto (tgt := 37) hx hb dX1_isFlag_33 (by decide) ?_
          exact W.zret (v := zi_n 1) (ty := .boolean) hx hb hr zl_b1 (fun t ht hW => ⟨_, rfl, zl_t (by unfold zh_isF; omega), ht⟩) (fun q hq => nomatch hq) dX1_isFlag_37
  · refine lv_iload_n hx hb dX1_isFlag_5 rfl (lv_at hl 0 rfl) ?_
    refine zr_iconst hx hb dX1_isFlag_6 ?_
    refine zr_icmp_eq (tgt := 12) hx hb dX1_isFlag_7 (by decide) (by omega) (by omega) (fun c_6 => ?_) (fun c_6 => ?_)
    · refine lv_iload_n hx hb dX1_isFlag_12 rfl (lv_at hl 1 rfl) ?_
      refine zr_if_lt (tgt := 36) hx hb dX1_isFlag_13 (by decide) (by omega) (fun c_7 => ?_) (fun c_7 => ?_)
      · refine zr_iconst hx hb dX1_isFlag_36 ?_
        exact W.zret (v := zi_n 0) (ty := .boolean) hx hb hr zl_b0 (fun t ht hW => ⟨_, rfl, zl_f (by unfold zh_isF; omega), ht⟩) (fun q hq => nomatch hq) dX1_isFlag_37
      · refine lv_iload_n hx hb dX1_isFlag_16 rfl (lv_at hl 1 rfl) ?_
        refine lv_iload_n hx hb dX1_isFlag_17 rfl (lv_at hl 0 rfl) ?_
        refine zr_iconst hx hb dX1_isFlag_18 ?_
        refine zr_icmp_ne (tgt := 27) hx hb dX1_isFlag_19 (by decide) (by omega) (by omega) (fun c_8 => ?_) (fun c_8 => ?_)
        · refine zr_bipush hx hb dX1_isFlag_27 (by decide) ?_
          refine zr_icmp_gt (tgt := 36) hx hb dX1_isFlag_29 (by decide) (by omega) (by omega) (fun c_9 => ?_) (fun c_9 => ?_)
          · refine zr_iconst hx hb dX1_isFlag_36 ?_
            exact W.zret (v := zi_n 0) (ty := .boolean) hx hb hr zl_b0 (fun t ht hW => ⟨_, rfl, zl_f (by unfold zh_isF; omega), ht⟩) (fun q hq => nomatch hq) dX1_isFlag_37
          · refine zr_iconst hx hb dX1_isFlag_32 ?_
            refine lv_goto (tgt := 37) hx hb dX1_isFlag_33 (by decide) ?_
            exact W.zret (v := zi_n 1) (ty := .boolean) hx hb hr zl_b1 (fun t ht hW => ⟨_, rfl, zl_t (by unfold zh_isF; omega), ht⟩) (fun q hq => nomatch hq) dX1_isFlag_37
        · refine zr_bipush hx hb dX1_isFlag_22 (by decide) ?_
          refine lv_goto (tgt := 29) hx hb dX1_isFlag_24 (by decide) ?_
          refine zr_icmp_gt (tgt := 36) hx hb dX1_isFlag_29 (by decide) (by omega) (by omega) (fun c_10 => ?_) (fun c_10 => ?_)
          · refine zr_iconst hx hb dX1_isFlag_36 ?_
            exact W.zret (v := zi_n 0) (ty := .boolean) hx hb hr zl_b0 (fun t ht hW => ⟨_, rfl, zl_f (by unfold zh_isF; omega), ht⟩) (fun q hq => nomatch hq) dX1_isFlag_37
          · refine zr_iconst hx hb dX1_isFlag_32 ?_
            refine lv_goto (tgt := 37) hx hb dX1_isFlag_33 (by decide) ?_
            exact W.zret (v := zi_n 1) (ty := .boolean) hx hb hr zl_b1 (fun t ht hW => ⟨_, rfl, zl_t (by unfold zh_isF; omega), ht⟩) (fun q hq => nomatch hq) dX1_isFlag_37
    · refine zr_iconst hx hb dX1_isFlag_10 ?_
      exact W.zret (v := zi_n 0) (ty := .boolean) hx hb hr zl_b0 (fun t ht hW => ⟨_, rfl, zl_f (by unfold zh_isF; omega), ht⟩) (fun q hq => nomatch hq) dX1_isFlag_11

set_option maxHeartbeats 4000000 in
set_option maxRecDepth 100000 in
theorem c_R_playerBits (l : Launch) (p0 : Int) (h0 : 1 ≤ p0 ∧ p0 ≤ 8) : Met l yX1_playerBits wsX1_playerBits ({ frames := 0, cells := 0, slots := 0, locals := 0 }) (va_Pc [.int (zi_n p0)] (fun _ => True)) (vp_Si (fun r => r = zi_n (zh_pb p0) ∧ 112 ≤ (zh_pb p0) ∧ (zh_pb p0) ≤ 191)) 0 0 (fun _ => False) := by
  refine Met.ofW (cc := cX1_playerBits) (maxL := 1) (ret := (some .int)) (by decide) rfl ?_
  intro p e s m args below meth c s₁ B hml hv
  obtain ⟨rfl, -⟩ := hv
  have hx := B.exec
  have hb := B.bytes
  have hr := B.returns
  have hts := atoms_spec (ws := wsX1_playerBits) B.pre
  have hown : s.vm.findClass RX1 = some m.cls := findClass_of_methodNamed B.named
  have hlocks := B.notSynchronized
  have hl := lv_entry ([.int (zi_n p0)]) (n := 1) (Nat.le_of_ble_eq_true rfl)
  rw [lg_entry_eq]
  generalize (lg_sl ([.int (zi_n p0)]) ++ List.replicate (1 - (lg_sl ([.int (zi_n p0)])).length) Slot.unset).toArray = ls at hl ⊢
  have hl : lv_has ls 1 [(0, .int (zi_n p0))] := hl
  refine lv_iload_n hx hb dX1_playerBits_0 rfl (lv_at hl 0 rfl) ?_
  rcases (show p0 = 1 ∨ p0 = 2 ∨ p0 = 3 ∨ p0 = 4 ∨ p0 = 5 ∨ p0 = 6 ∨ p0 = 7 ∨ p0 = 8 by omega) with rfl | rfl | rfl | rfl | rfl | rfl | rfl | rfl
  · skip
    refine zr_tabIn (tgt := 40) hx hb dX1_playerBits_1 (by decide) (by decide) (by decide) rfl (by decide) ?_
    refine zr_bipush hx hb dX1_playerBits_40 (by decide) ?_
    exact W.iret (v := zi_n 112) hx hb hr (fun t ht hW => ⟨_, rfl, zl_r (by decide) (by omega), ht⟩) (fun q hq => nomatch hq) dX1_playerBits_42
  · skip
    refine zr_tabIn (tgt := 40) hx hb dX1_playerBits_1 (by decide) (by decide) (by decide) rfl (by decide) ?_
    refine zr_bipush hx hb dX1_playerBits_40 (by decide) ?_
    exact W.iret (v := zi_n 112) hx hb hr (fun t ht hW => ⟨_, rfl, zl_r (by decide) (by omega), ht⟩) (fun q hq => nomatch hq) dX1_playerBits_42
  · skip
    refine zr_tabIn (tgt := 40) hx hb dX1_playerBits_1 (by decide) (by decide) (by decide) rfl (by decide) ?_
    refine zr_bipush hx hb dX1_playerBits_40 (by decide) ?_
    exact W.iret (v := zi_n 112) hx hb hr (fun t ht hW => ⟨_, rfl, zl_r (by decide) (by omega), ht⟩) (fun q hq => nomatch hq) dX1_playerBits_42
  · skip
    refine zr_tabIn (tgt := 43) hx hb dX1_playerBits_1 (by decide) (by decide) (by decide) rfl (by decide) ?_
    refine zr_sipush hx hb dX1_playerBits_43 (by decide) ?_
    exact W.iret (v := zi_n 156) hx hb hr (fun t ht hW => ⟨_, rfl, zl_r (by decide) (by omega), ht⟩) (fun q hq => nomatch hq) dX1_playerBits_46
  · skip
    refine zr_tabIn (tgt := 51) hx hb dX1_playerBits_1 (by decide) (by decide) (by decide) rfl (by decide) ?_
    refine zr_sipush hx hb dX1_playerBits_51 (by decide) ?_
    exact W.iret (v := zi_n 157) hx hb hr (fun t ht hW => ⟨_, rfl, zl_r (by decide) (by omega), ht⟩) (fun q hq => nomatch hq) dX1_playerBits_54
  · skip
    refine zr_tabIn (tgt := 47) hx hb dX1_playerBits_1 (by decide) (by decide) (by decide) rfl (by decide) ?_
    refine zr_sipush hx hb dX1_playerBits_47 (by decide) ?_
    exact W.iret (v := zi_n 191) hx hb hr (fun t ht hW => ⟨_, rfl, zl_r (by decide) (by omega), ht⟩) (fun q hq => nomatch hq) dX1_playerBits_50
  · skip
    refine zr_tabOut (tgt := 51) hx hb dX1_playerBits_1 (by decide) (by decide) (by decide) ?_
    refine zr_sipush hx hb dX1_playerBits_51 (by decide) ?_
    exact W.iret (v := zi_n 157) hx hb hr (fun t ht hW => ⟨_, rfl, zl_r (by decide) (by omega), ht⟩) (fun q hq => nomatch hq) dX1_playerBits_54
  · skip
    refine zr_tabOut (tgt := 51) hx hb dX1_playerBits_1 (by decide) (by decide) (by decide) ?_
    refine zr_sipush hx hb dX1_playerBits_51 (by decide) ?_
    exact W.iret (v := zi_n 157) hx hb hr (fun t ht hW => ⟨_, rfl, zl_r (by decide) (by omega), ht⟩) (fun q hq => nomatch hq) dX1_playerBits_54

set_option maxHeartbeats 4000000 in
set_option maxRecDepth 100000 in
theorem c_R_maySwitchFirst (l : Launch) (p0 : Int) (p1 : Int) (p2 : Int) (h0 : 1 ≤ p0 ∧ p0 ≤ 8) (h1 : 0 ≤ p1 ∧ p1 ≤ 15) (h2 : p2 = 0 ∨ p2 = 1) : Met l yX1_maySwitchFirst wsX1_maySwitchFirst ({ frames := 1, cells := 0, slots := 0, locals := 20 }) (va_Pc [.int (zi_n p0), .int (zi_n p1), .int (zi_n p2)] (fun _ => True)) (vp_Si (fun r => (r = zi_n 1 ∧ (zh_may1 p0 p1 p2)) ∨ (r = zi_n 0 ∧ ¬ (zh_may1 p0 p1 p2)))) 0 0 (fun _ => False) := by
  refine Met.ofW (cc := cX1_maySwitchFirst) (maxL := 3) (ret := (some .boolean)) (by decide) rfl ?_
  intro p e s m args below meth c s₁ B hml hv
  obtain ⟨rfl, -⟩ := hv
  have hx := B.exec
  have hb := B.bytes
  have hr := B.returns
  have hts := atoms_spec (ws := wsX1_maySwitchFirst) B.pre
  have hown : s.vm.findClass RX1 = some m.cls := findClass_of_methodNamed B.named
  have hlocks := B.notSynchronized
  have hl := lv_entry ([.int (zi_n p0), .int (zi_n p1), .int (zi_n p2)]) (n := 3) (Nat.le_of_ble_eq_true rfl)
  rw [lg_entry_eq]
  generalize (lg_sl ([.int (zi_n p0), .int (zi_n p1), .int (zi_n p2)]) ++ List.replicate (3 - (lg_sl ([.int (zi_n p0), .int (zi_n p1), .int (zi_n p2)])).length) Slot.unset).toArray = ls at hl ⊢
  have hl : lv_has ls 3 [(0, .int (zi_n p0)), (1, .int (zi_n p1)), (2, .int (zi_n p2))] := hl
  refine lv_iload_n hx hb dX1_maySwitchFirst_0 rfl (lv_at hl 2 rfl) ?_
  refine zr_if_ne (tgt := 20) hx hb dX1_maySwitchFirst_1 (by decide) (by omega) (fun c_1 => ?_) (fun c_1 => ?_)
  · refine zr_iconst hx hb dX1_maySwitchFirst_20 ?_
    exact W.zret (v := zi_n 0) (ty := .boolean) hx hb hr zl_b0 (fun t ht hW => ⟨_, rfl, zl_f (by unfold zh_may1; omega), ht⟩) (fun q hq => nomatch hq) dX1_maySwitchFirst_21
  · refine lv_iload_n hx hb dX1_maySwitchFirst_4 rfl (lv_at hl 0 rfl) ?_
    refine zc_S (As := [.int (zi_n p0)]) (rest := []) ⟨hx, hb, hml, hown, hts⟩ (c_R_playerBits l p0 (by omega)) (va_cwS 1 hts gX1_maySwitchFirst_X1_playerBits rfl rfl rfl (by decide +kernel) ⟨(Nat.le_of_ble_eq_true rfl), (Nat.le_of_ble_eq_true rfl)⟩) rfl hl.1 rfl (Nat.le_of_ble_eq_true rfl) dX1_maySwitchFirst_5 ⟨Nat.zero_le _, Nat.zero_le _⟩ (fun r hr1 => ?_)
    obtain ⟨rfl, b_2⟩ := hr1
    refine lv_iload_n hx hb dX1_maySwitchFirst_8 rfl (lv_at hl 1 rfl) ?_
    refine zr_ishr hx hb dX1_maySwitchFirst_9 (by omega) (by omega) ?_
    have b_3 := zh_sr_b (a := zh_pb p0) (k := p1) (by omega)
    refine zr_iconst hx hb dX1_maySwitchFirst_10 ?_
    refine zr_iand1 hx hb dX1_maySwitchFirst_11 (by omega) ?_
    refine zr_iconst hx hb dX1_maySwitchFirst_12 ?_
    refine zr_icmp_ne (tgt := 20) hx hb dX1_maySwitchFirst_13 (by decide) (by omega) (by omega) (fun c_4 => ?_) (fun c_4 => ?_)
    · refine zr_iconst hx hb dX1_maySwitchFirst_20 ?_
      exact W.zret (v := zi_n 0) (ty := .boolean) hx hb hr zl_b0 (fun t ht hW => ⟨_, rfl, zl_f (by unfold zh_may1; omega), ht⟩) (fun q hq => nomatch hq) dX1_maySwitchFirst_21
    · refine zr_iconst hx hb dX1_maySwitchFirst_16 ?_
      refine lv_goto (tgt := 21) hx hb dX1_maySwitchFirst_17 (by decide) ?_
      exact W.zret (v := zi_n 1) (ty := .boolean) hx hb hr zl_b1 (fun t ht hW => ⟨_, rfl, zl_t (by unfold zh_may1; omega), ht⟩) (fun q hq => nomatch hq) dX1_maySwitchFirst_21

set_option maxHeartbeats 4000000 in
set_option maxRecDepth 100000 in
theorem c_R_maySwitchSecond (l : Launch) (p0 : Int) (p1 : Int) (p2 : Int) (p3 : Int) (h0 : 1 ≤ p0 ∧ p0 ≤ 8) (h1 : 0 ≤ p1 ∧ p1 ≤ 15) (h2 : p2 = 0 ∨ p2 = 1) (h3 : p3 = 0 ∨ p3 = 1) : Met l yX1_maySwitchSecond wsX1_maySwitchSecond ({ frames := 0, cells := 0, slots := 0, locals := 0 }) (va_Pc [.int (zi_n p0), .int (zi_n p1), .int (zi_n p2), .int (zi_n p3)] (fun _ => True)) (vp_Si (fun r => (r = zi_n 1 ∧ (zh_may2 p0 p1 p2 p3)) ∨ (r = zi_n 0 ∧ ¬ (zh_may2 p0 p1 p2 p3)))) 0 0 (fun _ => False) := by
  refine Met.ofW (cc := cX1_maySwitchSecond) (maxL := 4) (ret := (some .boolean)) (by decide) rfl ?_
  intro p e s m args below meth c s₁ B hml hv
  obtain ⟨rfl, -⟩ := hv
  have hx := B.exec
  have hb := B.bytes
  have hr := B.returns
  have hts := atoms_spec (ws := wsX1_maySwitchSecond) B.pre
  have hown : s.vm.findClass RX1 = some m.cls := findClass_of_methodNamed B.named
  have hlocks := B.notSynchronized
  have hl := lv_entry ([.int (zi_n p0), .int (zi_n p1), .int (zi_n p2), .int (zi_n p3)]) (n := 4) (Nat.le_of_ble_eq_true rfl)
  rw [lg_entry_eq]
  generalize (lg_sl ([.int (zi_n p0), .int (zi_n p1), .int (zi_n p2), .int (zi_n p3)]) ++ List.replicate (4 - (lg_sl ([.int (zi_n p0), .int (zi_n p1), .int (zi_n p2), .int (zi_n p3)])).length) Slot.unset).toArray = ls at hl ⊢
  have hl : lv_has ls 4 [(0, .int (zi_n p0)), (1, .int (zi_n p1)), (2, .int (zi_n p2)), (3, .int (zi_n p3))] := hl
  refine lv_iload_n hx hb dX1_maySwitchSecond_0 rfl (lv_at hl 1 rfl) ?_
  refine zr_if_ne (tgt := 6) hx hb dX1_maySwitchSecond_1 (by decide) (by omega) (fun c_1 => ?_) (fun c_1 => ?_)
  · refine lv_iload_n hx hb dX1_maySwitchSecond_6 rfl (lv_at hl 1 rfl) ?_
    refine zr_iconst hx hb dX1_maySwitchSecond_7 ?_
    refine zr_icmp_ne (tgt := 26) hx hb dX1_maySwitchSecond_8 (by decide) (by omega) (by omega) (fun c_2 => ?_) (fun c_2 => ?_)
    · refine lv_iload_n hx hb dX1_maySwitchSecond_26 rfl (lv_at hl 1 rfl) ?_
      refine zr_iconst hx hb dX1_maySwitchSecond_27 ?_
      refine zr_icmp_ne (tgt := 51) hx hb dX1_maySwitchSecond_28 (by decide) (by omega) (by omega) (fun c_3 => ?_) (fun c_3 => ?_)
      · refine lv_iload_n hx hb dX1_maySwitchSecond_51 rfl (lv_at hl 3 rfl) ?_
        refine zr_if_ne (tgt := 59) hx hb dX1_maySwitchSecond_52 (by decide) (by omega) (fun c_4 => ?_) (fun c_4 => ?_)
        · refine zr_iconst hx hb dX1_maySwitchSecond_59 ?_
          exact W.zret (v := zi_n 0) (ty := .boolean) hx hb hr zl_b0 (fun t ht hW => ⟨_, rfl, zl_f (by unfold zh_may2; omega), ht⟩) (fun q hq => nomatch hq) dX1_maySwitchSecond_60
        · refine lv_iload_n hx hb dX1_maySwitchSecond_55 rfl (lv_at hl 2 rfl) ?_
          refine zr_if_eq (tgt := 61) hx hb dX1_maySwitchSecond_56 (by decide) (by omega) (fun c_5 => ?_) (fun c_5 => ?_)
          · refine lv_iload_n hx hb dX1_maySwitchSecond_61 rfl (lv_at hl 1 rfl) ?_
            refine zr_bipush hx hb dX1_maySwitchSecond_62 (by decide) ?_
            refine zr_icmp_gt (tgt := 80) hx hb dX1_maySwitchSecond_64 (by decide) (by omega) (by omega) (fun c_6 => ?_) (fun c_6 => ?_)
            · refine lv_iload_n hx hb dX1_maySwitchSecond_80 rfl (lv_at hl 1 rfl) ?_
              refine zr_bipush hx hb dX1_maySwitchSecond_81 (by decide) ?_
              refine zr_icmp_ne (tgt := 96) hx hb dX1_maySwitchSecond_83 (by decide) (by omega) (by omega) (fun c_7 => ?_) (fun c_7 => ?_)
              · refine zr_iconst hx hb dX1_maySwitchSecond_96 ?_
                exact W.zret (v := zi_n 0) (ty := .boolean) hx hb hr zl_b0 (fun t ht hW => ⟨_, rfl, zl_f (by unfold zh_may2; omega), ht⟩) (fun q hq => nomatch hq) dX1_maySwitchSecond_97
              · refine lv_iload_n hx hb dX1_maySwitchSecond_86 rfl (lv_at hl 0 rfl) ?_
                refine zr_bipush hx hb dX1_maySwitchSecond_87 (by decide) ?_
                refine zr_icmp_ne (tgt := 96) hx hb dX1_maySwitchSecond_89 (by decide) (by omega) (by omega) (fun c_8 => ?_) (fun c_8 => ?_)
                · refine zr_iconst hx hb dX1_maySwitchSecond_96 ?_
                  exact W.zret (v := zi_n 0) (ty := .boolean) hx hb hr zl_b0 (fun t ht hW => ⟨_, rfl, zl_f (by unfold zh_may2; omega), ht⟩) (fun q hq => nomatch hq) dX1_maySwitchSecond_97
                · refine zr_iconst hx hb dX1_maySwitchSecond_92 ?_
                  refine lv_goto (tgt := 97) hx hb dX1_maySwitchSecond_93 (by decide) ?_
                  exact W.zret (v := zi_n 1) (ty := .boolean) hx hb hr zl_b1 (fun t ht hW => ⟨_, rfl, zl_t (by unfold zh_may2; omega), ht⟩) (fun q hq => nomatch hq) dX1_maySwitchSecond_97
            · refine lv_iload_n hx hb dX1_maySwitchSecond_67 rfl (lv_at hl 0 rfl) ?_
              refine zr_iconst hx hb dX1_maySwitchSecond_68 ?_
              refine zr_icmp_lt (tgt := 76) hx hb dX1_maySwitchSecond_69 (by decide) (by omega) (by omega) (fun c_9 => ?_) (fun c_9 => ?_)
              · refine zr_iconst hx hb dX1_maySwitchSecond_76 ?_
                refine lv_goto (tgt := 97) hx hb dX1_maySwitchSecond_77 (by decide) ?_
                exact W.zret (v := zi_n 0) (ty := .boolean) hx hb hr zl_b0 (fun t ht hW => ⟨_, rfl, zl_f (by unfold zh_may2; omega), ht⟩) (fun q hq => nomatch hq) dX1_maySwitchSecond_97
              · refine zr_iconst hx hb dX1_maySwitchSecond_72 ?_
                refine lv_goto (tgt := 97) hx hb dX1_maySwitchSecond_73 (by decide) ?_
                exact W.zret (v := zi_n 1) (ty := .boolean) hx hb hr zl_b1 (fun t ht hW => ⟨_, rfl, zl_t (by unfold zh_may2; omega), ht⟩) (fun q hq => nomatch hq) dX1_maySwitchSecond_97
          · refine zr_iconst hx hb dX1_maySwitchSecond_59 ?_
            exact W.zret (v := zi_n 0) (ty := .boolean) hx hb hr zl_b0 (fun t ht hW => ⟨_, rfl, zl_f (by unfold zh_may2; omega), ht⟩) (fun q hq => nomatch hq) dX1_maySwitchSecond_60
      · refine lv_iload_n hx hb dX1_maySwitchSecond_31 rfl (lv_at hl 0 rfl) ?_
        refine zr_bipush hx hb dX1_maySwitchSecond_32 (by decide) ?_
        refine zr_icmp_ne (tgt := 49) hx hb dX1_maySwitchSecond_34 (by decide) (by omega) (by omega) (fun c_10 => ?_) (fun c_10 => ?_)
        · refine zr_iconst hx hb dX1_maySwitchSecond_49 ?_
          exact W.zret (v := zi_n 0) (ty := .boolean) hx hb hr zl_b0 (fun t ht hW => ⟨_, rfl, zl_f (by unfold zh_may2; omega), ht⟩) (fun q hq => nomatch hq) dX1_maySwitchSecond_50
        · refine lv_iload_n hx hb dX1_maySwitchSecond_37 rfl (lv_at hl 3 rfl) ?_
          refine zr_if_eq (tgt := 45) hx hb dX1_maySwitchSecond_38 (by decide) (by omega) (fun c_11 => ?_) (fun c_11 => ?_)
          · refine zr_iconst hx hb dX1_maySwitchSecond_45 ?_
            refine lv_goto (tgt := 50) hx hb dX1_maySwitchSecond_46 (by decide) ?_
            exact W.zret (v := zi_n 1) (ty := .boolean) hx hb hr zl_b1 (fun t ht hW => ⟨_, rfl, zl_t (by unfold zh_may2; omega), ht⟩) (fun q hq => nomatch hq) dX1_maySwitchSecond_50
          · refine lv_iload_n hx hb dX1_maySwitchSecond_41 rfl (lv_at hl 2 rfl) ?_
            refine zr_if_ne (tgt := 49) hx hb dX1_maySwitchSecond_42 (by decide) (by omega) (fun c_12 => ?_) (fun c_12 => ?_)
            · refine zr_iconst hx hb dX1_maySwitchSecond_49 ?_
              exact W.zret (v := zi_n 0) (ty := .boolean) hx hb hr zl_b0 (fun t ht hW => ⟨_, rfl, zl_f (by unfold zh_may2; omega), ht⟩) (fun q hq => nomatch hq) dX1_maySwitchSecond_50
            · refine zr_iconst hx hb dX1_maySwitchSecond_45 ?_
              refine lv_goto (tgt := 50) hx hb dX1_maySwitchSecond_46 (by decide) ?_
              exact W.zret (v := zi_n 1) (ty := .boolean) hx hb hr zl_b1 (fun t ht hW => ⟨_, rfl, zl_t (by unfold zh_may2; omega), ht⟩) (fun q hq => nomatch hq) dX1_maySwitchSecond_50
    · refine lv_iload_n hx hb dX1_maySwitchSecond_11 rfl (lv_at hl 3 rfl) ?_
      refine zr_if_eq (tgt := 24) hx hb dX1_maySwitchSecond_12 (by decide) (by omega) (fun c_13 => ?_) (fun c_13 => ?_)
      · refine zr_iconst hx hb dX1_maySwitchSecond_24 ?_
        exact W.zret (v := zi_n 0) (ty := .boolean) hx hb hr zl_b0 (fun t ht hW => ⟨_, rfl, zl_f (by unfold zh_may2; omega), ht⟩) (fun q hq => nomatch hq) dX1_maySwitchSecond_25
      · refine lv_iload_n hx hb dX1_maySwitchSecond_15 rfl (lv_at hl 0 rfl) ?_
        refine zr_iconst hx hb dX1_maySwitchSecond_16 ?_
        refine zr_icmp_lt (tgt := 24) hx hb dX1_maySwitchSecond_17 (by decide) (by omega) (by omega) (fun c_14 => ?_) (fun c_14 => ?_)
        · refine zr_iconst hx hb dX1_maySwitchSecond_24 ?_
          exact W.zret (v := zi_n 0) (ty := .boolean) hx hb hr zl_b0 (fun t ht hW => ⟨_, rfl, zl_f (by unfold zh_may2; omega), ht⟩) (fun q hq => nomatch hq) dX1_maySwitchSecond_25
        · refine zr_iconst hx hb dX1_maySwitchSecond_20 ?_
          refine lv_goto (tgt := 25) hx hb dX1_maySwitchSecond_21 (by decide) ?_
          exact W.zret (v := zi_n 1) (ty := .boolean) hx hb hr zl_b1 (fun t ht hW => ⟨_, rfl, zl_t (by unfold zh_may2; omega), ht⟩) (fun q hq => nomatch hq) dX1_maySwitchSecond_25
  · refine zr_iconst hx hb dX1_maySwitchSecond_4 ?_
    exact W.zret (v := zi_n 1) (ty := .boolean) hx hb hr zl_b1 (fun t ht hW => ⟨_, rfl, zl_t (by unfold zh_may2; omega), ht⟩) (fun q hq => nomatch hq) dX1_maySwitchSecond_5

set_option maxHeartbeats 4000000 in
set_option maxRecDepth 100000 in
theorem c_R_isWide (l : Launch) (p0 : Int) (rp0 : zi_R p0) : Met l yX1_isWide wsX1_isWide ({ frames := 0, cells := 0, slots := 0, locals := 0 }) (va_Pc [.int (zi_n p0)] (fun _ => True)) (vp_Si (fun r => (r = zi_n 1 ∧ (zh_wide p0)) ∨ (r = zi_n 0 ∧ ¬ (zh_wide p0)))) 0 0 (fun _ => False) := by
  refine Met.ofW (cc := cX1_isWide) (maxL := 1) (ret := (some .boolean)) (by decide) rfl ?_
  intro p e s m args below meth c s₁ B hml hv
  obtain ⟨rfl, -⟩ := hv
  have hx := B.exec
  have hb := B.bytes
  have hr := B.returns
  have hts := atoms_spec (ws := wsX1_isWide) B.pre
  have hown : s.vm.findClass RX1 = some m.cls := findClass_of_methodNamed B.named
  have hlocks := B.notSynchronized
  have hl := lv_entry ([.int (zi_n p0)]) (n := 1) (Nat.le_of_ble_eq_true rfl)
  rw [lg_entry_eq]
  generalize (lg_sl ([.int (zi_n p0)]) ++ List.replicate (1 - (lg_sl ([.int (zi_n p0)])).length) Slot.unset).toArray = ls at hl ⊢
  have hl : lv_has ls 1 [(0, .int (zi_n p0))] := hl
  refine lv_iload_n hx hb dX1_isWide_0 rfl (lv_at hl 0 rfl) ?_
  refine zr_iconst hx hb dX1_isWide_1 ?_
  refine zr_icmp_eq (tgt := 16) hx hb dX1_isWide_2 (by decide) (by omega) (by omega) (fun c_1 => ?_) (fun c_1 => ?_)
  · refine zr_iconst hx hb dX1_isWide_16 ?_
    refine lv_goto (tgt := 21) hx hb dX1_isWide_17 (by decide) ?_
    exact W.zret (v := zi_n 1) (ty := .boolean) hx hb hr zl_b1 (fun t ht hW => ⟨_, rfl, zl_t (by unfold zh_wide; omega), ht⟩) (fun q hq => nomatch hq) dX1_isWide_21
  · refine lv_iload_n hx hb dX1_isWide_5 rfl (lv_at hl 0 rfl) ?_
    refine zr_iconst hx hb dX1_isWide_6 ?_
    refine zr_icmp_eq (tgt := 16) hx hb dX1_isWide_7 (by decide) (by omega) (by omega) (fun c_2 => ?_) (fun c_2 => ?_)
    · refine zr_iconst hx hb dX1_isWide_16 ?_
      refine lv_goto (tgt := 21) hx hb dX1_isWide_17 (by decide) ?_
      exact W.zret (v := zi_n 1) (ty := .boolean) hx hb hr zl_b1 (fun t ht hW => ⟨_, rfl, zl_t (by unfold zh_wide; omega), ht⟩) (fun q hq => nomatch hq) dX1_isWide_21
    · refine lv_iload_n hx hb dX1_isWide_10 rfl (lv_at hl 0 rfl) ?_
      refine zr_bipush hx hb dX1_isWide_11 (by decide) ?_
      refine zr_icmp_ne (tgt := 20) hx hb dX1_isWide_13 (by decide) (by omega) (by omega) (fun c_3 => ?_) (fun c_3 => ?_)
      · refine zr_iconst hx hb dX1_isWide_20 ?_
        exact W.zret (v := zi_n 0) (ty := .boolean) hx hb hr zl_b0 (fun t ht hW => ⟨_, rfl, zl_f (by unfold zh_wide; omega), ht⟩) (fun q hq => nomatch hq) dX1_isWide_21
      · refine zr_iconst hx hb dX1_isWide_16 ?_
        refine lv_goto (tgt := 21) hx hb dX1_isWide_17 (by decide) ?_
        exact W.zret (v := zi_n 1) (ty := .boolean) hx hb hr zl_b1 (fun t ht hW => ⟨_, rfl, zl_t (by unfold zh_wide; omega), ht⟩) (fun q hq => nomatch hq) dX1_isWide_21

set_option maxHeartbeats 4000000 in
set_option maxRecDepth 100000 in
theorem c_R_settableFrom (l : Launch) (p0 : Int) (rp0 : zi_R p0) : Met l yX1_settableFrom wsX1_settableFrom ({ frames := 0, cells := 0, slots := 0, locals := 0 }) (va_Pc [.int (zi_n p0)] (fun _ => True)) (vp_Si (fun r => r = zi_n (zh_sf p0) ∧ 1 ≤ (zh_sf p0) ∧ (zh_sf p0) ≤ 5)) 0 0 (fun _ => False) := by
  refine Met.ofW (cc := cX1_settableFrom) (maxL := 1) (ret := (some .int)) (by decide) rfl ?_
  intro p e s m args below meth c s₁ B hml hv
  obtain ⟨rfl, -⟩ := hv
  have hx := B.exec
  have hb := B.bytes
  have hr := B.returns
  have hts := atoms_spec (ws := wsX1_settableFrom) B.pre
  have hown : s.vm.findClass RX1 = some m.cls := findClass_of_methodNamed B.named
  have hlocks := B.notSynchronized
  have hl := lv_entry ([.int (zi_n p0)]) (n := 1) (Nat.le_of_ble_eq_true rfl)
  rw [lg_entry_eq]
  generalize (lg_sl ([.int (zi_n p0)]) ++ List.replicate (1 - (lg_sl ([.int (zi_n p0)])).length) Slot.unset).toArray = ls at hl ⊢
  have hl : lv_has ls 1 [(0, .int (zi_n p0))] := hl
  refine lv_iload_n hx hb dX1_settableFrom_0 rfl (lv_at hl 0 rfl) ?_
  refine zr_iconst hx hb dX1_settableFrom_1 ?_
  refine zr_icmp_gt (tgt := 7) hx hb dX1_settableFrom_2 (by decide) (by omega) (by omega) (fun c_1 => ?_) (fun c_1 => ?_)
  · refine lv_iload_n hx hb dX1_settableFrom_7 rfl (lv_at hl 0 rfl) ?_
    refine zr_bipush hx hb dX1_settableFrom_8 (by decide) ?_
    refine zr_icmp_gt (tgt := 17) hx hb dX1_settableFrom_10 (by decide) (by omega) (by omega) (fun c_2 => ?_) (fun c_2 => ?_)
    · refine zr_iconst hx hb dX1_settableFrom_17 ?_
      exact W.iret (v := zi_n 1) hx hb hr (fun t ht hW => ⟨_, rfl, zl_r (by unfold zh_sf; (repeat' split) <;> omega) (by omega), ht⟩) (fun q hq => nomatch hq) dX1_settableFrom_18
    · refine zr_iconst hx hb dX1_settableFrom_13 ?_
      refine lv_goto (tgt := 18) hx hb dX1_settableFrom_14 (by decide) ?_
      exact W.iret (v := zi_n 5) hx hb hr (fun t ht hW => ⟨_, rfl, zl_r (by unfold zh_sf; (repeat' split) <;> omega) (by omega), ht⟩) (fun q hq => nomatch hq) dX1_settableFrom_18
  · refine zr_iconst hx hb dX1_settableFrom_5 ?_
    exact W.iret (v := zi_n 4) hx hb hr (fun t ht hW => ⟨_, rfl, zl_r (by unfold zh_sf; (repeat' split) <;> omega) (by omega), ht⟩) (fun q hq => nomatch hq) dX1_settableFrom_6

set_option maxHeartbeats 4000000 in
set_option maxRecDepth 100000 in
theorem c_R_settingPlace (l : Launch) (p0 : Int) (p1 : Int) (h0 : 0 ≤ p0 ∧ p0 ≤ 10) (h1 : 1 ≤ p1 ∧ p1 ≤ 8) : Met l yX1_settingPlace wsX1_settingPlace ({ frames := 0, cells := 0, slots := 0, locals := 0 }) (va_Pc [.int (zi_n p0), .int (zi_n p1)] (fun _ => True)) (vp_Si (fun r => r = zi_n (zh_sp p0 p1) ∧ 30 ≤ (zh_sp p0 p1) ∧ (zh_sp p0 p1) ≤ 50)) 0 0 (fun _ => False) := by
  refine Met.ofW (cc := cX1_settingPlace) (maxL := 2) (ret := (some .int)) (by decide) rfl ?_
  intro p e s m args below meth c s₁ B hml hv
  obtain ⟨rfl, -⟩ := hv
  have hx := B.exec
  have hb := B.bytes
  have hr := B.returns
  have hts := atoms_spec (ws := wsX1_settingPlace) B.pre
  have hown : s.vm.findClass RX1 = some m.cls := findClass_of_methodNamed B.named
  have hlocks := B.notSynchronized
  have hl := lv_entry ([.int (zi_n p0), .int (zi_n p1)]) (n := 2) (Nat.le_of_ble_eq_true rfl)
  rw [lg_entry_eq]
  generalize (lg_sl ([.int (zi_n p0), .int (zi_n p1)]) ++ List.replicate (2 - (lg_sl ([.int (zi_n p0), .int (zi_n p1)])).length) Slot.unset).toArray = ls at hl ⊢
  have hl : lv_has ls 2 [(0, .int (zi_n p0)), (1, .int (zi_n p1))] := hl
  refine lv_iload_n hx hb dX1_settingPlace_0 rfl (lv_at hl 0 rfl) ?_
  rcases (show p0 = 0 ∨ p0 = 1 ∨ p0 = 2 ∨ p0 = 3 ∨ p0 = 4 ∨ p0 = 5 ∨ p0 = 6 ∨ p0 = 7 ∨ p0 = 8 ∨ p0 = 9 ∨ p0 = 10 by omega) with rfl | rfl | rfl | rfl | rfl | rfl | rfl | rfl | rfl | rfl | rfl
  · skip
    refine zr_tabOut (tgt := 85) hx hb dX1_settingPlace_1 (by decide) (by decide) (by decide) ?_
    refine zr_bipush hx hb dX1_settingPlace_85 (by decide) ?_
    refine lv_iload_n hx hb dX1_settingPlace_87 rfl (lv_at hl 0 rfl) ?_
    refine zr_iadd hx hb dX1_settingPlace_88 ?_
    exact W.iret (v := zi_n 30) hx hb hr (fun t ht hW => ⟨_, rfl, zl_r (by unfold zh_sp; (repeat' split) <;> omega) (by omega), ht⟩) (fun q hq => nomatch hq) dX1_settingPlace_89
  · skip
    refine zr_tabOut (tgt := 85) hx hb dX1_settingPlace_1 (by decide) (by decide) (by decide) ?_
    refine zr_bipush hx hb dX1_settingPlace_85 (by decide) ?_
    refine lv_iload_n hx hb dX1_settingPlace_87 rfl (lv_at hl 0 rfl) ?_
    refine zr_iadd hx hb dX1_settingPlace_88 ?_
    exact W.iret (v := zi_n 31) hx hb hr (fun t ht hW => ⟨_, rfl, zl_r (by unfold zh_sp; (repeat' split) <;> omega) (by omega), ht⟩) (fun q hq => nomatch hq) dX1_settingPlace_89
  · skip
    refine zr_tabOut (tgt := 85) hx hb dX1_settingPlace_1 (by decide) (by decide) (by decide) ?_
    refine zr_bipush hx hb dX1_settingPlace_85 (by decide) ?_
    refine lv_iload_n hx hb dX1_settingPlace_87 rfl (lv_at hl 0 rfl) ?_
    refine zr_iadd hx hb dX1_settingPlace_88 ?_
    exact W.iret (v := zi_n 32) hx hb hr (fun t ht hW => ⟨_, rfl, zl_r (by unfold zh_sp; (repeat' split) <;> omega) (by omega), ht⟩) (fun q hq => nomatch hq) dX1_settingPlace_89
  · skip
    refine zr_tabOut (tgt := 85) hx hb dX1_settingPlace_1 (by decide) (by decide) (by decide) ?_
    refine zr_bipush hx hb dX1_settingPlace_85 (by decide) ?_
    refine lv_iload_n hx hb dX1_settingPlace_87 rfl (lv_at hl 0 rfl) ?_
    refine zr_iadd hx hb dX1_settingPlace_88 ?_
    exact W.iret (v := zi_n 33) hx hb hr (fun t ht hW => ⟨_, rfl, zl_r (by unfold zh_sp; (repeat' split) <;> omega) (by omega), ht⟩) (fun q hq => nomatch hq) dX1_settingPlace_89
  · skip
    refine zr_tabIn (tgt := 44) hx hb dX1_settingPlace_1 (by decide) (by decide) (by decide) rfl (by decide) ?_
    refine zr_bipush hx hb dX1_settingPlace_44 (by decide) ?_
    exact W.iret (v := zi_n 34) hx hb hr (fun t ht hW => ⟨_, rfl, zl_r (by unfold zh_sp; (repeat' split) <;> omega) (by omega), ht⟩) (fun q hq => nomatch hq) dX1_settingPlace_46
  · skip
    refine zr_tabIn (tgt := 47) hx hb dX1_settingPlace_1 (by decide) (by decide) (by decide) rfl (by decide) ?_
    refine zr_bipush hx hb dX1_settingPlace_47 (by decide) ?_
    exact W.iret (v := zi_n 36) hx hb hr (fun t ht hW => ⟨_, rfl, zl_r (by unfold zh_sp; (repeat' split) <;> omega) (by omega), ht⟩) (fun q hq => nomatch hq) dX1_settingPlace_49
  · skip
    refine zr_tabIn (tgt := 50) hx hb dX1_settingPlace_1 (by decide) (by decide) (by decide) rfl (by decide) ?_
    refine lv_iload_n hx hb dX1_settingPlace_50 rfl (lv_at hl 1 rfl) ?_
    refine zr_iconst hx hb dX1_settingPlace_51 ?_
    refine zr_icmp_ne (tgt := 60) hx hb dX1_settingPlace_52 (by decide) (by omega) (by omega) (fun c_2 => ?_) (fun c_2 => ?_)
    · refine zr_bipush hx hb dX1_settingPlace_60 (by decide) ?_
      exact W.iret (v := zi_n 39) hx hb hr (fun t ht hW => ⟨_, rfl, zl_r (by unfold zh_sp; (repeat' split) <;> omega) (by omega), ht⟩) (fun q hq => nomatch hq) dX1_settingPlace_62
    · refine zr_bipush hx hb dX1_settingPlace_55 (by decide) ?_
      refine lv_goto (tgt := 62) hx hb dX1_settingPlace_57 (by decide) ?_
      exact W.iret (v := zi_n 38) hx hb hr (fun t ht hW => ⟨_, rfl, zl_r (by unfold zh_sp; (repeat' split) <;> omega) (by omega), ht⟩) (fun q hq => nomatch hq) dX1_settingPlace_62
  · skip
    refine zr_tabIn (tgt := 63) hx hb dX1_settingPlace_1 (by decide) (by decide) (by decide) rfl (by decide) ?_
    refine lv_iload_n hx hb dX1_settingPlace_63 rfl (lv_at hl 1 rfl) ?_
    refine zr_iconst hx hb dX1_settingPlace_64 ?_
    refine zr_icmp_ne (tgt := 73) hx hb dX1_settingPlace_65 (by decide) (by omega) (by omega) (fun c_3 => ?_) (fun c_3 => ?_)
    · refine zr_bipush hx hb dX1_settingPlace_73 (by decide) ?_
      exact W.iret (v := zi_n 38) hx hb hr (fun t ht hW => ⟨_, rfl, zl_r (by unfold zh_sp; (repeat' split) <;> omega) (by omega), ht⟩) (fun q hq => nomatch hq) dX1_settingPlace_75
    · refine zr_bipush hx hb dX1_settingPlace_68 (by decide) ?_
      refine lv_goto (tgt := 75) hx hb dX1_settingPlace_70 (by decide) ?_
      exact W.iret (v := zi_n 39) hx hb hr (fun t ht hW => ⟨_, rfl, zl_r (by unfold zh_sp; (repeat' split) <;> omega) (by omega), ht⟩) (fun q hq => nomatch hq) dX1_settingPlace_75
  · skip
    refine zr_tabIn (tgt := 76) hx hb dX1_settingPlace_1 (by decide) (by decide) (by decide) rfl (by decide) ?_
    refine zr_bipush hx hb dX1_settingPlace_76 (by decide) ?_
    exact W.iret (v := zi_n 44) hx hb hr (fun t ht hW => ⟨_, rfl, zl_r (by unfold zh_sp; (repeat' split) <;> omega) (by omega), ht⟩) (fun q hq => nomatch hq) dX1_settingPlace_78
  · skip
    refine zr_tabIn (tgt := 79) hx hb dX1_settingPlace_1 (by decide) (by decide) (by decide) rfl (by decide) ?_
    refine zr_bipush hx hb dX1_settingPlace_79 (by decide) ?_
    exact W.iret (v := zi_n 45) hx hb hr (fun t ht hW => ⟨_, rfl, zl_r (by unfold zh_sp; (repeat' split) <;> omega) (by omega), ht⟩) (fun q hq => nomatch hq) dX1_settingPlace_81
  · skip
    refine zr_tabIn (tgt := 82) hx hb dX1_settingPlace_1 (by decide) (by decide) (by decide) rfl (by decide) ?_
    refine zr_bipush hx hb dX1_settingPlace_82 (by decide) ?_
    exact W.iret (v := zi_n 50) hx hb hr (fun t ht hW => ⟨_, rfl, zl_r (by unfold zh_sp; (repeat' split) <;> omega) (by omega), ht⟩) (fun q hq => nomatch hq) dX1_settingPlace_84
end
section
set_option maxHeartbeats 4000000 in
set_option maxRecDepth 100000 in
theorem c_Z_isByte (l : Launch) (p0 : Int) (h0 : zi_R p0) : Met l yX3_isByte wsX3_isByte ({ frames := 0, cells := 0, slots := 0, locals := 0 }) (va_Pc [.int (zi_n p0)] (fun _ => True)) (vp_Si (fun r => (r = zi_n 1 ∧ (0 ≤ p0 ∧ p0 ≤ 255)) ∨ (r = zi_n 0 ∧ ¬ (0 ≤ p0 ∧ p0 ≤ 255)))) 0 0 (fun _ => False) := by
  refine Met.ofW (cc := cX3_isByte) (maxL := 1) (ret := (some .boolean)) (by decide) rfl ?_
  intro p e s m args below meth c s₁ B hml hv
  obtain ⟨rfl, -⟩ := hv
  have hx := B.exec
  have hb := B.bytes
  have hr := B.returns
  have hts := atoms_spec (ws := wsX3_isByte) B.pre
  have hown : s.vm.findClass RX3 = some m.cls := findClass_of_methodNamed B.named
  have hlocks := B.notSynchronized
  have hl := lv_entry ([.int (zi_n p0)]) (n := 1) (Nat.le_of_ble_eq_true rfl)
  rw [lg_entry_eq]
  generalize (lg_sl ([.int (zi_n p0)]) ++ List.replicate (1 - (lg_sl ([.int (zi_n p0)])).length) Slot.unset).toArray = ls at hl ⊢
  have hl : lv_has ls 1 [(0, .int (zi_n p0))] := hl
  refine lv_iload_n hx hb dX3_isByte_0 rfl (lv_at hl 0 rfl) ?_
  refine zr_if_lt (tgt := 15) hx hb dX3_isByte_1 (by decide) (by omega) (fun c_1 => ?_) (fun c_1 => ?_)
  · refine zr_iconst hx hb dX3_isByte_15 ?_
    exact W.zret (v := zi_n 0) (ty := .boolean) hx hb hr zl_b0 (fun t ht hW => ⟨_, rfl, zl_f (by omega), ht⟩) (fun q hq => nomatch hq) dX3_isByte_16
  · refine lv_iload_n hx hb dX3_isByte_4 rfl (lv_at hl 0 rfl) ?_
    refine zr_sipush hx hb dX3_isByte_5 (by decide) ?_
    refine zr_icmp_gt (tgt := 15) hx hb dX3_isByte_8 (by decide) (by omega) (by omega) (fun c_2 => ?_) (fun c_2 => ?_)
    · refine zr_iconst hx hb dX3_isByte_15 ?_
      exact W.zret (v := zi_n 0) (ty := .boolean) hx hb hr zl_b0 (fun t ht hW => ⟨_, rfl, zl_f (by omega), ht⟩) (fun q hq => nomatch hq) dX3_isByte_16
    · refine zr_iconst hx hb dX3_isByte_11 ?_
      refine lv_goto (tgt := 16) hx hb dX3_isByte_12 (by decide) ?_
      exact W.zret (v := zi_n 1) (ty := .boolean) hx hb hr zl_b1 (fun t ht hW => ⟨_, rfl, zl_t (by omega), ht⟩) (fun q hq => nomatch hq) dX3_isByte_16

set_option maxHeartbeats 4000000 in
set_option maxRecDepth 100000 in
theorem c_Z_isTwo (l : Launch) (p0 : Int) (h0 : zi_R p0) : Met l yX3_isTwo wsX3_isTwo ({ frames := 0, cells := 0, slots := 0, locals := 0 }) (va_Pc [.int (zi_n p0)] (fun _ => True)) (vp_Si (fun r => (r = zi_n 1 ∧ (0 ≤ p0 ∧ p0 ≤ 65535)) ∨ (r = zi_n 0 ∧ ¬ (0 ≤ p0 ∧ p0 ≤ 65535)))) 0 0 (fun _ => False) := by
  refine Met.ofW (cc := cX3_isTwo) (maxL := 1) (ret := (some .boolean)) (by decide) rfl ?_
  intro p e s m args below meth c s₁ B hml hv
  obtain ⟨rfl, -⟩ := hv
  have hx := B.exec
  have hb := B.bytes
  have hr := B.returns
  have hts := atoms_spec (ws := wsX3_isTwo) B.pre
  have hown : s.vm.findClass RX3 = some m.cls := findClass_of_methodNamed B.named
  have hlocks := B.notSynchronized
  have hl := lv_entry ([.int (zi_n p0)]) (n := 1) (Nat.le_of_ble_eq_true rfl)
  rw [lg_entry_eq]
  generalize (lg_sl ([.int (zi_n p0)]) ++ List.replicate (1 - (lg_sl ([.int (zi_n p0)])).length) Slot.unset).toArray = ls at hl ⊢
  have hl : lv_has ls 1 [(0, .int (zi_n p0))] := hl
  refine lv_iload_n hx hb dX3_isTwo_0 rfl (lv_at hl 0 rfl) ?_
  refine zr_if_lt (tgt := 14) hx hb dX3_isTwo_1 (by decide) (by omega) (fun c_1 => ?_) (fun c_1 => ?_)
  · refine zr_iconst hx hb dX3_isTwo_14 ?_
    exact W.zret (v := zi_n 0) (ty := .boolean) hx hb hr zl_b0 (fun t ht hW => ⟨_, rfl, zl_f (by omega), ht⟩) (fun q hq => nomatch hq) dX3_isTwo_15
  · refine lv_iload_n hx hb dX3_isTwo_4 rfl (lv_at hl 0 rfl) ?_
    refine zr_ldc (n := 65535) hx hb hown (hts (.constant RX3 173 (65535)) (by decide +kernel)) (by decide) dX3_isTwo_5 ?_
    refine zr_icmp_gt (tgt := 14) hx hb dX3_isTwo_7 (by decide) (by omega) (by omega) (fun c_2 => ?_) (fun c_2 => ?_)
    · refine zr_iconst hx hb dX3_isTwo_14 ?_
      exact W.zret (v := zi_n 0) (ty := .boolean) hx hb hr zl_b0 (fun t ht hW => ⟨_, rfl, zl_f (by omega), ht⟩) (fun q hq => nomatch hq) dX3_isTwo_15
    · refine zr_iconst hx hb dX3_isTwo_10 ?_
      refine lv_goto (tgt := 15) hx hb dX3_isTwo_11 (by decide) ?_
      exact W.zret (v := zi_n 1) (ty := .boolean) hx hb hr zl_b1 (fun t ht hW => ⟨_, rfl, zl_t (by omega), ht⟩) (fun q hq => nomatch hq) dX3_isTwo_15

theorem in_X3_append_X3 : ∀ w ∈ u_ws RX3 TX3 5, w ∈ wsX3_append := by decide +kernel
set_option maxHeartbeats 4000000 in
set_option maxRecDepth 100000 in
theorem c_Z_append (l : Launch) (D : va_G) (x q q2 hh a a2 : Nat) (cA cB : ClassId) (F G : Nat → Int) (n k rd br : Int) (hF : zi_By F) (hn : 0 ≤ n ∧ n ≤ 600) (hG : zi_By G) (hk : 0 ≤ k ∧ k ≤ 600) (hrd : rd = 0 ∨ rd = 1) (hbr : 0 ≤ br ∧ br ≤ 15) (sz : Nat) (p0 : Int) (p1 : Int) (hp : 1 ≤ p0 ∧ p0 ≤ 600) (hq : 0 ≤ p1 ∧ p1 ≤ 255) : Met l yX3_append wsX3_append ({ frames := 1, cells := 0, slots := 0, locals := 21 }) (va_Pc [.ref x, .int (zi_n p0), .int (zi_n p1)] (zp_P D vwCl sz [(x, .inr (4, [.ref q, .ref q2, .ref hh, .int (zi_n rd), .int (zi_n br)])), (q, .inr (3, [.ref a, .int (zi_n n)])), (q2, .inr (3, [.ref a2, .int (zi_n k)])), (hh, .inr (2, [.ref q])), (a, .inl (cA, 600, .inl (zi_F F))), (a2, .inl (cB, 600, .inl (zi_F G)))] [(cA, .int), (cB, .int)])) (va_Qi (fun (r : Int32) (_ : Unit) => r = zi_n (zh_apE n p0) ∧ -14 ≤ (zh_apE n p0) ∧ (zh_apE n p0) ≤ 600) (fun (_ : Unit) => zp_B D vwCl [(cA, .int), (cB, .int)] (va_A [(x, .inr (4, [.ref q, .ref q2, .ref hh, .int (zi_n rd), .int (zi_n br)])), (q, .inr (3, [.ref a, .int (zi_n n)])), (q2, .inr (3, [.ref a2, .int (zi_n k)])), (hh, .inr (2, [.ref q])), (a, .inl (cA, 600, .inl (zi_F F))), (a2, .inl (cB, 600, .inl (zi_F G)))] sz) [(x, .inr (4, [.ref q, .ref q2, .ref hh, .int (zi_n (zh_apR n rd p0)), .int (zi_n br)])), (q, .inr (3, [.ref a, .int (zi_n (zh_apN n p0))])), (q2, .inr (3, [.ref a2, .int (zi_n k)])), (hh, .inr (2, [.ref q])), (a, .inl (cA, 600, .inl (zi_F (zh_apF F n p0 p1)))), (a2, .inl (cB, 600, .inl (zi_F G)))]) (va_A [(x, .inr (4, [.ref q, .ref q2, .ref hh, .int (zi_n rd), .int (zi_n br)])), (q, .inr (3, [.ref a, .int (zi_n n)])), (q2, .inr (3, [.ref a2, .int (zi_n k)])), (hh, .inr (2, [.ref q])), (a, .inl (cA, 600, .inl (zi_F F))), (a2, .inl (cB, 600, .inl (zi_F G)))] sz)) 0 0 (va_A [(x, .inr (4, [.ref q, .ref q2, .ref hh, .int (zi_n rd), .int (zi_n br)])), (q, .inr (3, [.ref a, .int (zi_n n)])), (q2, .inr (3, [.ref a2, .int (zi_n k)])), (hh, .inr (2, [.ref q])), (a, .inl (cA, 600, .inl (zi_F F))), (a2, .inl (cB, 600, .inl (zi_F G)))] sz) := by
  refine Met.ofW (cc := cX3_append) (maxL := 4) (ret := (some .int)) (by decide) rfl ?_
  intro p e s m args below meth c s₁ B hml hv
  obtain ⟨rfl, hsz, hP, hK, hD0⟩ := hv
  have hx := B.exec
  have hb := B.bytes
  have hr := B.returns
  have hts := atoms_spec (ws := wsX3_append) B.pre
  have hown : s.vm.findClass RX3 = some m.cls := findClass_of_methodNamed B.named
  have hlocks := B.notSynchronized
  subst hsz
  have hD := hD0.self (sz := s.heap.size)
  generalize hAe : va_A [(x, .inr (4, [.ref q, .ref q2, .ref hh, .int (zi_n rd), .int (zi_n br)])), (q, .inr (3, [.ref a, .int (zi_n n)])), (q2, .inr (3, [.ref a2, .int (zi_n k)])), (hh, .inr (2, [.ref q])), (a, .inl (cA, 600, .inl (zi_F F))), (a2, .inl (cB, 600, .inl (zi_F G)))] s.heap.size = A at hD ⊢
  have hA : ∀ q : Nat, s.heap.size ≤ q → A q := fun q h => by rw [← hAe]; exact Or.inr h
  have hS : va_S A s.heap s.heap [] := va_S.rf
  have hP : va_P D vwCl [(x, .inr (4, [.ref q, .ref q2, .ref hh, .int (zi_n rd), .int (zi_n br)])), (q, .inr (3, [.ref a, .int (zi_n n)])), (q2, .inr (3, [.ref a2, .int (zi_n k)])), (hh, .inr (2, [.ref q])), (a, .inl (cA, 600, .inl (zi_F F))), (a2, .inl (cB, 600, .inl (zi_F G)))] s.heap := hP
  have hl := lv_entry ([.ref x, .int (zi_n p0), .int (zi_n p1)]) (n := 4) (Nat.le_of_ble_eq_true rfl)
  rw [lg_entry_eq]
  generalize (lg_sl ([.ref x, .int (zi_n p0), .int (zi_n p1)]) ++ List.replicate (4 - (lg_sl ([.ref x, .int (zi_n p0), .int (zi_n p1)])).length) Slot.unset).toArray = ls at hl ⊢
  have hl : lv_has ls 4 [(0, .ref x), (1, .int (zi_n p0)), (2, .int (zi_n p1))] := hl
  refine lv_iload_n hx hb dX3_append_0 rfl (lv_at hl 1 rfl) ?_
  refine lv_aload_n hx hb dX3_append_1 rfl (lv_at hl 0 rfl) ?_
  refine va_get (D := D) (ci := 4) (v := .ref q) (C := RX3) (T := TX3) (N := 5) hx hb hts in_X3_append_X3 hown hK hP 0 rfl rfl 0 (by decide) (hts (.fieldLink RX3 10 "ZHeads" "file" "LZHeads$Row;") (by decide +kernel)) (fun _ h9 => h9) rfl dX3_append_2 ?_
  refine zc_V (As := []) (rest := [.int (zi_n p0)]) ⟨hx, hb, hml, hown, hts⟩ (c_Row_room l D q a cA F n hF (by omega)) (cwV 0 hts gX3_append_X2_room rfl rfl rfl (by decide +kernel) ⟨(Nat.le_of_ble_eq_true rfl), (Nat.le_of_ble_eq_true rfl)⟩) hP hK [1, 4] [0] rfl rfl (ci := 3) rfl rfl rfl rfl hl.1 rfl (Nat.le_of_ble_eq_true rfl) dX3_append_5 ⟨Nat.zero_le _, Nat.zero_le _⟩ (fun r hr1 => ?_)
  obtain ⟨rfl, b_1⟩ := hr1
  refine zr_icmp_le (tgt := 14) hx hb dX3_append_8 (by decide) (by omega) (by omega) (fun c_2 => ?_) (fun c_2 => ?_)
  · refine zr_iconst hx hb dX3_append_14 ?_
    refine lv_istore_n (lv' := [(3, .int (zi_n 0)), (0, .ref x), (1, .int (zi_n p0)), (2, .int (zi_n p1))]) hx hb dX3_append_15 rfl hl (by decide) rfl (fun ls hl => ?_)
    have key : ∀ (N : Nat) (i : Int), (0 ≤ i) → (i ≤ p0) → p0 - i < N → ∀ (H : Heap) (locs : List Loc), va_P D vwCl [(x, .inr (4, [.ref q, .ref q2, .ref hh, .int (zi_n rd), .int (zi_n br)])), (q, .inr (3, [.ref a, .int (zi_n (n + i))])), (q2, .inr (3, [.ref a2, .int (zi_n k)])), (hh, .inr (2, [.ref q])), (a, .inl (cA, 600, .inl (zi_F (zh_fl F n i p1)))), (a2, .inl (cB, 600, .inl (zi_F G)))] H → va_D A [(x, .inr (4, [.ref q, .ref q2, .ref hh, .int (zi_n rd), .int (zi_n br)])), (q, .inr (3, [.ref a, .int (zi_n (n + i))])), (q2, .inr (3, [.ref a2, .int (zi_n k)])), (hh, .inr (2, [.ref q])), (a, .inl (cA, 600, .inl (zi_F (zh_fl F n i p1)))), (a2, .inl (cB, 600, .inl (zi_F G)))] → va_S A s.heap H locs → ∀ ls : Array Slot, lv_has ls 4 [(3, .int (zi_n i)), (0, .ref x), (1, .int (zi_n p0)), (2, .int (zi_n p1))] → W p l e (headSpec wsX3_append ({ frames := 1, cells := 0, slots := 0, locals := 21 })).room s m ([.ref x, .int (zi_n p0), .int (zi_n p1)] : List Value).toArray below meth c H locs 0 0 (MQ below (va_Qi (fun (r : Int32) (_ : Unit) => r = zi_n (zh_apE n p0) ∧ -14 ≤ (zh_apE n p0) ∧ (zh_apE n p0) ≤ 600) (fun (_ : Unit) => zp_B D vwCl [(cA, .int), (cB, .int)] A [(x, .inr (4, [.ref q, .ref q2, .ref hh, .int (zi_n (zh_apR n rd p0)), .int (zi_n br)])), (q, .inr (3, [.ref a, .int (zi_n (zh_apN n p0))])), (q2, .inr (3, [.ref a2, .int (zi_n k)])), (hh, .inr (2, [.ref q])), (a, .inl (cA, 600, .inl (zi_F (zh_apF F n p0 p1)))), (a2, .inl (cB, 600, .inl (zi_F G)))]) A) ([.ref x, .int (zi_n p0), .int (zi_n p1)] : List Value).toArray s 0 0 A) (F0 m 16 ls []) := by
      intro N
      induction N with
      | zero => intro i  h1 h2 hm H locs hP hD hS ls hl; exfalso; omega
      | succ N ih =>
        intro i  h1 h2 hm H locs hP hD hS ls hl
        have hFi : zi_By (zh_fl F n i p1) := zh_fl_By hF n i (by omega)
        refine lv_iload_n hx hb dX3_append_16 rfl (lv_at hl 0 rfl) ?_
        refine lv_iload_n hx hb dX3_append_17 rfl (lv_at hl 2 rfl) ?_
        refine zr_icmp_ge (tgt := 35) hx hb dX3_append_18 (by decide) (by omega) (by omega) (fun c_3 => ?_) (fun c_3 => ?_)
        · refine lv_aload_n hx hb dX3_append_35 rfl (lv_at hl 1 rfl) ?_
          refine zr_iconst hx hb dX3_append_36 ?_
          refine va_put (D := D) (ci := 4) (v := .int (zi_n 0)) (ty := .boolean) (C := RX3) (T := TX3) (N := 5) hx hb hts in_X3_append_X3 tyX3 tyX3_ok nmX3 hown hK hP hD hS 0 rfl rfl 3 (by decide) (hts (.fieldLink RX3 28 "ZHeads" "isRead" "Z") (by decide +kernel)) (fun _ h9 => h9) rfl (by decide +kernel) (by decide) rfl (Nat.le_of_ble_eq_true rfl) dX3_append_37 (fun H locs hP hD hS => ?_)
          have hP : va_P D vwCl [(x, .inr (4, [.ref q, .ref q2, .ref hh, .int (zi_n 0), .int (zi_n br)])), (q, .inr (3, [.ref a, .int (zi_n (n + i))])), (q2, .inr (3, [.ref a2, .int (zi_n k)])), (hh, .inr (2, [.ref q])), (a, .inl (cA, 600, .inl (zi_F (zh_fl F n i p1)))), (a2, .inl (cB, 600, .inl (zi_F G)))] H := hP
          have hD : va_D A [(x, .inr (4, [.ref q, .ref q2, .ref hh, .int (zi_n 0), .int (zi_n br)])), (q, .inr (3, [.ref a, .int (zi_n (n + i))])), (q2, .inr (3, [.ref a2, .int (zi_n k)])), (hh, .inr (2, [.ref q])), (a, .inl (cA, 600, .inl (zi_F (zh_fl F n i p1)))), (a2, .inl (cB, 600, .inl (zi_F G)))] := hD
          refine lv_aload_n hx hb dX3_append_40 rfl (lv_at hl 1 rfl) ?_
          refine va_get (D := D) (ci := 4) (v := .ref q) (C := RX3) (T := TX3) (N := 5) hx hb hts in_X3_append_X3 hown hK hP 0 rfl rfl 0 (by decide) (hts (.fieldLink RX3 10 "ZHeads" "file" "LZHeads$Row;") (by decide +kernel)) (fun _ h9 => h9) rfl dX3_append_41 ?_
          refine zc_V (As := []) (rest := []) ⟨hx, hb, hml, hown, hts⟩ (c_Row_count l D q a cA (zh_fl F n i p1) (n + i) hFi (by omega)) (cwV 0 hts gX3_append_X2_count rfl rfl rfl (by decide +kernel) ⟨(Nat.le_of_ble_eq_true rfl), (Nat.le_of_ble_eq_true rfl)⟩) hP hK [1, 4] [0] rfl rfl (ci := 3) rfl rfl rfl rfl hl.1 rfl (Nat.le_of_ble_eq_true rfl) dX3_append_44 ⟨Nat.zero_le _, Nat.zero_le _⟩ (fun r hr1 => ?_)
          obtain ⟨rfl, b_4⟩ := hr1
          have e_n_5_0 : zh_apR n rd p0 = 0 := by unfold zh_apR; rw [if_neg (by omega)]
          have e_n_5_1 : zh_apN n p0 = n + i := by unfold zh_apN; rw [if_neg (by omega)]; rw [show p0 = i by omega]
          have e_n_5_2 : zh_apF F n p0 p1 = zh_fl F n i p1 := by unfold zh_apF; rw [if_neg (by omega)]; rw [show p0 = i by omega]
          have hP9 : va_P D vwCl [(x, .inr (4, [.ref q, .ref q2, .ref hh, .int (zi_n (zh_apR n rd p0)), .int (zi_n br)])), (q, .inr (3, [.ref a, .int (zi_n (zh_apN n p0))])), (q2, .inr (3, [.ref a2, .int (zi_n k)])), (hh, .inr (2, [.ref q])), (a, .inl (cA, 600, .inl (zi_F (zh_apF F n p0 p1)))), (a2, .inl (cB, 600, .inl (zi_F G)))] H := by rw [e_n_5_0, e_n_5_1, e_n_5_2]; exact hP
          have hD9 : va_D A [(x, .inr (4, [.ref q, .ref q2, .ref hh, .int (zi_n (zh_apR n rd p0)), .int (zi_n br)])), (q, .inr (3, [.ref a, .int (zi_n (zh_apN n p0))])), (q2, .inr (3, [.ref a2, .int (zi_n k)])), (hh, .inr (2, [.ref q])), (a, .inl (cA, 600, .inl (zi_F (zh_apF F n p0 p1)))), (a2, .inl (cB, 600, .inl (zi_F G)))] := by rw [e_n_5_0, e_n_5_1, e_n_5_2]; exact hD
          exact W.iret (v := zi_n ((n + i))) hx hb hr (fun t ht hW => ⟨⟨zi_n ((n + i)), (), rfl, zl_r (by unfold zh_apE; rw [if_neg (by omega)]; omega) (by omega), by rw [ht]; exact hP9, va_K.moved hW.alike hK, hD9⟩, hS.F ht⟩) hS.2.2 dX3_append_47
        · refine lv_aload_n hx hb dX3_append_21 rfl (lv_at hl 1 rfl) ?_
          refine va_get (D := D) (ci := 4) (v := .ref q) (C := RX3) (T := TX3) (N := 5) hx hb hts in_X3_append_X3 hown hK hP 0 rfl rfl 0 (by decide) (hts (.fieldLink RX3 10 "ZHeads" "file" "LZHeads$Row;") (by decide +kernel)) (fun _ h9 => h9) rfl dX3_append_22 ?_
          refine lv_iload_n hx hb dX3_append_25 rfl (lv_at hl 3 rfl) ?_
          refine zc_Vv (As := [.int (zi_n p1)]) (rest := []) (wr := [(x, .inr (4, [.ref q, .ref q2, .ref hh, .int (zi_n rd), .int (zi_n br)])), (q2, .inr (3, [.ref a2, .int (zi_n k)])), (hh, .inr (2, [.ref q])), (a2, .inl (cB, 600, .inl (zi_F G)))]) (wf := fun (_ : Unit) => [(x, .inr (4, [.ref q, .ref q2, .ref hh, .int (zi_n rd), .int (zi_n br)])), (q, .inr (3, [.ref a, .int (zi_n ((n + i) + 1))])), (q2, .inr (3, [.ref a2, .int (zi_n k)])), (hh, .inr (2, [.ref q])), (a, .inl (cA, 600, .inl (zi_F (zi_up (zh_fl F n i p1) (n + i).toNat p1)))), (a2, .inl (cB, 600, .inl (zi_F G)))]) ⟨hx, hb, hml, hown, hts⟩ (c_Row_add l D q a cA (zh_fl F n i p1) (n + i) hFi (by omega) _ p1 (by omega) (by omega)) (cwV 1 hts gX3_append_X2_add rfl rfl rfl (by decide +kernel) ⟨(Nat.le_of_ble_eq_true rfl), (Nat.le_of_ble_eq_true rfl)⟩) hP hD hK hS hA [1, 4] [0, 2, 3, 5] [0] [0, 4, 1, 2, 5, 3] rfl rfl (by decide) rfl (by decide) (by decide) rfl (fun _ => rfl) (fun _ => rfl) (by decide) (ci := 3) rfl rfl rfl rfl hl.1 rfl (Nat.le_of_ble_eq_true rfl) dX3_append_26 ⟨Nat.zero_le _, Nat.zero_le _⟩ (fun _ hr1 H locs hP hD hS => ?_)
          have hF_6 : zi_By (zi_up (zh_fl F n i p1) (n + i).toNat p1) := zi_up_By hFi _ (by omega)
          have hP : va_P D vwCl [(x, .inr (4, [.ref q, .ref q2, .ref hh, .int (zi_n rd), .int (zi_n br)])), (q, .inr (3, [.ref a, .int (zi_n ((n + i) + 1))])), (q2, .inr (3, [.ref a2, .int (zi_n k)])), (hh, .inr (2, [.ref q])), (a, .inl (cA, 600, .inl (zi_F (zi_up (zh_fl F n i p1) (n + i).toNat p1)))), (a2, .inl (cB, 600, .inl (zi_F G)))] H := hP
          have hD : va_D A [(x, .inr (4, [.ref q, .ref q2, .ref hh, .int (zi_n rd), .int (zi_n br)])), (q, .inr (3, [.ref a, .int (zi_n ((n + i) + 1))])), (q2, .inr (3, [.ref a2, .int (zi_n k)])), (hh, .inr (2, [.ref q])), (a, .inl (cA, 600, .inl (zi_F (zi_up (zh_fl F n i p1) (n + i).toNat p1)))), (a2, .inl (cB, 600, .inl (zi_F G)))] := hD
          refine zr_iinc (lv' := [(3, .int (zi_n (i + 1))), (0, .ref x), (1, .int (zi_n p0)), (2, .int (zi_n p1))]) hx hb dX3_append_29 hl (k := 0) rfl (by decide) rfl (fun ls hl => ?_)
          refine lv_goto (tgt := 16) hx hb dX3_append_32 (by decide) ?_
          have e1 : zi_up (zh_fl F n i p1) (n + i).toNat p1 = zh_fl F n (i + 1) p1 := by exact zh_fl_s (by omega) (by omega)
          have e2 : n + i + 1 = n + (i + 1) := by omega
          rw [e1] at hP hD; rw [e2] at hP hD
          exact ih (i + 1) (by omega) (by omega) (by omega) H locs hP hD hS _ (lv_sub hl [0, 1, 2, 3] rfl)
    have e0 : zh_fl F n 0 p1 = F := by exact zh_fl_0 F n p1
    have e00 : n + 0 = n := by omega
    exact key 601 0 (by omega) (by omega) (by omega) _ _ (by rw [e0]; rw [e00]; exact hP) (by rw [e0]; rw [e00]; exact hD) hS _ hl
  · refine zr_bipush hx hb dX3_append_11 (by decide) ?_
    have e_n_7_0 : zh_apR n rd p0 = rd := by unfold zh_apR; exact if_pos (by omega)
    have e_n_7_1 : zh_apN n p0 = n := by unfold zh_apN; exact if_pos (by omega)
    have e_n_7_2 : zh_apF F n p0 p1 = F := by unfold zh_apF; exact if_pos (by omega)
    have hP9 : va_P D vwCl [(x, .inr (4, [.ref q, .ref q2, .ref hh, .int (zi_n (zh_apR n rd p0)), .int (zi_n br)])), (q, .inr (3, [.ref a, .int (zi_n (zh_apN n p0))])), (q2, .inr (3, [.ref a2, .int (zi_n k)])), (hh, .inr (2, [.ref q])), (a, .inl (cA, 600, .inl (zi_F (zh_apF F n p0 p1)))), (a2, .inl (cB, 600, .inl (zi_F G)))] s.heap := by rw [e_n_7_0, e_n_7_1, e_n_7_2]; exact hP
    have hD9 : va_D A [(x, .inr (4, [.ref q, .ref q2, .ref hh, .int (zi_n (zh_apR n rd p0)), .int (zi_n br)])), (q, .inr (3, [.ref a, .int (zi_n (zh_apN n p0))])), (q2, .inr (3, [.ref a2, .int (zi_n k)])), (hh, .inr (2, [.ref q])), (a, .inl (cA, 600, .inl (zi_F (zh_apF F n p0 p1)))), (a2, .inl (cB, 600, .inl (zi_F G)))] := by rw [e_n_7_0, e_n_7_1, e_n_7_2]; exact hD
    exact W.iret (v := zi_n (-14)) hx hb hr (fun t ht hW => ⟨⟨zi_n (-14), (), rfl, zl_r (by unfold zh_apE; exact if_pos (by omega)) (by omega), by rw [ht]; exact hP9, va_K.moved hW.alike hK, hD9⟩, hS.F ht⟩) hS.2.2 dX3_append_13
end
